theorem kt1 {i : Nat} {w : Cond} (h : tables_1_1[i]? = some w) : w ∈ lw_tbl := List.mem_append_right _ (show w ∈ tables_1 from List.mem_append_left _ (List.mem_of_getElem? h))
theorem kt2 {i : Nat} {w : Cond} (h : tables_1_2[i]? = some w) : w ∈ lw_tbl := List.mem_append_right _ (show w ∈ tables_1 from List.mem_append_right _ (List.mem_append_left _ (List.mem_of_getElem? h)))
theorem kt3 {i : Nat} {w : Cond} (h : tables_1_3[i]? = some w) : w ∈ lw_tbl := List.mem_append_right _ (show w ∈ tables_1 from List.mem_append_right _ (List.mem_append_right _ (List.mem_append_left _ (List.mem_of_getElem? h))))
theorem kt4 {i : Nat} {w : Cond} (h : tables_1_4[i]? = some w) : w ∈ lw_tbl := List.mem_append_right _ (show w ∈ tables_1 from List.mem_append_right _ (List.mem_append_right _ (List.mem_append_right _ (List.mem_append_left _ (List.mem_of_getElem? h)))))
theorem kt5 {i : Nat} {w : Cond} (h : tables_1_5[i]? = some w) : w ∈ lw_tbl := List.mem_append_right _ (show w ∈ tables_1 from List.mem_append_right _ (List.mem_append_right _ (List.mem_append_right _ (List.mem_append_right _ (List.mem_append_left _ (List.mem_of_getElem? h))))))
theorem kt6 {i : Nat} {w : Cond} (h : tables_1_6[i]? = some w) : w ∈ lw_tbl := List.mem_append_right _ (show w ∈ tables_1 from List.mem_append_right _ (List.mem_append_right _ (List.mem_append_right _ (List.mem_append_right _ (List.mem_append_right _ (List.mem_append_left _ (List.mem_of_getElem? h)))))))
theorem kt7 {i : Nat} {w : Cond} (h : tables_1_7[i]? = some w) : w ∈ lw_tbl := List.mem_append_right _ (show w ∈ tables_1 from List.mem_append_right _ (List.mem_append_right _ (List.mem_append_right _ (List.mem_append_right _ (List.mem_append_right _ (List.mem_append_right _ (List.mem_of_getElem? h)))))))
theorem k_ra {s : State} {a : Array Value} {ty : FieldType} (h : (Cond.arrayClass ty).before a s = true) (hn : ∀ C, ty ≠ .object C) : ∃ cA : ClassId, ArrOfT s cA ty ∧ va_RA s cA ty := by
  obtain ⟨cA, kA, comp, h1, h2, h3⟩ := Cond.arrayClass_spec h
  refine ⟨cA, fun n z => ⟨fun k h => (by cases h), kA, h2, comp, h3⟩, ?_⟩
  cases ty with
  | object C => exact absurd rfl (hn C)
  | _ => exact h1
theorem k_rq {s : State} {a : Array Value} {C : String} (h : (Cond.arrayOver (.object C)).before a s = true) : ∃ cA : ClassId, ArrOfT s cA (.object C) ∧ va_RA s cA (.object C) := by
  obtain ⟨comp, c, k, h1, h2, h3, h4, h5⟩ := Cond.arrayOver_spec h
  exact ⟨c, fun n z => ⟨fun k h => (by cases h), k, h3, comp, h4⟩, k, comp, h3, h4, h1, h5⟩
theorem k_rr {s : State} {a : Array Value} {t : FieldType} (h : (Cond.arrayOver (.array t)).before a s = true) : ∃ cA : ClassId, ArrOfT s cA (.array t) ∧ va_RA s cA (.array t) := by
  obtain ⟨comp, c, k, h1, h2, h3, h4, h5⟩ := arrayOver_specB h
  exact ⟨c, fun n z => ⟨fun k h => (by cases h), k, h3, comp, h4⟩, h5⟩
set_option maxHeartbeats 4000000 in
set_option maxRecDepth 100000 in
theorem k_env {s : State} {a : Array Value} (hts : ∀ w ∈ lw_tbl, w.before a s = true) : ∃ (D : va_G) (cy : Nat → ClassId), kE D (kTY cy) s := by
  have hG : ∀ w ∈ kGW, w.before a s = true := fun w h => hts w (List.mem_filter.mp h).1
  obtain ⟨c0, i0, K0⟩ := u_known (C := RX0) (T := TX0) (N := 3) (n := 3) hG inG_X0 (hts _ (kt1 (i := 181) rfl))
  obtain ⟨c1, i1, K1⟩ := u_known (C := RX1) (T := TX1) (N := 1) (n := 1) hG inG_X1 (hts _ (kt1 (i := 86) rfl))
  obtain ⟨c2, i2, K2⟩ := u_known (C := RX2) (T := TX2) (N := 5) (n := 5) hG inG_X2 (hts _ (kt2 (i := 2) rfl))
  obtain ⟨c3, i3, K3⟩ := u_known (C := RX3) (T := TX3) (N := 1) (n := 1) hG inG_X3 (hts _ (kt1 (i := 80) rfl))
  obtain ⟨c4, i4, K4⟩ := u_known (C := RX4) (T := TX4) (N := 6) (n := 6) hG inG_X4 (hts _ (kt1 (i := 125) rfl))
  obtain ⟨c5, i5, K5⟩ := u_known (C := RX5) (T := TX5) (N := 4) (n := 4) hG inG_X5 (hts _ (kt1 (i := 133) rfl))
  obtain ⟨c6, i6, K6⟩ := u_known (C := RX6) (T := TX6) (N := 8) (n := 8) hG inG_X6 (hts _ (kt1 (i := 200) rfl))
  obtain ⟨c7, i7, K7⟩ := u_known (C := RX7) (T := TX7) (N := 2) (n := 2) hG inG_X7 (hts _ (kt3 (i := 72) rfl))
  obtain ⟨c8, i8, K8⟩ := u_known (C := RX8) (T := TX8) (N := 3) (n := 3) hG inG_X8 (hts _ (kt1 (i := 107) rfl))
  obtain ⟨c9, i9, K9⟩ := u_known (C := RX9) (T := TX9) (N := 3) (n := 3) hG inG_X9 (hts _ (kt2 (i := 27) rfl))
  obtain ⟨c10, i10, K10⟩ := u_known (C := RX10) (T := TX10) (N := 11) (n := 11) hG inG_X10 (hts _ (kt1 (i := 30) rfl))
  obtain ⟨c11, i11, K11⟩ := u_known (C := RX11) (T := TX11) (N := 11) (n := 11) hG inG_X11 (hts _ (kt1 (i := 22) rfl))
  obtain ⟨c12, i12, K12⟩ := u_known (C := RX12) (T := TX12) (N := 39) (n := 39) hG inG_X12 (hts _ (kt4 (i := 203) rfl))
  obtain ⟨a0, A0⟩ := k_ra (ty := .int) (hts _ (kt1 (i := 78) rfl)) (fun C h => by cases h)
  obtain ⟨a1, A1⟩ := k_ra (ty := .long) (hts _ (kt2 (i := 0) rfl)) (fun C h => by cases h)
  obtain ⟨a2, A2⟩ := k_ra (ty := .byte) (hts _ (kt3 (i := 15) rfl)) (fun C h => by cases h)
  obtain ⟨a3, A3⟩ := k_ra (ty := .boolean) (hts _ (kt5 (i := 86) rfl)) (fun C h => by cases h)
  obtain ⟨a4, A4⟩ := k_rq (C := "StrawButts$Moment") (hts _ (kt1 (i := 179) rfl))
  obtain ⟨a5, A5⟩ := k_rq (C := "StrawButts$Rule") (hts _ (kt1 (i := 123) rfl))
  obtain ⟨a6, A6⟩ := k_rr (t := .int) (hts _ (kt1 (i := 187) rfl))
  refine ⟨(fun k => ([c0, c1, c2, c3, c4, c5, c6, c7, c8, c9, c10, c11, c12] : List ClassId).getD k c0, fun k => ([i0, i1, i2, i3, i4, i5, i6, i7, i8, i9, i10, i11, i12] : List (Nat → Nat)).getD k i0), fun k => ([a0, a1, a2, a3, a4, a5, a6] : List ClassId).getD k a0, ⟨?_, ?_⟩, ?_, va_AO.of (hts _ (kt1 (i := 179) rfl)), va_AO.of (hts _ (kt1 (i := 123) rfl)), va_AOA.of (hts _ (kt1 (i := 187) rfl))⟩
  · intro k q hq
    match k, hq with
    | 0, hq => obtain rfl := Option.some.inj hq; exact K0
    | 1, hq => obtain rfl := Option.some.inj hq; exact K1
    | 2, hq => obtain rfl := Option.some.inj hq; exact K2
    | 3, hq => obtain rfl := Option.some.inj hq; exact K3
    | 4, hq => obtain rfl := Option.some.inj hq; exact K4
    | 5, hq => obtain rfl := Option.some.inj hq; exact K5
    | 6, hq => obtain rfl := Option.some.inj hq; exact K6
    | 7, hq => obtain rfl := Option.some.inj hq; exact K7
    | 8, hq => obtain rfl := Option.some.inj hq; exact K8
    | 9, hq => obtain rfl := Option.some.inj hq; exact K9
    | 10, hq => obtain rfl := Option.some.inj hq; exact K10
    | 11, hq => obtain rfl := Option.some.inj hq; exact K11
    | 12, hq => obtain rfl := Option.some.inj hq; exact K12
    | k + 13, hq => exact absurd hq (by simp [vwCl])
  · intro k q hq
    match k, hq with
    | 0, hq => obtain rfl := Option.some.inj hq; exact A0
    | 1, hq => obtain rfl := Option.some.inj hq; exact A1
    | 2, hq => obtain rfl := Option.some.inj hq; exact A2
    | 3, hq => obtain rfl := Option.some.inj hq; exact A3
    | 4, hq => obtain rfl := Option.some.inj hq; exact A4
    | 5, hq => obtain rfl := Option.some.inj hq; exact A5
    | 6, hq => obtain rfl := Option.some.inj hq; exact A6
    | k + 7, hq => exact absurd hq (by simp [kTY])
  · intro q hq
    simp only [kNest, List.mem_cons, List.not_mem_nil, or_false] at hq
    rcases hq with rfl | rfl | rfl | rfl | rfl | rfl | rfl | rfl | rfl | rfl | rfl | rfl | rfl | rfl | rfl
    · exact va_Nw.of rfl (hts _ (kt1 (i := 31) rfl))
    · exact va_Nw.of rfl (hts _ (kt1 (i := 81) rfl))
    · exact va_Nw.of rfl (hts _ (kt1 (i := 87) rfl))
    · exact va_Nw.of rfl (hts _ (kt1 (i := 108) rfl))
    · exact va_Nw.of rfl (hts _ (kt1 (i := 126) rfl))
    · exact va_Nw.of rfl (hts _ (kt1 (i := 131) rfl))
    · exact va_Nw.of rfl (hts _ (kt1 (i := 134) rfl))
    · exact va_Nw.of rfl (hts _ (kt1 (i := 182) rfl))
    · exact va_Nw.of rfl (hts _ (kt1 (i := 201) rfl))
    · exact va_Nw.of rfl (hts _ (kt1 (i := 206) rfl))
    · exact va_Nw.of rfl (hts _ (kt2 (i := 3) rfl))
    · exact va_Nw.of rfl (hts _ (kt2 (i := 28) rfl))
    · exact va_Nw.of rfl (hts _ (kt2 (i := 226) rfl))
    · exact va_Nw.of rfl (hts _ (kt3 (i := 111) rfl))
    · exact va_Nw.of rfl (hts _ (kt4 (i := 149) rfl))

