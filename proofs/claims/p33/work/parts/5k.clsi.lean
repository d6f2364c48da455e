/-- a green that is being read -/
def DV (g : Nat → Int32) : Prop := (0 ≤ (g 2).toInt ∧ (g 2).toInt ≤ 12) ∧ (0 ≤ (g 3).toInt ∧ (g 3).toInt ≤ 6) ∧ (0 ≤ (g 4).toInt ∧ (g 4).toInt ≤ 5)
theorem FV.dv {g : Nat → Int32} (h : FV g) : DV g := FV.bounds h
theorem DV.bounds {g : Nat → Int32} (h : DV g) : (0 ≤ (g 2).toInt ∧ (g 2).toInt ≤ 12) ∧ (0 ≤ (g 3).toInt ∧ (g 3).toInt ≤ 6) ∧ (0 ≤ (g 4).toInt ∧ (g 4).toInt ≤ 5) := h
theorem DV.put {g : Nat → Int32} (h : DV g) (z v : Int32) (h0 : 0 ≤ z.toInt) (h2 : z.toInt = 2 → 0 ≤ v.toInt ∧ v.toInt ≤ 12) (h3 : z.toInt = 3 → 0 ≤ v.toInt ∧ v.toInt ≤ 6) (h4 : z.toInt = 4 → 0 ≤ v.toInt ∧ v.toInt ≤ 5) : DV (upd g z.toNatClampNeg v) := by
  obtain ⟨k, hk⟩ : ∃ k : Nat, z.toNatClampNeg = k := ⟨_, rfl⟩
  have ek : (k : Int) = z.toInt := by rw [← hk, k_cl]; omega
  rw [hk]
  obtain ⟨a1, a2, a3⟩ := h
  refine ⟨?_, ?_, ?_⟩
  · by_cases e : 2 = k
    · rw [← e, k_upd_eq]; exact h2 (by omega)
    · rw [k_upd_ne e]; exact a1
  · by_cases e : 3 = k
    · rw [← e, k_upd_eq]; exact h3 (by omega)
    · rw [k_upd_ne e]; exact a2
  · by_cases e : 4 = k
    · rw [← e, k_upd_eq]; exact h4 (by omega)
    · rw [k_upd_ne e]; exact a3
theorem k_updI {g : Nat → Int32} {z v : Int32} {j : Nat} (h0 : 0 ≤ z.toInt) (h : z.toInt ≠ (j : Int)) : (upd g z.toNatClampNeg v j).toInt = (g j).toInt := by
  rw [k_upd_ne (by rw [k_cl]; omega)]

set_option maxHeartbeats 4000000 in
set_option maxRecDepth 100000 in
theorem cc_ringAtD (l : Launch) (D : va_G) (cy : Nat → ClassId) (o : Nat) (o_c : Nat) (g_o : Nat → Int32) (x0 : Int32) (h_g_o : DV g_o) : KP l yX1_ringAt cX1_ringAt 3 (some .int) 0 0 D (kTY cy) [.ref o, .int x0] [(o, .inr (1, [.ref o_c])), (o_c, .inl (cy 0, 63, .inl g_o))] (fun r => (-1 ≤ r.toInt) ∧ (r.toInt ≤ 5)) := by
  refine KP.of (by decide) (Nat.le_of_ble_eq_true rfl) (fun p e s m below meth c ls F hE hP hl => ?_)
  have F : kF p s m meth c cX1_ringAt 3 (some .int) _ RX1 := F
  obtain ⟨hx, hb, hr, hml, hown, hG, hlk⟩ := id F
  have hl : lv_has ls 3 [(0, .ref o), (1, .int x0)] := hl
  obtain ⟨⟨b_1a, b_1b⟩, ⟨b_1c, b_1d⟩, ⟨b_1e, b_1f⟩⟩ := DV.bounds h_g_o
  refine lv_iconst (v := 0) hx hb dX1_ringAt_0 (by decide) ?_
  refine lv_istore_n (lv' := [(2, .int 0), (0, .ref o), (1, .int x0)]) hx hb dX1_ringAt_1 rfl hl (by decide) rfl (fun ls hl => ?_)
  have lp2 : ∀ (fu : Nat) (v2_2 : Int32) (ls : Array Slot), (0 ≤ v2_2.toInt) → (v2_2.toInt ≤ 6) → 6 - v2_2.toInt < (fu : Int) → lv_has ls 3 [(2, .int v2_2), (0, .ref o), (1, .int x0)] → W p l e (kR 0 0) s m ([.ref o, .int x0] : List Value).toArray below meth c s.heap [] 0 0 (MQ below (kQ (fun r => (-1 ≤ r.toInt) ∧ (r.toInt ≤ 5))) ([.ref o, .int x0] : List Value).toArray s 0 0 (fun _ => False)) (F0 m 2 ls []) := by
    intro fu2
    induction fu2 with
    | zero =>
      intro v2_2 ls j0_2 j1_2 hm2 hl
      exact absurd hm2 (by omega)
    | succ fu2 ih2 =>
      intro v2_2 ls j0_2 j1_2 hm2 hl
      refine lv_iload_n hx hb dX1_ringAt_2 rfl (lv_at hl 0 rfl) ?_
      refine lv_aload_n hx hb dX1_ringAt_3 rfl (lv_at hl 1 rfl) ?_
      refine va_get (D := D) (ci := 1) (v := .ref o_c) (C := RX1) (T := TX1) (N := 1) hx hb hG inG_X1 hown hE.1 hP 0 rfl rfl 0 (by decide) (hG _ q_f_X1_11) (fun _ h9 => h9) rfl dX1_ringAt_4 ?_
      refine lv_iconst (v := 3) hx hb dX1_ringAt_7 (by decide) ?_
      refine va_iald hx hb hE.1 hP 1 0 rfl rfl (by unfold vp_in; decide) dX1_ringAt_8 ?_
      refine k_top (z := (g_o 3)) rfl ?_
      refine lv_icmp_ge (tgt := 33) hx hb dX1_ringAt_9 (by decide) (fun c_2 => ?_) (fun c_2 => ?_)
      · have ic_2 : (g_o 3).toInt ≤ v2_2.toInt := k_le c_2 rfl rfl
        refine lv_iconst (v := (-1)) hx hb dX1_ringAt_33 (by decide) ?_
        have lit0 : ((-1) : Int32).toInt = (-1) := by decide
        exact KP.rt F rfl (show (-1 ≤ ((-1) : Int32).toInt) ∧ (((-1) : Int32).toInt ≤ 5) from ⟨(by first | omega | assumption), (by first | omega | assumption)⟩) dX1_ringAt_34
      · have ic_2 : v2_2.toInt < (g_o 3).toInt := k_nle c_2 rfl rfl
        refine lv_aload_n hx hb dX1_ringAt_12 rfl (lv_at hl 1 rfl) ?_
        refine va_get (D := D) (ci := 1) (v := .ref o_c) (C := RX1) (T := TX1) (N := 1) hx hb hG inG_X1 hown hE.1 hP 0 rfl rfl 0 (by decide) (hG _ q_f_X1_11) (fun _ h9 => h9) rfl dX1_ringAt_13 ?_
        refine lv_bipush (v := 20) hx hb dX1_ringAt_16 (by decide) ?_
        refine lv_iload_n hx hb dX1_ringAt_18 rfl (lv_at hl 0 rfl) ?_
        refine lv_iadd hx hb dX1_ringAt_19 ?_
        refine lv_topi (fun z_3 ez_3 => ?_)
        have iz_3 : z_3.toInt = 20 + v2_2.toInt := k_addI ez_3 (by decide) rfl (by omega)
        refine va_iald hx hb hE.1 hP 1 0 rfl rfl (k_in (by omega)) dX1_ringAt_20 ?_
        refine k_top (z := (g_o (Int32.toNatClampNeg z_3))) rfl ?_
        refine lv_iload_n hx hb dX1_ringAt_21 rfl (lv_at hl 2 rfl) ?_
        refine lv_icmp_ne (tgt := 27) hx hb dX1_ringAt_22 (by decide) (fun c_4 => ?_) (fun c_4 => ?_)
        · have ic_4 : (g_o (Int32.toNatClampNeg z_3)).toInt ≠ x0.toInt := k_ne c_4 rfl rfl
          obtain ⟨z_5, ez_5⟩ : ∃ y : Int32, y = v2_2 + Int32.ofInt 1 := ⟨_, rfl⟩
          have iz_5 : z_5.toInt = v2_2.toInt + 1 := k_addI ez_5 rfl (by decide) (by omega)
          refine lv_iinc (v := z_5) (lv' := [(2, .int z_5), (0, .ref o), (1, .int x0)]) hx hb dX1_ringAt_27 hl (k := 0) rfl ez_5.symm (by decide) rfl (fun ls hl => ?_)
          refine lv_goto (tgt := 2) hx hb dX1_ringAt_30 (by decide) ?_
          exact ih2 z_5 ls (by first | omega | assumption) (by first | omega | assumption) (by omega) (lv_sub hl [0, 1, 2] rfl)
        · have ic_4 : (g_o (Int32.toNatClampNeg z_3)).toInt = x0.toInt := k_eq c_4 rfl rfl
          refine lv_iload_n hx hb dX1_ringAt_25 rfl (lv_at hl 0 rfl) ?_
          exact KP.rt F rfl (show (-1 ≤ v2_2.toInt) ∧ (v2_2.toInt ≤ 5) from ⟨(by first | omega | assumption), (by first | omega | assumption)⟩) dX1_ringAt_26
  have lt_6 : (0 : Int32).toInt = 0 := by decide
  exact lp2 100000 0 ls (by first | omega | assumption) (by first | omega | assumption) (by omega) hl

set_option maxHeartbeats 4000000 in
set_option maxRecDepth 100000 in
theorem cc_clearD (l : Launch) (D : va_G) (cy : Nat → ClassId) (o : Nat) (o_c : Nat) (g_o : Nat → Int32) (h_g_o : DV g_o) : KV l yX1_clear cX1_clear 1 1 23 D (kTY cy) [.ref o] [(o, .inr (1, [.ref o_c])), (o_c, .inl (cy 0, 63, .inl g_o))] (S := (Nat → Int32)) (fun u => DV u ∧ (FV u)) (fun u => [(o, .inr (1, [.ref o_c])), (o_c, .inl (cy 0, 63, .inl u))]) 0 0 := by
  refine KV.of (by decide) (Nat.le_of_ble_eq_true rfl) (fun p e s m below meth c ls A F hin hE hP hD hA hS hl => ?_)
  have F : kF p s m meth c cX1_clear 1 none _ RX1 := F
  obtain ⟨hx, hb, hr, hml, hown, hG, hlk⟩ := id F
  have hl : lv_has ls 1 [(0, .ref o)] := hl
  obtain ⟨⟨b_1a, b_1b⟩, ⟨b_1c, b_1d⟩, ⟨b_1e, b_1f⟩⟩ := DV.bounds h_g_o
  refine lv_aload_n hx hb dX1_clear_0 rfl (lv_at hl 0 rfl) ?_
  refine va_get (D := D) (ci := 1) (v := .ref o_c) (C := RX1) (T := TX1) (N := 1) hx hb hG inG_X1 hown hE.1 hP 0 rfl rfl 0 (by decide) (hG _ q_f_X1_11) (fun _ h9 => h9) rfl dX1_clear_1 ?_
  refine lv_iconst (v := 0) hx hb dX1_clear_4 (by decide) ?_
  refine kwSV (wr := [(o, .inr (1, [.ref o_c]))]) (As := [.ref o_c, .int 0]) (rest := []) F hE hP hD hS hA hl.1 (c_fill l D cy (q := o_c) (n := 63) (hn := by decide) (f := g_o) (v := 0)) q_m_X1_21 ms_J7_fill_53178 ⟨(Nat.le_of_ble_eq_true rfl), (Nat.le_of_ble_eq_true rfl)⟩ [1] [0] (by decide) rfl rfl (by decide) (by decide) rfl rfl (Nat.le_of_ble_eq_true rfl) ⟨(Nat.le_of_ble_eq_true rfl), (Nat.le_of_ble_eq_true rfl)⟩ dX1_clear_5 (fun u_2 H locs eu_2 hP hD hS => ?_)
  have hP : va_P D vwCl [(o, .inr (1, [.ref o_c])), (o_c, .inl (cy 0, 63, .inl u_2))] H := hP
  have hD : va_D A [(o, .inr (1, [.ref o_c])), (o_c, .inl (cy 0, 63, .inl u_2))] := hD
  have hzu_2 : FV u_2 := FV.zero eu_2
  have hdu_2 : DV u_2 := hzu_2.dv
  exact KV.rt u_2 F (hP.sub [0, 1] rfl) (hD.sub [0, 1] (by decide) rfl) hS (show DV u_2 ∧ (FV u_2) from ⟨hdu_2, hzu_2⟩) (Nat.le_of_ble_eq_true rfl) (Nat.le_of_ble_eq_true rfl) dX1_clear_8

set_option maxHeartbeats 4000000 in
set_option maxRecDepth 100000 in
theorem cc_opensClause (l : Launch) (D : va_G) (cy : Nat → ClassId) (x0 : Int32)  : KP l yX3_opensClause cX3_opensClause 1 (some .boolean) 0 0 D (kTY cy) [.int x0] [] (fun r => (r.toInt = 0 ∨ r.toInt = 1) ∧ ((r.toInt ≠ 0 → x0.toInt = 13 ∨ x0.toInt = 10 ∨ x0.toInt = 1 ∨ x0.toInt = 0))) := by
  refine KP.of (by decide) (Nat.le_of_ble_eq_true rfl) (fun p e s m below meth c ls F hE hP hl => ?_)
  have F : kF p s m meth c cX3_opensClause 1 (some .boolean) _ RX3 := F
  obtain ⟨hx, hb, hr, hml, hown, hG, hlk⟩ := id F
  have hl : lv_has ls 1 [(0, .int x0)] := hl
  refine lv_iload_n hx hb dX3_opensClause_0 rfl (lv_at hl 0 rfl) ?_
  refine lv_bipush (v := 13) hx hb dX3_opensClause_1 (by decide) ?_
  refine lv_icmp_eq (tgt := 21) hx hb dX3_opensClause_3 (by decide) (fun c_1 => ?_) (fun c_1 => ?_)
  · have ic_1 : x0.toInt = 13 := k_eq c_1 rfl (by decide)
    refine lv_iconst (v := 1) hx hb dX3_opensClause_21 (by decide) ?_
    refine lv_goto (tgt := 26) hx hb dX3_opensClause_22 (by decide) ?_
    have lit0 : (1 : Int32).toInt = 1 := by decide
    exact KP.rt F rfl (show ((1 : Int32).toInt = 0 ∨ (1 : Int32).toInt = 1) ∧ (((1 : Int32).toInt ≠ 0 → x0.toInt = 13 ∨ x0.toInt = 10 ∨ x0.toInt = 1 ∨ x0.toInt = 0)) from ⟨(by first | omega | assumption), (by first | omega | (intro lq; (first | omega | assumption | rfl | (exfalso; omega))))⟩) dX3_opensClause_26
  · have ic_1 : x0.toInt ≠ 13 := k_ne c_1 rfl (by decide)
    refine lv_iload_n hx hb dX3_opensClause_6 rfl (lv_at hl 0 rfl) ?_
    refine lv_bipush (v := 10) hx hb dX3_opensClause_7 (by decide) ?_
    refine lv_icmp_eq (tgt := 21) hx hb dX3_opensClause_9 (by decide) (fun c_2 => ?_) (fun c_2 => ?_)
    · have ic_2 : x0.toInt = 10 := k_eq c_2 rfl (by decide)
      refine lv_iconst (v := 1) hx hb dX3_opensClause_21 (by decide) ?_
      refine lv_goto (tgt := 26) hx hb dX3_opensClause_22 (by decide) ?_
      have lit0 : (1 : Int32).toInt = 1 := by decide
      exact KP.rt F rfl (show ((1 : Int32).toInt = 0 ∨ (1 : Int32).toInt = 1) ∧ (((1 : Int32).toInt ≠ 0 → x0.toInt = 13 ∨ x0.toInt = 10 ∨ x0.toInt = 1 ∨ x0.toInt = 0)) from ⟨(by first | omega | assumption), (by first | omega | (intro lq; (first | omega | assumption | rfl | (exfalso; omega))))⟩) dX3_opensClause_26
    · have ic_2 : x0.toInt ≠ 10 := k_ne c_2 rfl (by decide)
      refine lv_iload_n hx hb dX3_opensClause_12 rfl (lv_at hl 0 rfl) ?_
      refine lv_iconst (v := 1) hx hb dX3_opensClause_13 (by decide) ?_
      refine lv_icmp_eq (tgt := 21) hx hb dX3_opensClause_14 (by decide) (fun c_3 => ?_) (fun c_3 => ?_)
      · have ic_3 : x0.toInt = 1 := k_eq c_3 rfl (by decide)
        refine lv_iconst (v := 1) hx hb dX3_opensClause_21 (by decide) ?_
        refine lv_goto (tgt := 26) hx hb dX3_opensClause_22 (by decide) ?_
        have lit0 : (1 : Int32).toInt = 1 := by decide
        exact KP.rt F rfl (show ((1 : Int32).toInt = 0 ∨ (1 : Int32).toInt = 1) ∧ (((1 : Int32).toInt ≠ 0 → x0.toInt = 13 ∨ x0.toInt = 10 ∨ x0.toInt = 1 ∨ x0.toInt = 0)) from ⟨(by first | omega | assumption), (by first | omega | (intro lq; (first | omega | assumption | rfl | (exfalso; omega))))⟩) dX3_opensClause_26
      · have ic_3 : x0.toInt ≠ 1 := k_ne c_3 rfl (by decide)
        refine lv_iload_n hx hb dX3_opensClause_17 rfl (lv_at hl 0 rfl) ?_
        refine lv_if_ne (tgt := 25) hx hb dX3_opensClause_18 (by decide) (fun c_4 => ?_) (fun c_4 => ?_)
        · have ic_4 : x0.toInt ≠ 0 := k_ne c_4 rfl (by decide)
          refine lv_iconst (v := 0) hx hb dX3_opensClause_25 (by decide) ?_
          have lit0 : (0 : Int32).toInt = 0 := by decide
          exact KP.rt F rfl (show ((0 : Int32).toInt = 0 ∨ (0 : Int32).toInt = 1) ∧ (((0 : Int32).toInt ≠ 0 → x0.toInt = 13 ∨ x0.toInt = 10 ∨ x0.toInt = 1 ∨ x0.toInt = 0)) from ⟨(by first | omega | assumption), (by first | omega | (intro lq; (first | omega | assumption | rfl | (exfalso; omega))))⟩) dX3_opensClause_26
        · have ic_4 : x0.toInt = 0 := k_eq c_4 rfl (by decide)
          refine lv_iconst (v := 1) hx hb dX3_opensClause_21 (by decide) ?_
          refine lv_goto (tgt := 26) hx hb dX3_opensClause_22 (by decide) ?_
          have lit0 : (1 : Int32).toInt = 1 := by decide
          exact KP.rt F rfl (show ((1 : Int32).toInt = 0 ∨ (1 : Int32).toInt = 1) ∧ (((1 : Int32).toInt ≠ 0 → x0.toInt = 13 ∨ x0.toInt = 10 ∨ x0.toInt = 1 ∨ x0.toInt = 0)) from ⟨(by first | omega | assumption), (by first | omega | (intro lq; (first | omega | assumption | rfl | (exfalso; omega))))⟩) dX3_opensClause_26

set_option maxHeartbeats 4000000 in
set_option maxRecDepth 100000 in
theorem cc_X3_isFullOf (l : Launch) (D : va_G) (cy : Nat → ClassId) (o : Nat) (od : Nat) (od_c : Nat) (g_od : Nat → Int32) (x0 : Int32) (h_g_od : DV g_od) : KP l yX3_isFullOf cX3_isFullOf 2 (some .boolean) 0 0 D (kTY cy) [.ref o, .int x0] [(o, .inr (3, [.ref od])), (od, .inr (1, [.ref od_c])), (od_c, .inl (cy 0, 63, .inl g_od))] (fun r => (r.toInt = 0 ∨ r.toInt = 1) ∧ ((r.toInt = 0 → (x0.toInt = 10 → (g_od 2).toInt ≤ 11) ∧ (x0.toInt = 1 → (g_od 3).toInt ≤ 5) ∧ (x0.toInt = 0 → (g_od 4).toInt ≤ 4)))) := by
  refine KP.of (by decide) (Nat.le_of_ble_eq_true rfl) (fun p e s m below meth c ls F hE hP hl => ?_)
  have F : kF p s m meth c cX3_isFullOf 2 (some .boolean) _ RX3 := F
  obtain ⟨hx, hb, hr, hml, hown, hG, hlk⟩ := id F
  have hl : lv_has ls 2 [(0, .ref o), (1, .int x0)] := hl
  obtain ⟨⟨b_1a, b_1b⟩, ⟨b_1c, b_1d⟩, ⟨b_1e, b_1f⟩⟩ := DV.bounds h_g_od
  refine lv_iload_n hx hb dX3_isFullOf_0 rfl (lv_at hl 1 rfl) ?_
  by_cases c_2 : x0.toInt = 0
  · refine lv_lookup (off := 75) (tgt := 76) hx hb dX3_isFullOf_1 (by decide) (by rw [c_2]; decide) (by decide) ?_
    refine lv_aload_n hx hb dX3_isFullOf_76 rfl (lv_at hl 0 rfl) ?_
    refine va_get (D := D) (ci := 3) (v := .ref od) (C := RX3) (T := TX3) (N := 1) hx hb hG inG_X3 hown hE.1 hP 0 rfl rfl 0 (by decide) (hG _ q_f_X3_12) (fun _ h9 => h9) rfl dX3_isFullOf_77 ?_
    refine va_get (D := D) (ci := 1) (v := .ref od_c) (C := RX1) (T := TX1) (N := 1) hx hb hG inG_X1 hown hE.1 hP 1 rfl rfl 0 (by decide) (hG _ q_f_X3_69) (fun _ h9 => h9) rfl dX3_isFullOf_80 ?_
    refine lv_iconst (v := 4) hx hb dX3_isFullOf_83 (by decide) ?_
    refine va_iald hx hb hE.1 hP 2 0 rfl rfl (by unfold vp_in; decide) dX3_isFullOf_84 ?_
    refine k_top (z := (g_od 4)) rfl ?_
    refine lv_iconst (v := 5) hx hb dX3_isFullOf_85 (by decide) ?_
    refine lv_icmp_lt (tgt := 93) hx hb dX3_isFullOf_86 (by decide) (fun c_3 => ?_) (fun c_3 => ?_)
    · have ic_3 : (g_od 4).toInt < 5 := k_lt c_3 rfl (by decide)
      refine lv_iconst (v := 0) hx hb dX3_isFullOf_93 (by decide) ?_
      have lit0 : (0 : Int32).toInt = 0 := by decide
      exact KP.rt F rfl (show ((0 : Int32).toInt = 0 ∨ (0 : Int32).toInt = 1) ∧ (((0 : Int32).toInt = 0 → (x0.toInt = 10 → (g_od 2).toInt ≤ 11) ∧ (x0.toInt = 1 → (g_od 3).toInt ≤ 5) ∧ (x0.toInt = 0 → (g_od 4).toInt ≤ 4))) from ⟨(by first | omega | assumption), (by first | omega | (intro lq; refine ⟨?_, ?_, ?_⟩ <;> (first | omega | assumption | rfl | (exfalso; omega))))⟩) dX3_isFullOf_94
    · have ic_3 : 5 ≤ (g_od 4).toInt := k_nlt c_3 rfl (by decide)
      refine lv_iconst (v := 1) hx hb dX3_isFullOf_89 (by decide) ?_
      refine lv_goto (tgt := 94) hx hb dX3_isFullOf_90 (by decide) ?_
      have lit0 : (1 : Int32).toInt = 1 := by decide
      exact KP.rt F rfl (show ((1 : Int32).toInt = 0 ∨ (1 : Int32).toInt = 1) ∧ (((1 : Int32).toInt = 0 → (x0.toInt = 10 → (g_od 2).toInt ≤ 11) ∧ (x0.toInt = 1 → (g_od 3).toInt ≤ 5) ∧ (x0.toInt = 0 → (g_od 4).toInt ≤ 4))) from ⟨(by first | omega | assumption), (by first | omega | (intro lq; refine ⟨?_, ?_, ?_⟩ <;> (first | omega | assumption | rfl | (exfalso; omega))))⟩) dX3_isFullOf_94
  by_cases c_4 : x0.toInt = 1
  · refine lv_lookup (off := 55) (tgt := 56) hx hb dX3_isFullOf_1 (by decide) (by rw [c_4]; decide) (by decide) ?_
    refine lv_aload_n hx hb dX3_isFullOf_56 rfl (lv_at hl 0 rfl) ?_
    refine va_get (D := D) (ci := 3) (v := .ref od) (C := RX3) (T := TX3) (N := 1) hx hb hG inG_X3 hown hE.1 hP 0 rfl rfl 0 (by decide) (hG _ q_f_X3_12) (fun _ h9 => h9) rfl dX3_isFullOf_57 ?_
    refine va_get (D := D) (ci := 1) (v := .ref od_c) (C := RX1) (T := TX1) (N := 1) hx hb hG inG_X1 hown hE.1 hP 1 rfl rfl 0 (by decide) (hG _ q_f_X3_69) (fun _ h9 => h9) rfl dX3_isFullOf_60 ?_
    refine lv_iconst (v := 3) hx hb dX3_isFullOf_63 (by decide) ?_
    refine va_iald hx hb hE.1 hP 2 0 rfl rfl (by unfold vp_in; decide) dX3_isFullOf_64 ?_
    refine k_top (z := (g_od 3)) rfl ?_
    refine lv_bipush (v := 6) hx hb dX3_isFullOf_65 (by decide) ?_
    refine lv_icmp_lt (tgt := 74) hx hb dX3_isFullOf_67 (by decide) (fun c_5 => ?_) (fun c_5 => ?_)
    · have ic_5 : (g_od 3).toInt < 6 := k_lt c_5 rfl (by decide)
      refine lv_iconst (v := 0) hx hb dX3_isFullOf_74 (by decide) ?_
      have lit0 : (0 : Int32).toInt = 0 := by decide
      exact KP.rt F rfl (show ((0 : Int32).toInt = 0 ∨ (0 : Int32).toInt = 1) ∧ (((0 : Int32).toInt = 0 → (x0.toInt = 10 → (g_od 2).toInt ≤ 11) ∧ (x0.toInt = 1 → (g_od 3).toInt ≤ 5) ∧ (x0.toInt = 0 → (g_od 4).toInt ≤ 4))) from ⟨(by first | omega | assumption), (by first | omega | (intro lq; refine ⟨?_, ?_, ?_⟩ <;> (first | omega | assumption | rfl | (exfalso; omega))))⟩) dX3_isFullOf_75
    · have ic_5 : 6 ≤ (g_od 3).toInt := k_nlt c_5 rfl (by decide)
      refine lv_iconst (v := 1) hx hb dX3_isFullOf_70 (by decide) ?_
      refine lv_goto (tgt := 75) hx hb dX3_isFullOf_71 (by decide) ?_
      have lit0 : (1 : Int32).toInt = 1 := by decide
      exact KP.rt F rfl (show ((1 : Int32).toInt = 0 ∨ (1 : Int32).toInt = 1) ∧ (((1 : Int32).toInt = 0 → (x0.toInt = 10 → (g_od 2).toInt ≤ 11) ∧ (x0.toInt = 1 → (g_od 3).toInt ≤ 5) ∧ (x0.toInt = 0 → (g_od 4).toInt ≤ 4))) from ⟨(by first | omega | assumption), (by first | omega | (intro lq; refine ⟨?_, ?_, ?_⟩ <;> (first | omega | assumption | rfl | (exfalso; omega))))⟩) dX3_isFullOf_75
  by_cases c_6 : x0.toInt = 10
  · refine lv_lookup (off := 35) (tgt := 36) hx hb dX3_isFullOf_1 (by decide) (by rw [c_6]; decide) (by decide) ?_
    refine lv_aload_n hx hb dX3_isFullOf_36 rfl (lv_at hl 0 rfl) ?_
    refine va_get (D := D) (ci := 3) (v := .ref od) (C := RX3) (T := TX3) (N := 1) hx hb hG inG_X3 hown hE.1 hP 0 rfl rfl 0 (by decide) (hG _ q_f_X3_12) (fun _ h9 => h9) rfl dX3_isFullOf_37 ?_
    refine va_get (D := D) (ci := 1) (v := .ref od_c) (C := RX1) (T := TX1) (N := 1) hx hb hG inG_X1 hown hE.1 hP 1 rfl rfl 0 (by decide) (hG _ q_f_X3_69) (fun _ h9 => h9) rfl dX3_isFullOf_40 ?_
    refine lv_iconst (v := 2) hx hb dX3_isFullOf_43 (by decide) ?_
    refine va_iald hx hb hE.1 hP 2 0 rfl rfl (by unfold vp_in; decide) dX3_isFullOf_44 ?_
    refine k_top (z := (g_od 2)) rfl ?_
    refine lv_bipush (v := 12) hx hb dX3_isFullOf_45 (by decide) ?_
    refine lv_icmp_lt (tgt := 54) hx hb dX3_isFullOf_47 (by decide) (fun c_7 => ?_) (fun c_7 => ?_)
    · have ic_7 : (g_od 2).toInt < 12 := k_lt c_7 rfl (by decide)
      refine lv_iconst (v := 0) hx hb dX3_isFullOf_54 (by decide) ?_
      have lit0 : (0 : Int32).toInt = 0 := by decide
      exact KP.rt F rfl (show ((0 : Int32).toInt = 0 ∨ (0 : Int32).toInt = 1) ∧ (((0 : Int32).toInt = 0 → (x0.toInt = 10 → (g_od 2).toInt ≤ 11) ∧ (x0.toInt = 1 → (g_od 3).toInt ≤ 5) ∧ (x0.toInt = 0 → (g_od 4).toInt ≤ 4))) from ⟨(by first | omega | assumption), (by first | omega | (intro lq; refine ⟨?_, ?_, ?_⟩ <;> (first | omega | assumption | rfl | (exfalso; omega))))⟩) dX3_isFullOf_55
    · have ic_7 : 12 ≤ (g_od 2).toInt := k_nlt c_7 rfl (by decide)
      refine lv_iconst (v := 1) hx hb dX3_isFullOf_50 (by decide) ?_
      refine lv_goto (tgt := 55) hx hb dX3_isFullOf_51 (by decide) ?_
      have lit0 : (1 : Int32).toInt = 1 := by decide
      exact KP.rt F rfl (show ((1 : Int32).toInt = 0 ∨ (1 : Int32).toInt = 1) ∧ (((1 : Int32).toInt = 0 → (x0.toInt = 10 → (g_od 2).toInt ≤ 11) ∧ (x0.toInt = 1 → (g_od 3).toInt ≤ 5) ∧ (x0.toInt = 0 → (g_od 4).toInt ≤ 4))) from ⟨(by first | omega | assumption), (by first | omega | (intro lq; refine ⟨?_, ?_, ?_⟩ <;> (first | omega | assumption | rfl | (exfalso; omega))))⟩) dX3_isFullOf_55
  refine lv_lookup (off := 94) (tgt := 95) hx hb dX3_isFullOf_1 (by decide) (by simp [Op.lookupswitch.offset]; omega) (by decide) ?_
  refine lv_iconst (v := 0) hx hb dX3_isFullOf_95 (by decide) ?_
  have lit0 : (0 : Int32).toInt = 0 := by decide
  exact KP.rt F rfl (show ((0 : Int32).toInt = 0 ∨ (0 : Int32).toInt = 1) ∧ (((0 : Int32).toInt = 0 → (x0.toInt = 10 → (g_od 2).toInt ≤ 11) ∧ (x0.toInt = 1 → (g_od 3).toInt ≤ 5) ∧ (x0.toInt = 0 → (g_od 4).toInt ≤ 4))) from ⟨(by first | omega | assumption), (by first | omega | (intro lq; refine ⟨?_, ?_, ?_⟩ <;> (first | omega | assumption | rfl | (exfalso; omega))))⟩) dX3_isFullOf_96

set_option maxHeartbeats 4000000 in
set_option maxRecDepth 100000 in
theorem cc_X3_readNumber (l : Launch) (D : va_G) (cy : Nat → ClassId) (o : Nat) (od : Nat) (q : Nat) (q_by : Nat) (q_ki : Nat) (q_va : Nat) (q_pl : Nat) (q_len : Int32) (q_tok : Int32) (q_at : Int32) (q_kind : Int32) (q_value : Int32) (q_place : Int32) (q_fault : Int32) (g_qby : Nat → Int32) (g_qki : Nat → Int32) (g_qva : Nat → Int32) (g_qpl : Nat → Int32) (x0 : Int32) (x1 : Int32) (p0 : 0 ≤ q_tok.toInt) (p1 : q_tok.toInt ≤ 401) (p2 : -1 ≤ q_at.toInt) (p3 : q_at.toInt ≤ 400) (p4 : TKV g_qki g_qva g_qpl q_tok.toInt) (p5 : q_kind.toInt = 1 ∨ q_kind.toInt = 3 → 0 ≤ q_value.toInt ∧ q_value.toInt ≤ 99999) (p6 : 0 ≤ q_place.toInt) (p7 : q_place.toInt ≤ 400) : KI l yX3_readNumber cX3_readNumber 5 (some .int) 1 22 D (kTY cy) [.ref o, .ref q, .int x0, .int x1] [(o, .inr (3, [.ref od])), (q, .inr (10, [.ref q_by, .int q_len, .ref q_ki, .ref q_va, .ref q_pl, .int q_tok, .int q_at, .int q_kind, .int q_value, .int q_place, .int q_fault])), (q_by, .inl (cy 0, 400, .inl g_qby)), (q_ki, .inl (cy 0, 401, .inl g_qki)), (q_va, .inl (cy 0, 401, .inl g_qva)), (q_pl, .inl (cy 0, 401, .inl g_qpl))] (S := Int32 × Int32 × Int32 × Int32 × Int32) (fun r u => (-1 ≤ (u.1).toInt) ∧ ((u.1).toInt ≤ 400) ∧ ((u.2.1).toInt = 1 ∨ (u.2.1).toInt = 3 → 0 ≤ (u.2.2.1).toInt ∧ (u.2.2.1).toInt ≤ 99999) ∧ (0 ≤ (u.2.2.2.1).toInt) ∧ ((u.2.2.2.1).toInt ≤ 400) ∧ ((u.2.2.2.2).toInt = 0 → q_fault.toInt = 0 ∧ x0.toInt ≤ r.toInt ∧ r.toInt ≤ x1.toInt)) (fun u => [(o, .inr (3, [.ref od])), (q, .inr (10, [.ref q_by, .int q_len, .ref q_ki, .ref q_va, .ref q_pl, .int q_tok, .int (u.1), .int (u.2.1), .int (u.2.2.1), .int (u.2.2.2.1), .int (u.2.2.2.2)])), (q_by, .inl (cy 0, 400, .inl g_qby)), (q_ki, .inl (cy 0, 401, .inl g_qki)), (q_va, .inl (cy 0, 401, .inl g_qva)), (q_pl, .inl (cy 0, 401, .inl g_qpl))]) 0 0 := by
  refine KI.of (by decide) (Nat.le_of_ble_eq_true rfl) (fun p e s m below meth c ls A F hE hP hD hA hS hl => ?_)
  have F : kF p s m meth c cX3_readNumber 5 (some .int) _ RX3 := F
  obtain ⟨hx, hb, hr, hml, hown, hG, hlk⟩ := id F
  have hl : lv_has ls 5 [(0, .ref o), (1, .ref q), (2, .int x0), (3, .int x1)] := hl
  refine lv_aload_n hx hb dX3_readNumber_0 rfl (lv_at hl 1 rfl) ?_
  refine va_get (D := D) (ci := 10) (v := .int q_value) (C := RX10) (T := TX10) (N := 11) hx hb hG inG_X10 hown hE.1 hP 1 rfl rfl 8 (by decide) (hG _ q_f_X3_44) (fun _ h9 => h9) rfl dX3_readNumber_1 ?_
  refine lv_istore (lv' := [(4, .int q_value), (0, .ref o), (1, .ref q), (2, .int x0), (3, .int x1)]) hx hb dX3_readNumber_4 hl (by decide) rfl (fun ls hl => ?_)
  refine lv_aload_n hx hb dX3_readNumber_6 rfl (lv_at hl 2 rfl) ?_
  refine va_get (D := D) (ci := 10) (v := .int q_kind) (C := RX10) (T := TX10) (N := 11) hx hb hG inG_X10 hown hE.1 hP 1 rfl rfl 7 (by decide) (hG _ q_f_X3_41) (fun _ h9 => h9) rfl dX3_readNumber_7 ?_
  refine lv_iconst (v := 2) hx hb dX3_readNumber_10 (by decide) ?_
  refine lv_icmp_ne (tgt := 26) hx hb dX3_readNumber_11 (by decide) (fun c_1 => ?_) (fun c_1 => ?_)
  · have ic_1 : q_kind.toInt ≠ 2 := k_ne c_1 rfl (by decide)
    refine lv_aload_n hx hb dX3_readNumber_26 rfl (lv_at hl 2 rfl) ?_
    refine va_get (D := D) (ci := 10) (v := .int q_kind) (C := RX10) (T := TX10) (N := 11) hx hb hG inG_X10 hown hE.1 hP 1 rfl rfl 7 (by decide) (hG _ q_f_X3_41) (fun _ h9 => h9) rfl dX3_readNumber_27 ?_
    refine lv_iconst (v := 1) hx hb dX3_readNumber_30 (by decide) ?_
    refine lv_icmp_eq (tgt := 46) hx hb dX3_readNumber_31 (by decide) (fun c_2 => ?_) (fun c_2 => ?_)
    · have ic_2 : q_kind.toInt = 1 := k_eq c_2 rfl (by decide)
      refine lv_iload hx hb dX3_readNumber_46 (lv_at hl 0 rfl) ?_
      refine lv_iload_n hx hb dX3_readNumber_48 rfl (lv_at hl 3 rfl) ?_
      refine lv_iload_n hx hb dX3_readNumber_49 rfl (lv_at hl 4 rfl) ?_
      refine kcSN (host := RX11) (As := [.int q_value, .int x0, .int x1]) (rest := []) F hE hP hl.1 (cc_within l D cy (x0 := q_value) (x1 := x0) (x2 := x1)) ms_X11_within (by decide +kernel) ⟨(Nat.le_of_ble_eq_true rfl), (Nat.le_of_ble_eq_true rfl)⟩ [] rfl rfl rfl (Nat.le_of_ble_eq_true rfl) ⟨(Nat.le_of_ble_eq_true rfl), (Nat.le_of_ble_eq_true rfl)⟩ dX3_readNumber_50 (fun r_3 er_3 => ?_)
      have er_3 : (r_3.toInt = 0 ∨ r_3.toInt = 1) ∧ ((r_3.toInt ≠ 0 → x0.toInt ≤ q_value.toInt ∧ q_value.toInt ≤ x1.toInt)) ∧ ((r_3.toInt = 0 → q_value.toInt < x0.toInt ∨ x1.toInt < q_value.toInt)) := er_3
      obtain ⟨er_3a, er_3b, er_3c⟩ := er_3
      refine lv_if_ne (tgt := 68) hx hb dX3_readNumber_53 (by decide) (fun c_4 => ?_) (fun c_4 => ?_)
      · have ic_4 : r_3.toInt ≠ 0 := k_ne c_4 rfl (by decide)
        have fc_4 := er_3b ic_4
        clear er_3b er_3c er_3a
        obtain ⟨fc_4a, fc_4b⟩ := fc_4
        refine lv_aload_n hx hb dX3_readNumber_68 rfl (lv_at hl 2 rfl) ?_
        refine kwVV (wr := [(o, .inr (3, [.ref od]))]) (As := []) (rest := []) F hE hP hD hS hA hl.1 (cc_X10_advance l D cy (o := q) (o_by := q_by) (o_len := q_len) (o_ki := q_ki) (o_va := q_va) (o_pl := q_pl) (o_tok := q_tok) (o_at := q_at) (o_kind := q_kind) (o_value := q_value) (o_place := q_place) (o_fault := q_fault) (g_oby := g_qby) (g_oki := g_qki) (g_ova := g_qva) (g_opl := g_qpl) (p0 := (by first | omega | assumption)) (p1 := (by first | omega | assumption)) (p2 := (by first | omega | assumption)) (p3 := (by first | omega | assumption)) (p4 := (by first | omega | assumption)) (p5 := (by first | omega | assumption)) (p6 := (by first | omega | assumption)) (p7 := (by first | omega | assumption))) q_m_X3_61 mv_X10_advance ⟨(Nat.le_of_ble_eq_true rfl), (Nat.le_of_ble_eq_true rfl)⟩ [1, 2, 3, 4, 5] [0] (by decide) rfl rfl (by decide) (by decide) rfl rfl rfl rfl rfl (Nat.le_of_ble_eq_true rfl) ⟨(Nat.le_of_ble_eq_true rfl), (Nat.le_of_ble_eq_true rfl)⟩ dX3_readNumber_69 (fun u_5 H locs eu_5 hP hD hS => ?_)
        obtain ⟨o_at_6, o_kind_7, o_value_8, o_place_9⟩ := u_5
        have eu_5 : (-1 ≤ o_at_6.toInt) ∧ (o_at_6.toInt ≤ 400) ∧ (o_kind_7.toInt = 1 ∨ o_kind_7.toInt = 3 → 0 ≤ o_value_8.toInt ∧ o_value_8.toInt ≤ 99999) ∧ (0 ≤ o_place_9.toInt) ∧ (o_place_9.toInt ≤ 400) := eu_5
        obtain ⟨eu_5a, eu_5b, eu_5c, eu_5d, eu_5e⟩ := eu_5
        have hP : va_P D vwCl [(o, .inr (3, [.ref od])), (q, .inr (10, [.ref q_by, .int q_len, .ref q_ki, .ref q_va, .ref q_pl, .int q_tok, .int o_at_6, .int o_kind_7, .int o_value_8, .int o_place_9, .int q_fault])), (q_by, .inl (cy 0, 400, .inl g_qby)), (q_ki, .inl (cy 0, 401, .inl g_qki)), (q_va, .inl (cy 0, 401, .inl g_qva)), (q_pl, .inl (cy 0, 401, .inl g_qpl))] H := hP
        have hD : va_D A [(o, .inr (3, [.ref od])), (q, .inr (10, [.ref q_by, .int q_len, .ref q_ki, .ref q_va, .ref q_pl, .int q_tok, .int o_at_6, .int o_kind_7, .int o_value_8, .int o_place_9, .int q_fault])), (q_by, .inl (cy 0, 400, .inl g_qby)), (q_ki, .inl (cy 0, 401, .inl g_qki)), (q_va, .inl (cy 0, 401, .inl g_qva)), (q_pl, .inl (cy 0, 401, .inl g_qpl))] := hD
        refine lv_iload hx hb dX3_readNumber_72 (lv_at hl 0 rfl) ?_
        exact KI.rt ⟨o_at_6, o_kind_7, o_value_8, o_place_9, q_fault⟩ F rfl (hP.sub [0, 1, 2, 3, 4, 5] rfl) (hD.sub [0, 1, 2, 3, 4, 5] (by decide) rfl) hS (show (-1 ≤ o_at_6.toInt) ∧ (o_at_6.toInt ≤ 400) ∧ (o_kind_7.toInt = 1 ∨ o_kind_7.toInt = 3 → 0 ≤ o_value_8.toInt ∧ o_value_8.toInt ≤ 99999) ∧ (0 ≤ o_place_9.toInt) ∧ (o_place_9.toInt ≤ 400) ∧ (q_fault.toInt = 0 → q_fault.toInt = 0 ∧ x0.toInt ≤ q_value.toInt ∧ q_value.toInt ≤ x1.toInt) from ⟨(by first | omega | assumption), (by first | omega | assumption), (by first | omega | assumption), (by first | omega | assumption), (by first | omega | assumption), (by first | omega | assumption)⟩) (Nat.le_of_ble_eq_true rfl) (Nat.le_of_ble_eq_true rfl) dX3_readNumber_74
      · have ic_4 : r_3.toInt = 0 := k_eq c_4 rfl (by decide)
        have fc_4 := er_3c ic_4
        clear er_3b er_3c er_3a
        refine lv_aload_n hx hb dX3_readNumber_56 rfl (lv_at hl 2 rfl) ?_
        refine lv_aload_n hx hb dX3_readNumber_57 rfl (lv_at hl 2 rfl) ?_
        refine va_get (D := D) (ci := 10) (v := .int q_place) (C := RX10) (T := TX10) (N := 11) hx hb hG inG_X10 hown hE.1 hP 1 rfl rfl 9 (by decide) (hG _ q_f_X3_51) (fun _ h9 => h9) rfl dX3_readNumber_58 ?_
        refine lv_iconst (v := 1) hx hb dX3_readNumber_61 (by decide) ?_
        have lt32_9 : (1 : Int32).toInt = 1 := by decide
        refine kwVV (wr := [(o, .inr (3, [.ref od])), (q_by, .inl (cy 0, 400, .inl g_qby)), (q_ki, .inl (cy 0, 401, .inl g_qki)), (q_va, .inl (cy 0, 401, .inl g_qva)), (q_pl, .inl (cy 0, 401, .inl g_qpl))]) (As := [.int q_place, .int 1]) (rest := []) F hE hP hD hS hA hl.1 (cc_X10_failAt l D cy (o := q) (x0 := q_place) (x1 := 1) (o_by := q_by) (o_len := q_len) (o_ki := q_ki) (o_va := q_va) (o_pl := q_pl) (o_tok := q_tok) (o_at := q_at) (o_kind := q_kind) (o_value := q_value) (o_place := q_place) (o_fault := q_fault) (p0 := (by first | omega | assumption)) (p1 := (by first | omega | assumption)) (p2 := (by first | omega | assumption)) (p3 := (by first | omega | assumption))) q_m_X3_54 mv_X10_failAt ⟨(Nat.le_of_ble_eq_true rfl), (Nat.le_of_ble_eq_true rfl)⟩ [1] [0, 2, 3, 4, 5] (by decide) rfl rfl (by decide) (by decide) rfl rfl rfl rfl rfl (Nat.le_of_ble_eq_true rfl) ⟨(Nat.le_of_ble_eq_true rfl), (Nat.le_of_ble_eq_true rfl)⟩ dX3_readNumber_62 (fun u_11 H locs eu_11 hP hD hS => ?_)
        have eu_11 : (u_11.toInt ≠ 0) := eu_11
        have hP : va_P D vwCl [(o, .inr (3, [.ref od])), (q_by, .inl (cy 0, 400, .inl g_qby)), (q_ki, .inl (cy 0, 401, .inl g_qki)), (q_va, .inl (cy 0, 401, .inl g_qva)), (q_pl, .inl (cy 0, 401, .inl g_qpl)), (q, .inr (10, [.ref q_by, .int q_len, .ref q_ki, .ref q_va, .ref q_pl, .int q_tok, .int q_at, .int q_kind, .int q_value, .int q_place, .int u_11]))] H := hP
        have hD : va_D A [(o, .inr (3, [.ref od])), (q_by, .inl (cy 0, 400, .inl g_qby)), (q_ki, .inl (cy 0, 401, .inl g_qki)), (q_va, .inl (cy 0, 401, .inl g_qva)), (q_pl, .inl (cy 0, 401, .inl g_qpl)), (q, .inr (10, [.ref q_by, .int q_len, .ref q_ki, .ref q_va, .ref q_pl, .int q_tok, .int q_at, .int q_kind, .int q_value, .int q_place, .int u_11]))] := hD
        refine lv_goto (tgt := 72) hx hb dX3_readNumber_65 (by decide) ?_
        refine lv_iload hx hb dX3_readNumber_72 (lv_at hl 0 rfl) ?_
        exact KI.rt ⟨q_at, q_kind, q_value, q_place, u_11⟩ F rfl (hP.sub [0, 5, 1, 2, 3, 4] rfl) (hD.sub [0, 5, 1, 2, 3, 4] (by decide) rfl) hS (show (-1 ≤ q_at.toInt) ∧ (q_at.toInt ≤ 400) ∧ (q_kind.toInt = 1 ∨ q_kind.toInt = 3 → 0 ≤ q_value.toInt ∧ q_value.toInt ≤ 99999) ∧ (0 ≤ q_place.toInt) ∧ (q_place.toInt ≤ 400) ∧ (u_11.toInt = 0 → q_fault.toInt = 0 ∧ x0.toInt ≤ q_value.toInt ∧ q_value.toInt ≤ x1.toInt) from ⟨(by first | omega | assumption), (by first | omega | assumption), (by first | omega | assumption), (by first | omega | assumption), (by first | omega | assumption), (by first | omega | assumption)⟩) (Nat.le_of_ble_eq_true rfl) (Nat.le_of_ble_eq_true rfl) dX3_readNumber_74
    · have ic_2 : q_kind.toInt ≠ 1 := k_ne c_2 rfl (by decide)
      refine lv_aload_n hx hb dX3_readNumber_34 rfl (lv_at hl 2 rfl) ?_
      refine lv_aload_n hx hb dX3_readNumber_35 rfl (lv_at hl 2 rfl) ?_
      refine va_get (D := D) (ci := 10) (v := .int q_place) (C := RX10) (T := TX10) (N := 11) hx hb hG inG_X10 hown hE.1 hP 1 rfl rfl 9 (by decide) (hG _ q_f_X3_51) (fun _ h9 => h9) rfl dX3_readNumber_36 ?_
      refine lv_iconst (v := 0) hx hb dX3_readNumber_39 (by decide) ?_
      have lt32_12 : (0 : Int32).toInt = 0 := by decide
      refine kwVV (wr := [(o, .inr (3, [.ref od])), (q_by, .inl (cy 0, 400, .inl g_qby)), (q_ki, .inl (cy 0, 401, .inl g_qki)), (q_va, .inl (cy 0, 401, .inl g_qva)), (q_pl, .inl (cy 0, 401, .inl g_qpl))]) (As := [.int q_place, .int 0]) (rest := []) F hE hP hD hS hA hl.1 (cc_X10_failAt l D cy (o := q) (x0 := q_place) (x1 := 0) (o_by := q_by) (o_len := q_len) (o_ki := q_ki) (o_va := q_va) (o_pl := q_pl) (o_tok := q_tok) (o_at := q_at) (o_kind := q_kind) (o_value := q_value) (o_place := q_place) (o_fault := q_fault) (p0 := (by first | omega | assumption)) (p1 := (by first | omega | assumption)) (p2 := (by first | omega | assumption)) (p3 := (by first | omega | assumption))) q_m_X3_54 mv_X10_failAt ⟨(Nat.le_of_ble_eq_true rfl), (Nat.le_of_ble_eq_true rfl)⟩ [1] [0, 2, 3, 4, 5] (by decide) rfl rfl (by decide) (by decide) rfl rfl rfl rfl rfl (Nat.le_of_ble_eq_true rfl) ⟨(Nat.le_of_ble_eq_true rfl), (Nat.le_of_ble_eq_true rfl)⟩ dX3_readNumber_40 (fun u_14 H locs eu_14 hP hD hS => ?_)
      have eu_14 : (u_14.toInt ≠ 0) := eu_14
      have hP : va_P D vwCl [(o, .inr (3, [.ref od])), (q_by, .inl (cy 0, 400, .inl g_qby)), (q_ki, .inl (cy 0, 401, .inl g_qki)), (q_va, .inl (cy 0, 401, .inl g_qva)), (q_pl, .inl (cy 0, 401, .inl g_qpl)), (q, .inr (10, [.ref q_by, .int q_len, .ref q_ki, .ref q_va, .ref q_pl, .int q_tok, .int q_at, .int q_kind, .int q_value, .int q_place, .int u_14]))] H := hP
      have hD : va_D A [(o, .inr (3, [.ref od])), (q_by, .inl (cy 0, 400, .inl g_qby)), (q_ki, .inl (cy 0, 401, .inl g_qki)), (q_va, .inl (cy 0, 401, .inl g_qva)), (q_pl, .inl (cy 0, 401, .inl g_qpl)), (q, .inr (10, [.ref q_by, .int q_len, .ref q_ki, .ref q_va, .ref q_pl, .int q_tok, .int q_at, .int q_kind, .int q_value, .int q_place, .int u_14]))] := hD
      refine lv_goto (tgt := 72) hx hb dX3_readNumber_43 (by decide) ?_
      refine lv_iload hx hb dX3_readNumber_72 (lv_at hl 0 rfl) ?_
      exact KI.rt ⟨q_at, q_kind, q_value, q_place, u_14⟩ F rfl (hP.sub [0, 5, 1, 2, 3, 4] rfl) (hD.sub [0, 5, 1, 2, 3, 4] (by decide) rfl) hS (show (-1 ≤ q_at.toInt) ∧ (q_at.toInt ≤ 400) ∧ (q_kind.toInt = 1 ∨ q_kind.toInt = 3 → 0 ≤ q_value.toInt ∧ q_value.toInt ≤ 99999) ∧ (0 ≤ q_place.toInt) ∧ (q_place.toInt ≤ 400) ∧ (u_14.toInt = 0 → q_fault.toInt = 0 ∧ x0.toInt ≤ q_value.toInt ∧ q_value.toInt ≤ x1.toInt) from ⟨(by first | omega | assumption), (by first | omega | assumption), (by first | omega | assumption), (by first | omega | assumption), (by first | omega | assumption), (by first | omega | assumption)⟩) (Nat.le_of_ble_eq_true rfl) (Nat.le_of_ble_eq_true rfl) dX3_readNumber_74
  · have ic_1 : q_kind.toInt = 2 := k_eq c_1 rfl (by decide)
    refine lv_aload_n hx hb dX3_readNumber_14 rfl (lv_at hl 2 rfl) ?_
    refine lv_aload_n hx hb dX3_readNumber_15 rfl (lv_at hl 2 rfl) ?_
    refine va_get (D := D) (ci := 10) (v := .int q_place) (C := RX10) (T := TX10) (N := 11) hx hb hG inG_X10 hown hE.1 hP 1 rfl rfl 9 (by decide) (hG _ q_f_X3_51) (fun _ h9 => h9) rfl dX3_readNumber_16 ?_
    refine lv_iconst (v := 1) hx hb dX3_readNumber_19 (by decide) ?_
    have lt32_15 : (1 : Int32).toInt = 1 := by decide
    refine kwVV (wr := [(o, .inr (3, [.ref od])), (q_by, .inl (cy 0, 400, .inl g_qby)), (q_ki, .inl (cy 0, 401, .inl g_qki)), (q_va, .inl (cy 0, 401, .inl g_qva)), (q_pl, .inl (cy 0, 401, .inl g_qpl))]) (As := [.int q_place, .int 1]) (rest := []) F hE hP hD hS hA hl.1 (cc_X10_failAt l D cy (o := q) (x0 := q_place) (x1 := 1) (o_by := q_by) (o_len := q_len) (o_ki := q_ki) (o_va := q_va) (o_pl := q_pl) (o_tok := q_tok) (o_at := q_at) (o_kind := q_kind) (o_value := q_value) (o_place := q_place) (o_fault := q_fault) (p0 := (by first | omega | assumption)) (p1 := (by first | omega | assumption)) (p2 := (by first | omega | assumption)) (p3 := (by first | omega | assumption))) q_m_X3_54 mv_X10_failAt ⟨(Nat.le_of_ble_eq_true rfl), (Nat.le_of_ble_eq_true rfl)⟩ [1] [0, 2, 3, 4, 5] (by decide) rfl rfl (by decide) (by decide) rfl rfl rfl rfl rfl (Nat.le_of_ble_eq_true rfl) ⟨(Nat.le_of_ble_eq_true rfl), (Nat.le_of_ble_eq_true rfl)⟩ dX3_readNumber_20 (fun u_17 H locs eu_17 hP hD hS => ?_)
    have eu_17 : (u_17.toInt ≠ 0) := eu_17
    have hP : va_P D vwCl [(o, .inr (3, [.ref od])), (q_by, .inl (cy 0, 400, .inl g_qby)), (q_ki, .inl (cy 0, 401, .inl g_qki)), (q_va, .inl (cy 0, 401, .inl g_qva)), (q_pl, .inl (cy 0, 401, .inl g_qpl)), (q, .inr (10, [.ref q_by, .int q_len, .ref q_ki, .ref q_va, .ref q_pl, .int q_tok, .int q_at, .int q_kind, .int q_value, .int q_place, .int u_17]))] H := hP
    have hD : va_D A [(o, .inr (3, [.ref od])), (q_by, .inl (cy 0, 400, .inl g_qby)), (q_ki, .inl (cy 0, 401, .inl g_qki)), (q_va, .inl (cy 0, 401, .inl g_qva)), (q_pl, .inl (cy 0, 401, .inl g_qpl)), (q, .inr (10, [.ref q_by, .int q_len, .ref q_ki, .ref q_va, .ref q_pl, .int q_tok, .int q_at, .int q_kind, .int q_value, .int q_place, .int u_17]))] := hD
    refine lv_goto (tgt := 72) hx hb dX3_readNumber_23 (by decide) ?_
    refine lv_iload hx hb dX3_readNumber_72 (lv_at hl 0 rfl) ?_
    exact KI.rt ⟨q_at, q_kind, q_value, q_place, u_17⟩ F rfl (hP.sub [0, 5, 1, 2, 3, 4] rfl) (hD.sub [0, 5, 1, 2, 3, 4] (by decide) rfl) hS (show (-1 ≤ q_at.toInt) ∧ (q_at.toInt ≤ 400) ∧ (q_kind.toInt = 1 ∨ q_kind.toInt = 3 → 0 ≤ q_value.toInt ∧ q_value.toInt ≤ 99999) ∧ (0 ≤ q_place.toInt) ∧ (q_place.toInt ≤ 400) ∧ (u_17.toInt = 0 → q_fault.toInt = 0 ∧ x0.toInt ≤ q_value.toInt ∧ q_value.toInt ≤ x1.toInt) from ⟨(by first | omega | assumption), (by first | omega | assumption), (by first | omega | assumption), (by first | omega | assumption), (by first | omega | assumption), (by first | omega | assumption)⟩) (Nat.le_of_ble_eq_true rfl) (Nat.le_of_ble_eq_true rfl) dX3_readNumber_74

set_option maxHeartbeats 4000000 in
set_option maxRecDepth 100000 in
theorem cc_X3_readFreePlace (l : Launch) (D : va_G) (cy : Nat → ClassId) (o : Nat) (od : Nat) (od_c : Nat) (g_od : Nat → Int32) (q : Nat) (q_by : Nat) (q_ki : Nat) (q_va : Nat) (q_pl : Nat) (q_len : Int32) (q_tok : Int32) (q_at : Int32) (q_kind : Int32) (q_value : Int32) (q_place : Int32) (q_fault : Int32) (g_qby : Nat → Int32) (g_qki : Nat → Int32) (g_qva : Nat → Int32) (g_qpl : Nat → Int32) (h_g_od : DV g_od) (p0 : 0 ≤ q_tok.toInt) (p1 : q_tok.toInt ≤ 401) (p2 : -1 ≤ q_at.toInt) (p3 : q_at.toInt ≤ 400) (p4 : TKV g_qki g_qva g_qpl q_tok.toInt) (p5 : q_kind.toInt = 1 ∨ q_kind.toInt = 3 → 0 ≤ q_value.toInt ∧ q_value.toInt ≤ 99999) (p6 : 0 ≤ q_place.toInt) (p7 : q_place.toInt ≤ 400) : KI l yX3_readFreePlace cX3_readFreePlace 4 (some .int) 2 46 D (kTY cy) [.ref o, .ref q] [(o, .inr (3, [.ref od])), (od, .inr (1, [.ref od_c])), (od_c, .inl (cy 0, 63, .inl g_od)), (q, .inr (10, [.ref q_by, .int q_len, .ref q_ki, .ref q_va, .ref q_pl, .int q_tok, .int q_at, .int q_kind, .int q_value, .int q_place, .int q_fault])), (q_by, .inl (cy 0, 400, .inl g_qby)), (q_ki, .inl (cy 0, 401, .inl g_qki)), (q_va, .inl (cy 0, 401, .inl g_qva)), (q_pl, .inl (cy 0, 401, .inl g_qpl))] (S := Int32 × Int32 × Int32 × Int32 × Int32) (fun r u => (-1 ≤ (u.1).toInt) ∧ ((u.1).toInt ≤ 400) ∧ ((u.2.1).toInt = 1 ∨ (u.2.1).toInt = 3 → 0 ≤ (u.2.2.1).toInt ∧ (u.2.2.1).toInt ≤ 99999) ∧ (0 ≤ (u.2.2.2.1).toInt) ∧ ((u.2.2.2.1).toInt ≤ 400) ∧ ((u.2.2.2.2).toInt = 0 → q_fault.toInt = 0)) (fun u => [(o, .inr (3, [.ref od])), (od, .inr (1, [.ref od_c])), (od_c, .inl (cy 0, 63, .inl g_od)), (q, .inr (10, [.ref q_by, .int q_len, .ref q_ki, .ref q_va, .ref q_pl, .int q_tok, .int (u.1), .int (u.2.1), .int (u.2.2.1), .int (u.2.2.2.1), .int (u.2.2.2.2)])), (q_by, .inl (cy 0, 400, .inl g_qby)), (q_ki, .inl (cy 0, 401, .inl g_qki)), (q_va, .inl (cy 0, 401, .inl g_qva)), (q_pl, .inl (cy 0, 401, .inl g_qpl))]) 0 0 := by
  refine KI.of (by decide) (Nat.le_of_ble_eq_true rfl) (fun p e s m below meth c ls A F hE hP hD hA hS hl => ?_)
  have F : kF p s m meth c cX3_readFreePlace 4 (some .int) _ RX3 := F
  obtain ⟨hx, hb, hr, hml, hown, hG, hlk⟩ := id F
  have hl : lv_has ls 4 [(0, .ref o), (1, .ref q)] := hl
  obtain ⟨⟨b_1a, b_1b⟩, ⟨b_1c, b_1d⟩, ⟨b_1e, b_1f⟩⟩ := DV.bounds h_g_od
  refine lv_aload_n hx hb dX3_readFreePlace_0 rfl (lv_at hl 1 rfl) ?_
  refine va_get (D := D) (ci := 10) (v := .int q_place) (C := RX10) (T := TX10) (N := 11) hx hb hG inG_X10 hown hE.1 hP 3 rfl rfl 9 (by decide) (hG _ q_f_X3_51) (fun _ h9 => h9) rfl dX3_readFreePlace_1 ?_
  refine lv_istore_n (lv' := [(2, .int q_place), (0, .ref o), (1, .ref q)]) hx hb dX3_readFreePlace_4 rfl hl (by decide) rfl (fun ls hl => ?_)
  refine lv_aload_n hx hb dX3_readFreePlace_5 rfl (lv_at hl 1 rfl) ?_
  refine lv_aload_n hx hb dX3_readFreePlace_6 rfl (lv_at hl 2 rfl) ?_
  refine lv_iconst (v := 0) hx hb dX3_readFreePlace_7 (by decide) ?_
  refine lv_aload_n hx hb dX3_readFreePlace_8 rfl (lv_at hl 1 rfl) ?_
  refine va_get (D := D) (ci := 3) (v := .ref od) (C := RX3) (T := TX3) (N := 1) hx hb hG inG_X3 hown hE.1 hP 0 rfl rfl 0 (by decide) (hG _ q_f_X3_12) (fun _ h9 => h9) rfl dX3_readFreePlace_9 ?_
  refine va_get (D := D) (ci := 1) (v := .ref od_c) (C := RX1) (T := TX1) (N := 1) hx hb hG inG_X1 hown hE.1 hP 1 rfl rfl 0 (by decide) (hG _ q_f_X3_69) (fun _ h9 => h9) rfl dX3_readFreePlace_12 ?_
  refine lv_iconst (v := 0) hx hb dX3_readFreePlace_15 (by decide) ?_
  refine va_iald hx hb hE.1 hP 2 0 rfl rfl (by unfold vp_in; decide) dX3_readFreePlace_16 ?_
  refine k_top (z := (g_od 0)) rfl ?_
  refine lv_iconst (v := 1) hx hb dX3_readFreePlace_17 (by decide) ?_
  refine lv_isub hx hb dX3_readFreePlace_18 ?_
  refine lv_topi (fun z_2 ez_2 => ?_)
  have lt32_2 : (0 : Int32).toInt = 0 := by decide
  refine kwVI (wr := [(od, .inr (1, [.ref od_c])), (od_c, .inl (cy 0, 63, .inl g_od))]) (As := [.ref q, .int 0, .int z_2]) (rest := []) F hE hP hD hS hA hl.1 (cc_X3_readNumber l D cy (o := o) (q := q) (x0 := 0) (x1 := z_2) (od := od) (q_by := q_by) (q_len := q_len) (q_ki := q_ki) (q_va := q_va) (q_pl := q_pl) (q_tok := q_tok) (q_at := q_at) (q_kind := q_kind) (q_value := q_value) (q_place := q_place) (q_fault := q_fault) (g_qby := g_qby) (g_qki := g_qki) (g_qva := g_qva) (g_qpl := g_qpl) (p0 := (by first | omega | assumption)) (p1 := (by first | omega | assumption)) (p2 := (by first | omega | assumption)) (p3 := (by first | omega | assumption)) (p4 := (by first | omega | assumption)) (p5 := (by first | omega | assumption)) (p6 := (by first | omega | assumption)) (p7 := (by first | omega | assumption))) q_m_X3_73 mv_X3_readNumber ⟨(Nat.le_of_ble_eq_true rfl), (Nat.le_of_ble_eq_true rfl)⟩ [0, 3, 4, 5, 6, 7] [1, 2] (by decide) rfl rfl (by decide) (by decide) rfl rfl rfl rfl rfl (Nat.le_of_ble_eq_true rfl) ⟨(Nat.le_of_ble_eq_true rfl), (Nat.le_of_ble_eq_true rfl)⟩ dX3_readFreePlace_19 (fun r_5 u_4 H locs eu_4 hP hD hS => ?_)
  obtain ⟨q_at_6, q_kind_7, q_value_8, q_place_9, q_fault_10⟩ := u_4
  have eu_4 : (-1 ≤ q_at_6.toInt) ∧ (q_at_6.toInt ≤ 400) ∧ (q_kind_7.toInt = 1 ∨ q_kind_7.toInt = 3 → 0 ≤ q_value_8.toInt ∧ q_value_8.toInt ≤ 99999) ∧ (0 ≤ q_place_9.toInt) ∧ (q_place_9.toInt ≤ 400) ∧ (q_fault_10.toInt = 0 → q_fault.toInt = 0 ∧ (0 : Int32).toInt ≤ r_5.toInt ∧ r_5.toInt ≤ z_2.toInt) := eu_4
  obtain ⟨eu_4a, eu_4b, eu_4c, eu_4d, eu_4e, eu_4f⟩ := eu_4
  have hP : va_P D vwCl [(od, .inr (1, [.ref od_c])), (od_c, .inl (cy 0, 63, .inl g_od)), (o, .inr (3, [.ref od])), (q, .inr (10, [.ref q_by, .int q_len, .ref q_ki, .ref q_va, .ref q_pl, .int q_tok, .int q_at_6, .int q_kind_7, .int q_value_8, .int q_place_9, .int q_fault_10])), (q_by, .inl (cy 0, 400, .inl g_qby)), (q_ki, .inl (cy 0, 401, .inl g_qki)), (q_va, .inl (cy 0, 401, .inl g_qva)), (q_pl, .inl (cy 0, 401, .inl g_qpl))] H := hP
  have hD : va_D A [(od, .inr (1, [.ref od_c])), (od_c, .inl (cy 0, 63, .inl g_od)), (o, .inr (3, [.ref od])), (q, .inr (10, [.ref q_by, .int q_len, .ref q_ki, .ref q_va, .ref q_pl, .int q_tok, .int q_at_6, .int q_kind_7, .int q_value_8, .int q_place_9, .int q_fault_10])), (q_by, .inl (cy 0, 400, .inl g_qby)), (q_ki, .inl (cy 0, 401, .inl g_qki)), (q_va, .inl (cy 0, 401, .inl g_qva)), (q_pl, .inl (cy 0, 401, .inl g_qpl))] := hD
  refine lv_istore_n (lv' := [(3, .int r_5), (2, .int q_place), (0, .ref o), (1, .ref q)]) hx hb dX3_readFreePlace_22 rfl hl (by decide) rfl (fun ls hl => ?_)
  refine lv_aload_n hx hb dX3_readFreePlace_23 rfl (lv_at hl 2 rfl) ?_
  refine va_get (D := D) (ci := 3) (v := .ref od) (C := RX3) (T := TX3) (N := 1) hx hb hG inG_X3 hown hE.1 hP 2 rfl rfl 0 (by decide) (hG _ q_f_X3_12) (fun _ h9 => h9) rfl dX3_readFreePlace_24 ?_
  refine lv_iload_n hx hb dX3_readFreePlace_27 rfl (lv_at hl 0 rfl) ?_
  refine kcV (As := [.int r_5]) (rest := []) F hE hP hl.1 (cc_ringAtD l D cy (o := od) (x0 := r_5) (o_c := od_c) (g_o := g_od) (h_g_o := h_g_od)) q_m_X3_81 mv_X1_ringAt ⟨(Nat.le_of_ble_eq_true rfl), (Nat.le_of_ble_eq_true rfl)⟩ [0, 1] rfl rfl rfl rfl rfl rfl (Nat.le_of_ble_eq_true rfl) ⟨(Nat.le_of_ble_eq_true rfl), (Nat.le_of_ble_eq_true rfl)⟩ dX3_readFreePlace_28 (fun r_11 er_11 => ?_)
  have er_11 : (-1 ≤ r_11.toInt) ∧ (r_11.toInt ≤ 5) := er_11
  obtain ⟨er_11a, er_11b⟩ := er_11
  refine lv_iconst (v := (-1)) hx hb dX3_readFreePlace_31 (by decide) ?_
  refine lv_icmp_eq (tgt := 41) hx hb dX3_readFreePlace_32 (by decide) (fun c_12 => ?_) (fun c_12 => ?_)
  · have ic_12 : r_11.toInt = (-1) := k_eq c_12 rfl (by decide)
    refine lv_iload_n hx hb dX3_readFreePlace_41 rfl (lv_at hl 0 rfl) ?_
    exact KI.rt ⟨q_at_6, q_kind_7, q_value_8, q_place_9, q_fault_10⟩ F rfl (hP.sub [2, 0, 1, 3, 4, 5, 6, 7] rfl) (hD.sub [2, 0, 1, 3, 4, 5, 6, 7] (by decide) rfl) hS (show (-1 ≤ q_at_6.toInt) ∧ (q_at_6.toInt ≤ 400) ∧ (q_kind_7.toInt = 1 ∨ q_kind_7.toInt = 3 → 0 ≤ q_value_8.toInt ∧ q_value_8.toInt ≤ 99999) ∧ (0 ≤ q_place_9.toInt) ∧ (q_place_9.toInt ≤ 400) ∧ (q_fault_10.toInt = 0 → q_fault.toInt = 0) from ⟨(by first | omega | assumption), (by first | omega | assumption), (by first | omega | assumption), (by first | omega | assumption), (by first | omega | assumption), (by first | omega | assumption)⟩) (Nat.le_of_ble_eq_true rfl) (Nat.le_of_ble_eq_true rfl) dX3_readFreePlace_42
  · have ic_12 : r_11.toInt ≠ (-1) := k_ne c_12 rfl (by decide)
    refine lv_aload_n hx hb dX3_readFreePlace_35 rfl (lv_at hl 3 rfl) ?_
    refine lv_iload_n hx hb dX3_readFreePlace_36 rfl (lv_at hl 1 rfl) ?_
    refine lv_iconst (v := 1) hx hb dX3_readFreePlace_37 (by decide) ?_
    have lt32_12 : (1 : Int32).toInt = 1 := by decide
    refine kwVV (wr := [(od, .inr (1, [.ref od_c])), (od_c, .inl (cy 0, 63, .inl g_od)), (o, .inr (3, [.ref od])), (q_by, .inl (cy 0, 400, .inl g_qby)), (q_ki, .inl (cy 0, 401, .inl g_qki)), (q_va, .inl (cy 0, 401, .inl g_qva)), (q_pl, .inl (cy 0, 401, .inl g_qpl))]) (As := [.int q_place, .int 1]) (rest := []) F hE hP hD hS hA hl.1 (cc_X10_failAt l D cy (o := q) (x0 := q_place) (x1 := 1) (o_by := q_by) (o_len := q_len) (o_ki := q_ki) (o_va := q_va) (o_pl := q_pl) (o_tok := q_tok) (o_at := q_at_6) (o_kind := q_kind_7) (o_value := q_value_8) (o_place := q_place_9) (o_fault := q_fault_10) (p0 := (by first | omega | assumption)) (p1 := (by first | omega | assumption)) (p2 := (by first | omega | assumption)) (p3 := (by first | omega | assumption))) q_m_X3_54 mv_X10_failAt ⟨(Nat.le_of_ble_eq_true rfl), (Nat.le_of_ble_eq_true rfl)⟩ [3] [0, 1, 2, 4, 5, 6, 7] (by decide) rfl rfl (by decide) (by decide) rfl rfl rfl rfl rfl (Nat.le_of_ble_eq_true rfl) ⟨(Nat.le_of_ble_eq_true rfl), (Nat.le_of_ble_eq_true rfl)⟩ dX3_readFreePlace_38 (fun u_14 H locs eu_14 hP hD hS => ?_)
    have eu_14 : (u_14.toInt ≠ 0) := eu_14
    have hP : va_P D vwCl [(od, .inr (1, [.ref od_c])), (od_c, .inl (cy 0, 63, .inl g_od)), (o, .inr (3, [.ref od])), (q_by, .inl (cy 0, 400, .inl g_qby)), (q_ki, .inl (cy 0, 401, .inl g_qki)), (q_va, .inl (cy 0, 401, .inl g_qva)), (q_pl, .inl (cy 0, 401, .inl g_qpl)), (q, .inr (10, [.ref q_by, .int q_len, .ref q_ki, .ref q_va, .ref q_pl, .int q_tok, .int q_at_6, .int q_kind_7, .int q_value_8, .int q_place_9, .int u_14]))] H := hP
    have hD : va_D A [(od, .inr (1, [.ref od_c])), (od_c, .inl (cy 0, 63, .inl g_od)), (o, .inr (3, [.ref od])), (q_by, .inl (cy 0, 400, .inl g_qby)), (q_ki, .inl (cy 0, 401, .inl g_qki)), (q_va, .inl (cy 0, 401, .inl g_qva)), (q_pl, .inl (cy 0, 401, .inl g_qpl)), (q, .inr (10, [.ref q_by, .int q_len, .ref q_ki, .ref q_va, .ref q_pl, .int q_tok, .int q_at_6, .int q_kind_7, .int q_value_8, .int q_place_9, .int u_14]))] := hD
    refine lv_iload_n hx hb dX3_readFreePlace_41 rfl (lv_at hl 0 rfl) ?_
    exact KI.rt ⟨q_at_6, q_kind_7, q_value_8, q_place_9, u_14⟩ F rfl (hP.sub [2, 0, 1, 7, 3, 4, 5, 6] rfl) (hD.sub [2, 0, 1, 7, 3, 4, 5, 6] (by decide) rfl) hS (show (-1 ≤ q_at_6.toInt) ∧ (q_at_6.toInt ≤ 400) ∧ (q_kind_7.toInt = 1 ∨ q_kind_7.toInt = 3 → 0 ≤ q_value_8.toInt ∧ q_value_8.toInt ≤ 99999) ∧ (0 ≤ q_place_9.toInt) ∧ (q_place_9.toInt ≤ 400) ∧ (u_14.toInt = 0 → q_fault.toInt = 0) from ⟨(by first | omega | assumption), (by first | omega | assumption), (by first | omega | assumption), (by first | omega | assumption), (by first | omega | assumption), (by first | omega | assumption)⟩) (Nat.le_of_ble_eq_true rfl) (Nat.le_of_ble_eq_true rfl) dX3_readFreePlace_42

set_option maxHeartbeats 4000000 in
set_option maxRecDepth 100000 in
theorem cc_X3_readNumbers (l : Launch) (D : va_G) (cy : Nat → ClassId) (o : Nat) (od : Nat) (od_c : Nat) (g_od : Nat → Int32) (q : Nat) (q_by : Nat) (q_ki : Nat) (q_va : Nat) (q_pl : Nat) (q_len : Int32) (q_tok : Int32) (q_at : Int32) (q_kind : Int32) (q_value : Int32) (q_place : Int32) (q_fault : Int32) (g_qby : Nat → Int32) (g_qki : Nat → Int32) (g_qva : Nat → Int32) (g_qpl : Nat → Int32) (x0 : Int32) (h_g_od : DV g_od) (p0 : 0 ≤ q_tok.toInt) (p1 : q_tok.toInt ≤ 401) (p2 : -1 ≤ q_at.toInt) (p3 : q_at.toInt ≤ 400) (p4 : TKV g_qki g_qva g_qpl q_tok.toInt) (p5 : q_kind.toInt = 1 ∨ q_kind.toInt = 3 → 0 ≤ q_value.toInt ∧ q_value.toInt ≤ 99999) (p6 : 0 ≤ q_place.toInt) (p7 : q_place.toInt ≤ 400) (p8 : q_fault.toInt = 0 → FV g_od) (p9 : x0.toInt = 13 ∨ x0.toInt = 10 ∨ x0.toInt = 1 ∨ x0.toInt = 0) (p10 : x0.toInt = 10 → (g_od 2).toInt ≤ 11) (p11 : x0.toInt = 1 → (g_od 3).toInt ≤ 5) (p12 : x0.toInt = 0 → (g_od 4).toInt ≤ 4) : KV l yX3_readNumbers cX3_readNumbers 5 3 69 D (kTY cy) [.ref o, .ref q, .int x0] [(o, .inr (3, [.ref od])), (od, .inr (1, [.ref od_c])), (od_c, .inl (cy 0, 63, .inl g_od)), (q, .inr (10, [.ref q_by, .int q_len, .ref q_ki, .ref q_va, .ref q_pl, .int q_tok, .int q_at, .int q_kind, .int q_value, .int q_place, .int q_fault])), (q_by, .inl (cy 0, 400, .inl g_qby)), (q_ki, .inl (cy 0, 401, .inl g_qki)), (q_va, .inl (cy 0, 401, .inl g_qva)), (q_pl, .inl (cy 0, 401, .inl g_qpl))] (S := (Nat → Int32) × Int32 × Int32 × Int32 × Int32 × Int32) (fun u => DV (u.1) ∧ (-1 ≤ (u.2.1).toInt) ∧ ((u.2.1).toInt ≤ 400) ∧ ((u.2.2.1).toInt = 1 ∨ (u.2.2.1).toInt = 3 → 0 ≤ (u.2.2.2.1).toInt ∧ (u.2.2.2.1).toInt ≤ 99999) ∧ (0 ≤ (u.2.2.2.2.1).toInt) ∧ ((u.2.2.2.2.1).toInt ≤ 400) ∧ ((u.2.2.2.2.2).toInt = 0 → FV (u.1))) (fun u => [(o, .inr (3, [.ref od])), (od, .inr (1, [.ref od_c])), (od_c, .inl (cy 0, 63, .inl (u.1))), (q, .inr (10, [.ref q_by, .int q_len, .ref q_ki, .ref q_va, .ref q_pl, .int q_tok, .int (u.2.1), .int (u.2.2.1), .int (u.2.2.2.1), .int (u.2.2.2.2.1), .int (u.2.2.2.2.2)])), (q_by, .inl (cy 0, 400, .inl g_qby)), (q_ki, .inl (cy 0, 401, .inl g_qki)), (q_va, .inl (cy 0, 401, .inl g_qva)), (q_pl, .inl (cy 0, 401, .inl g_qpl))]) 0 0 := by
  refine KV.of (by decide) (Nat.le_of_ble_eq_true rfl) (fun p e s m below meth c ls A F hin hE hP hD hA hS hl => ?_)
  have F : kF p s m meth c cX3_readNumbers 5 none _ RX3 := F
  obtain ⟨hx, hb, hr, hml, hown, hG, hlk⟩ := id F
  have hl : lv_has ls 5 [(0, .ref o), (1, .ref q), (2, .int x0)] := hl
  obtain ⟨⟨b_1a, b_1b⟩, ⟨b_1c, b_1d⟩, ⟨b_1e, b_1f⟩⟩ := DV.bounds h_g_od
  refine lv_aload_n hx hb dX3_readNumbers_0 rfl (lv_at hl 0 rfl) ?_
  refine va_get (D := D) (ci := 3) (v := .ref od) (C := RX3) (T := TX3) (N := 1) hx hb hG inG_X3 hown hE.1 hP 0 rfl rfl 0 (by decide) (hG _ q_f_X3_12) (fun _ h9 => h9) rfl dX3_readNumbers_1 ?_
  refine va_get (D := D) (ci := 1) (v := .ref od_c) (C := RX1) (T := TX1) (N := 1) hx hb hG inG_X1 hown hE.1 hP 1 rfl rfl 0 (by decide) (hG _ q_f_X3_69) (fun _ h9 => h9) rfl dX3_readNumbers_4 ?_
  refine lv_astore_n (lv' := [(3, .ref od_c), (0, .ref o), (1, .ref q), (2, .int x0)]) hx hb dX3_readNumbers_7 rfl hl (by decide) rfl (fun ls hl => ?_)
  refine lv_iload_n hx hb dX3_readNumbers_8 rfl (lv_at hl 3 rfl) ?_
  refine lv_bipush (v := 13) hx hb dX3_readNumbers_9 (by decide) ?_
  refine lv_icmp_ne (tgt := 39) hx hb dX3_readNumbers_11 (by decide) (fun c_2 => ?_) (fun c_2 => ?_)
  · have ic_2 : x0.toInt ≠ 13 := k_ne c_2 rfl (by decide)
    refine lv_iload_n hx hb dX3_readNumbers_39 rfl (lv_at hl 3 rfl) ?_
    refine lv_bipush (v := 10) hx hb dX3_readNumbers_40 (by decide) ?_
    refine lv_icmp_ne (tgt := 71) hx hb dX3_readNumbers_42 (by decide) (fun c_3 => ?_) (fun c_3 => ?_)
    · have ic_3 : x0.toInt ≠ 10 := k_ne c_3 rfl (by decide)
      refine lv_iload_n hx hb dX3_readNumbers_71 rfl (lv_at hl 3 rfl) ?_
      refine lv_iconst (v := 1) hx hb dX3_readNumbers_72 (by decide) ?_
      refine lv_icmp_ne (tgt := 118) hx hb dX3_readNumbers_73 (by decide) (fun c_4 => ?_) (fun c_4 => ?_)
      · have ic_4 : x0.toInt ≠ 1 := k_ne c_4 rfl (by decide)
        have hw := p12 (by omega)
        clear p9 p10 p11 p12
        refine lv_aload_n hx hb dX3_readNumbers_118 rfl (lv_at hl 0 rfl) ?_
        refine lv_iconst (v := 4) hx hb dX3_readNumbers_119 (by decide) ?_
        refine va_iald hx hb hE.1 hP 2 0 rfl rfl (by unfold vp_in; decide) dX3_readNumbers_120 ?_
        refine k_top (z := (g_od 4)) rfl ?_
        refine lv_istore (lv' := [(4, .int (g_od 4)), (3, .ref od_c), (0, .ref o), (1, .ref q), (2, .int x0)]) hx hb dX3_readNumbers_121 hl (by decide) rfl (fun ls hl => ?_)
        refine lv_aload_n hx hb dX3_readNumbers_123 rfl (lv_at hl 1 rfl) ?_
        refine lv_bipush (v := 38) hx hb dX3_readNumbers_124 (by decide) ?_
        refine lv_iload hx hb dX3_readNumbers_126 (lv_at hl 0 rfl) ?_
        refine lv_iadd hx hb dX3_readNumbers_128 ?_
        refine lv_topi (fun z_5 ez_5 => ?_)
        have iz_5 : z_5.toInt = 38 + (g_od 4).toInt := k_addI ez_5 (by decide) rfl (by omega)
        refine lv_aload_n hx hb dX3_readNumbers_129 rfl (lv_at hl 2 rfl) ?_
        refine lv_aload_n hx hb dX3_readNumbers_130 rfl (lv_at hl 3 rfl) ?_
        refine lv_iconst (v := 0) hx hb dX3_readNumbers_131 (by decide) ?_
        refine lv_aload_n hx hb dX3_readNumbers_132 rfl (lv_at hl 1 rfl) ?_
        refine lv_iconst (v := 3) hx hb dX3_readNumbers_133 (by decide) ?_
        refine va_iald hx hb hE.1 hP 2 0 rfl rfl (by unfold vp_in; decide) dX3_readNumbers_134 ?_
        refine k_top (z := (g_od 3)) rfl ?_
        refine lv_iconst (v := 1) hx hb dX3_readNumbers_135 (by decide) ?_
        refine lv_isub hx hb dX3_readNumbers_136 ?_
        refine lv_topi (fun z_6 ez_6 => ?_)
        have iz_6 : z_6.toInt = (g_od 3).toInt - 1 := k_subI ez_6 rfl (by decide) (by omega)
        have lt32_6 : (0 : Int32).toInt = 0 := by decide
        refine kwVI (wr := [(od, .inr (1, [.ref od_c])), (od_c, .inl (cy 0, 63, .inl g_od))]) (As := [.ref q, .int 0, .int z_6]) (rest := [.int z_5, .ref od_c]) F hE hP hD hS hA hl.1 (cc_X3_readNumber l D cy (o := o) (q := q) (x0 := 0) (x1 := z_6) (od := od) (q_by := q_by) (q_len := q_len) (q_ki := q_ki) (q_va := q_va) (q_pl := q_pl) (q_tok := q_tok) (q_at := q_at) (q_kind := q_kind) (q_value := q_value) (q_place := q_place) (q_fault := q_fault) (g_qby := g_qby) (g_qki := g_qki) (g_qva := g_qva) (g_qpl := g_qpl) (p0 := (by first | omega | assumption)) (p1 := (by first | omega | assumption)) (p2 := (by first | omega | assumption)) (p3 := (by first | omega | assumption)) (p4 := (by first | omega | assumption)) (p5 := (by first | omega | assumption)) (p6 := (by first | omega | assumption)) (p7 := (by first | omega | assumption))) q_m_X3_73 mv_X3_readNumber ⟨(Nat.le_of_ble_eq_true rfl), (Nat.le_of_ble_eq_true rfl)⟩ [0, 3, 4, 5, 6, 7] [1, 2] (by decide) rfl rfl (by decide) (by decide) rfl rfl rfl rfl rfl (Nat.le_of_ble_eq_true rfl) ⟨(Nat.le_of_ble_eq_true rfl), (Nat.le_of_ble_eq_true rfl)⟩ dX3_readNumbers_137 (fun r_9 u_8 H locs eu_8 hP hD hS => ?_)
        obtain ⟨q_at_10, q_kind_11, q_value_12, q_place_13, q_fault_14⟩ := u_8
        have eu_8 : (-1 ≤ q_at_10.toInt) ∧ (q_at_10.toInt ≤ 400) ∧ (q_kind_11.toInt = 1 ∨ q_kind_11.toInt = 3 → 0 ≤ q_value_12.toInt ∧ q_value_12.toInt ≤ 99999) ∧ (0 ≤ q_place_13.toInt) ∧ (q_place_13.toInt ≤ 400) ∧ (q_fault_14.toInt = 0 → q_fault.toInt = 0 ∧ (0 : Int32).toInt ≤ r_9.toInt ∧ r_9.toInt ≤ z_6.toInt) := eu_8
        obtain ⟨eu_8a, eu_8b, eu_8c, eu_8d, eu_8e, eu_8f⟩ := eu_8
        have hP : va_P D vwCl [(od, .inr (1, [.ref od_c])), (od_c, .inl (cy 0, 63, .inl g_od)), (o, .inr (3, [.ref od])), (q, .inr (10, [.ref q_by, .int q_len, .ref q_ki, .ref q_va, .ref q_pl, .int q_tok, .int q_at_10, .int q_kind_11, .int q_value_12, .int q_place_13, .int q_fault_14])), (q_by, .inl (cy 0, 400, .inl g_qby)), (q_ki, .inl (cy 0, 401, .inl g_qki)), (q_va, .inl (cy 0, 401, .inl g_qva)), (q_pl, .inl (cy 0, 401, .inl g_qpl))] H := hP
        have hD : va_D A [(od, .inr (1, [.ref od_c])), (od_c, .inl (cy 0, 63, .inl g_od)), (o, .inr (3, [.ref od])), (q, .inr (10, [.ref q_by, .int q_len, .ref q_ki, .ref q_va, .ref q_pl, .int q_tok, .int q_at_10, .int q_kind_11, .int q_value_12, .int q_place_13, .int q_fault_14])), (q_by, .inl (cy 0, 400, .inl g_qby)), (q_ki, .inl (cy 0, 401, .inl g_qki)), (q_va, .inl (cy 0, 401, .inl g_qva)), (q_pl, .inl (cy 0, 401, .inl g_qpl))] := hD
        clear p5
        refine va_iast hx hb hE.1 hP hD hS 1 0 rfl rfl (k_in (by omega)) dX3_readNumbers_140 (fun H locs hP hD hS => ?_)
        have ku_17 : ((upd g_od (Int32.toNatClampNeg z_5) r_9) 2).toInt = (g_od 2).toInt := k_updI (z := z_5) (by omega) (by omega)
        have ku_18 : ((upd g_od (Int32.toNatClampNeg z_5) r_9) 3).toInt = (g_od 3).toInt := k_updI (z := z_5) (by omega) (by omega)
        have ku_19 : ((upd g_od (Int32.toNatClampNeg z_5) r_9) 4).toInt = (g_od 4).toInt := k_updI (z := z_5) (by omega) (by omega)
        have fv_16 : q_fault_14.toInt = 0 → FV (upd g_od (Int32.toNatClampNeg z_5) r_9) := fun q0 => FV.put (p8 (by omega)) z_5 r_9 (by omega) (by omega) (by omega) (by omega) (by omega)
        clear eu_8f
        have hr_20 : DV (upd g_od (Int32.toNatClampNeg z_5) r_9) := DV.put h_g_od z_5 r_9 (by omega) (by omega) (by omega) (by omega)
        generalize upd g_od (Int32.toNatClampNeg z_5) r_9 = fn_15 at hP hD fv_16 ku_17 ku_18 ku_19 hr_20
        have hP : va_P D vwCl [(od, .inr (1, [.ref od_c])), (od_c, .inl (cy 0, 63, .inl fn_15)), (o, .inr (3, [.ref od])), (q, .inr (10, [.ref q_by, .int q_len, .ref q_ki, .ref q_va, .ref q_pl, .int q_tok, .int q_at_10, .int q_kind_11, .int q_value_12, .int q_place_13, .int q_fault_14])), (q_by, .inl (cy 0, 400, .inl g_qby)), (q_ki, .inl (cy 0, 401, .inl g_qki)), (q_va, .inl (cy 0, 401, .inl g_qva)), (q_pl, .inl (cy 0, 401, .inl g_qpl))] H := hP
        have hD : va_D A [(od, .inr (1, [.ref od_c])), (od_c, .inl (cy 0, 63, .inl fn_15)), (o, .inr (3, [.ref od])), (q, .inr (10, [.ref q_by, .int q_len, .ref q_ki, .ref q_va, .ref q_pl, .int q_tok, .int q_at_10, .int q_kind_11, .int q_value_12, .int q_place_13, .int q_fault_14])), (q_by, .inl (cy 0, 400, .inl g_qby)), (q_ki, .inl (cy 0, 401, .inl g_qki)), (q_va, .inl (cy 0, 401, .inl g_qva)), (q_pl, .inl (cy 0, 401, .inl g_qpl))] := hD
        obtain ⟨⟨b_21a, b_21b⟩, ⟨b_21c, b_21d⟩, ⟨b_21e, b_21f⟩⟩ := DV.bounds hr_20
        refine lv_aload_n hx hb dX3_readNumbers_141 rfl (lv_at hl 1 rfl) ?_
        refine lv_bipush (v := 43) hx hb dX3_readNumbers_142 (by decide) ?_
        refine lv_iload hx hb dX3_readNumbers_144 (lv_at hl 0 rfl) ?_
        refine lv_iadd hx hb dX3_readNumbers_146 ?_
        refine lv_topi (fun z_22 ez_22 => ?_)
        have iz_22 : z_22.toInt = 43 + (g_od 4).toInt := k_addI ez_22 (by decide) rfl (by omega)
        refine lv_aload_n hx hb dX3_readNumbers_147 rfl (lv_at hl 2 rfl) ?_
        refine lv_aload_n hx hb dX3_readNumbers_148 rfl (lv_at hl 3 rfl) ?_
        refine lv_iconst (v := 1) hx hb dX3_readNumbers_149 (by decide) ?_
        refine lv_bipush (v := 9) hx hb dX3_readNumbers_150 (by decide) ?_
        have lt32_22 : (1 : Int32).toInt = 1 := by decide
        have lt32_23 : (9 : Int32).toInt = 9 := by decide
        refine kwVI (wr := [(od, .inr (1, [.ref od_c])), (od_c, .inl (cy 0, 63, .inl fn_15))]) (As := [.ref q, .int 1, .int 9]) (rest := [.int z_22, .ref od_c]) F hE hP hD hS hA hl.1 (cc_X3_readNumber l D cy (o := o) (q := q) (x0 := 1) (x1 := 9) (od := od) (q_by := q_by) (q_len := q_len) (q_ki := q_ki) (q_va := q_va) (q_pl := q_pl) (q_tok := q_tok) (q_at := q_at_10) (q_kind := q_kind_11) (q_value := q_value_12) (q_place := q_place_13) (q_fault := q_fault_14) (g_qby := g_qby) (g_qki := g_qki) (g_qva := g_qva) (g_qpl := g_qpl) (p0 := (by first | omega | assumption)) (p1 := (by first | omega | assumption)) (p2 := (by first | omega | assumption)) (p3 := (by first | omega | assumption)) (p4 := (by first | omega | assumption)) (p5 := (by first | omega | assumption)) (p6 := (by first | omega | assumption)) (p7 := (by first | omega | assumption))) q_m_X3_73 mv_X3_readNumber ⟨(Nat.le_of_ble_eq_true rfl), (Nat.le_of_ble_eq_true rfl)⟩ [2, 3, 4, 5, 6, 7] [0, 1] (by decide) rfl rfl (by decide) (by decide) rfl rfl rfl rfl rfl (Nat.le_of_ble_eq_true rfl) ⟨(Nat.le_of_ble_eq_true rfl), (Nat.le_of_ble_eq_true rfl)⟩ dX3_readNumbers_152 (fun r_26 u_25 H locs eu_25 hP hD hS => ?_)
        obtain ⟨q_at_27, q_kind_28, q_value_29, q_place_30, q_fault_31⟩ := u_25
        have eu_25 : (-1 ≤ q_at_27.toInt) ∧ (q_at_27.toInt ≤ 400) ∧ (q_kind_28.toInt = 1 ∨ q_kind_28.toInt = 3 → 0 ≤ q_value_29.toInt ∧ q_value_29.toInt ≤ 99999) ∧ (0 ≤ q_place_30.toInt) ∧ (q_place_30.toInt ≤ 400) ∧ (q_fault_31.toInt = 0 → q_fault_14.toInt = 0 ∧ (1 : Int32).toInt ≤ r_26.toInt ∧ r_26.toInt ≤ (9 : Int32).toInt) := eu_25
        obtain ⟨eu_25a, eu_25b, eu_25c, eu_25d, eu_25e, eu_25f⟩ := eu_25
        have hP : va_P D vwCl [(od, .inr (1, [.ref od_c])), (od_c, .inl (cy 0, 63, .inl fn_15)), (o, .inr (3, [.ref od])), (q, .inr (10, [.ref q_by, .int q_len, .ref q_ki, .ref q_va, .ref q_pl, .int q_tok, .int q_at_27, .int q_kind_28, .int q_value_29, .int q_place_30, .int q_fault_31])), (q_by, .inl (cy 0, 400, .inl g_qby)), (q_ki, .inl (cy 0, 401, .inl g_qki)), (q_va, .inl (cy 0, 401, .inl g_qva)), (q_pl, .inl (cy 0, 401, .inl g_qpl))] H := hP
        have hD : va_D A [(od, .inr (1, [.ref od_c])), (od_c, .inl (cy 0, 63, .inl fn_15)), (o, .inr (3, [.ref od])), (q, .inr (10, [.ref q_by, .int q_len, .ref q_ki, .ref q_va, .ref q_pl, .int q_tok, .int q_at_27, .int q_kind_28, .int q_value_29, .int q_place_30, .int q_fault_31])), (q_by, .inl (cy 0, 400, .inl g_qby)), (q_ki, .inl (cy 0, 401, .inl g_qki)), (q_va, .inl (cy 0, 401, .inl g_qva)), (q_pl, .inl (cy 0, 401, .inl g_qpl))] := hD
        clear eu_8c
        refine va_iast hx hb hE.1 hP hD hS 1 0 rfl rfl (k_in (by omega)) dX3_readNumbers_155 (fun H locs hP hD hS => ?_)
        have ku_34 : ((upd fn_15 (Int32.toNatClampNeg z_22) r_26) 2).toInt = (fn_15 2).toInt := k_updI (z := z_22) (by omega) (by omega)
        have ku_35 : ((upd fn_15 (Int32.toNatClampNeg z_22) r_26) 3).toInt = (fn_15 3).toInt := k_updI (z := z_22) (by omega) (by omega)
        have ku_36 : ((upd fn_15 (Int32.toNatClampNeg z_22) r_26) 4).toInt = (fn_15 4).toInt := k_updI (z := z_22) (by omega) (by omega)
        have fv_33 : q_fault_31.toInt = 0 → FV (upd fn_15 (Int32.toNatClampNeg z_22) r_26) := fun q0 => FV.put (fv_16 (by omega)) z_22 r_26 (by omega) (by omega) (by omega) (by omega) (by omega)
        clear eu_25f
        have hr_37 : DV (upd fn_15 (Int32.toNatClampNeg z_22) r_26) := DV.put hr_20 z_22 r_26 (by omega) (by omega) (by omega) (by omega)
        generalize upd fn_15 (Int32.toNatClampNeg z_22) r_26 = fn_32 at hP hD fv_33 ku_34 ku_35 ku_36 hr_37
        have hP : va_P D vwCl [(od, .inr (1, [.ref od_c])), (od_c, .inl (cy 0, 63, .inl fn_32)), (o, .inr (3, [.ref od])), (q, .inr (10, [.ref q_by, .int q_len, .ref q_ki, .ref q_va, .ref q_pl, .int q_tok, .int q_at_27, .int q_kind_28, .int q_value_29, .int q_place_30, .int q_fault_31])), (q_by, .inl (cy 0, 400, .inl g_qby)), (q_ki, .inl (cy 0, 401, .inl g_qki)), (q_va, .inl (cy 0, 401, .inl g_qva)), (q_pl, .inl (cy 0, 401, .inl g_qpl))] H := hP
        have hD : va_D A [(od, .inr (1, [.ref od_c])), (od_c, .inl (cy 0, 63, .inl fn_32)), (o, .inr (3, [.ref od])), (q, .inr (10, [.ref q_by, .int q_len, .ref q_ki, .ref q_va, .ref q_pl, .int q_tok, .int q_at_27, .int q_kind_28, .int q_value_29, .int q_place_30, .int q_fault_31])), (q_by, .inl (cy 0, 400, .inl g_qby)), (q_ki, .inl (cy 0, 401, .inl g_qki)), (q_va, .inl (cy 0, 401, .inl g_qva)), (q_pl, .inl (cy 0, 401, .inl g_qpl))] := hD
        obtain ⟨⟨b_38a, b_38b⟩, ⟨b_38c, b_38d⟩, ⟨b_38e, b_38f⟩⟩ := DV.bounds hr_37
        refine lv_aload_n hx hb dX3_readNumbers_156 rfl (lv_at hl 1 rfl) ?_
        refine lv_bipush (v := 48) hx hb dX3_readNumbers_157 (by decide) ?_
        refine lv_iload hx hb dX3_readNumbers_159 (lv_at hl 0 rfl) ?_
        refine lv_iadd hx hb dX3_readNumbers_161 ?_
        refine lv_topi (fun z_39 ez_39 => ?_)
        have iz_39 : z_39.toInt = 48 + (g_od 4).toInt := k_addI ez_39 (by decide) rfl (by omega)
        refine lv_aload_n hx hb dX3_readNumbers_162 rfl (lv_at hl 2 rfl) ?_
        refine lv_aload_n hx hb dX3_readNumbers_163 rfl (lv_at hl 3 rfl) ?_
        refine lv_iconst (v := 1) hx hb dX3_readNumbers_164 (by decide) ?_
        refine lv_bipush (v := 9) hx hb dX3_readNumbers_165 (by decide) ?_
        have lt32_39 : (1 : Int32).toInt = 1 := by decide
        have lt32_40 : (9 : Int32).toInt = 9 := by decide
        refine kwVI (wr := [(od, .inr (1, [.ref od_c])), (od_c, .inl (cy 0, 63, .inl fn_32))]) (As := [.ref q, .int 1, .int 9]) (rest := [.int z_39, .ref od_c]) F hE hP hD hS hA hl.1 (cc_X3_readNumber l D cy (o := o) (q := q) (x0 := 1) (x1 := 9) (od := od) (q_by := q_by) (q_len := q_len) (q_ki := q_ki) (q_va := q_va) (q_pl := q_pl) (q_tok := q_tok) (q_at := q_at_27) (q_kind := q_kind_28) (q_value := q_value_29) (q_place := q_place_30) (q_fault := q_fault_31) (g_qby := g_qby) (g_qki := g_qki) (g_qva := g_qva) (g_qpl := g_qpl) (p0 := (by first | omega | assumption)) (p1 := (by first | omega | assumption)) (p2 := (by first | omega | assumption)) (p3 := (by first | omega | assumption)) (p4 := (by first | omega | assumption)) (p5 := (by first | omega | assumption)) (p6 := (by first | omega | assumption)) (p7 := (by first | omega | assumption))) q_m_X3_73 mv_X3_readNumber ⟨(Nat.le_of_ble_eq_true rfl), (Nat.le_of_ble_eq_true rfl)⟩ [2, 3, 4, 5, 6, 7] [0, 1] (by decide) rfl rfl (by decide) (by decide) rfl rfl rfl rfl rfl (Nat.le_of_ble_eq_true rfl) ⟨(Nat.le_of_ble_eq_true rfl), (Nat.le_of_ble_eq_true rfl)⟩ dX3_readNumbers_167 (fun r_43 u_42 H locs eu_42 hP hD hS => ?_)
        obtain ⟨q_at_44, q_kind_45, q_value_46, q_place_47, q_fault_48⟩ := u_42
        have eu_42 : (-1 ≤ q_at_44.toInt) ∧ (q_at_44.toInt ≤ 400) ∧ (q_kind_45.toInt = 1 ∨ q_kind_45.toInt = 3 → 0 ≤ q_value_46.toInt ∧ q_value_46.toInt ≤ 99999) ∧ (0 ≤ q_place_47.toInt) ∧ (q_place_47.toInt ≤ 400) ∧ (q_fault_48.toInt = 0 → q_fault_31.toInt = 0 ∧ (1 : Int32).toInt ≤ r_43.toInt ∧ r_43.toInt ≤ (9 : Int32).toInt) := eu_42
        obtain ⟨eu_42a, eu_42b, eu_42c, eu_42d, eu_42e, eu_42f⟩ := eu_42
        have hP : va_P D vwCl [(od, .inr (1, [.ref od_c])), (od_c, .inl (cy 0, 63, .inl fn_32)), (o, .inr (3, [.ref od])), (q, .inr (10, [.ref q_by, .int q_len, .ref q_ki, .ref q_va, .ref q_pl, .int q_tok, .int q_at_44, .int q_kind_45, .int q_value_46, .int q_place_47, .int q_fault_48])), (q_by, .inl (cy 0, 400, .inl g_qby)), (q_ki, .inl (cy 0, 401, .inl g_qki)), (q_va, .inl (cy 0, 401, .inl g_qva)), (q_pl, .inl (cy 0, 401, .inl g_qpl))] H := hP
        have hD : va_D A [(od, .inr (1, [.ref od_c])), (od_c, .inl (cy 0, 63, .inl fn_32)), (o, .inr (3, [.ref od])), (q, .inr (10, [.ref q_by, .int q_len, .ref q_ki, .ref q_va, .ref q_pl, .int q_tok, .int q_at_44, .int q_kind_45, .int q_value_46, .int q_place_47, .int q_fault_48])), (q_by, .inl (cy 0, 400, .inl g_qby)), (q_ki, .inl (cy 0, 401, .inl g_qki)), (q_va, .inl (cy 0, 401, .inl g_qva)), (q_pl, .inl (cy 0, 401, .inl g_qpl))] := hD
        clear eu_25c
        refine va_iast hx hb hE.1 hP hD hS 1 0 rfl rfl (k_in (by omega)) dX3_readNumbers_170 (fun H locs hP hD hS => ?_)
        have ku_51 : ((upd fn_32 (Int32.toNatClampNeg z_39) r_43) 2).toInt = (fn_32 2).toInt := k_updI (z := z_39) (by omega) (by omega)
        have ku_52 : ((upd fn_32 (Int32.toNatClampNeg z_39) r_43) 3).toInt = (fn_32 3).toInt := k_updI (z := z_39) (by omega) (by omega)
        have ku_53 : ((upd fn_32 (Int32.toNatClampNeg z_39) r_43) 4).toInt = (fn_32 4).toInt := k_updI (z := z_39) (by omega) (by omega)
        have fv_50 : q_fault_48.toInt = 0 → FV (upd fn_32 (Int32.toNatClampNeg z_39) r_43) := fun q0 => FV.put (fv_33 (by omega)) z_39 r_43 (by omega) (by omega) (by omega) (by omega) (by omega)
        clear eu_42f
        have hr_54 : DV (upd fn_32 (Int32.toNatClampNeg z_39) r_43) := DV.put hr_37 z_39 r_43 (by omega) (by omega) (by omega) (by omega)
        generalize upd fn_32 (Int32.toNatClampNeg z_39) r_43 = fn_49 at hP hD fv_50 ku_51 ku_52 ku_53 hr_54
        have hP : va_P D vwCl [(od, .inr (1, [.ref od_c])), (od_c, .inl (cy 0, 63, .inl fn_49)), (o, .inr (3, [.ref od])), (q, .inr (10, [.ref q_by, .int q_len, .ref q_ki, .ref q_va, .ref q_pl, .int q_tok, .int q_at_44, .int q_kind_45, .int q_value_46, .int q_place_47, .int q_fault_48])), (q_by, .inl (cy 0, 400, .inl g_qby)), (q_ki, .inl (cy 0, 401, .inl g_qki)), (q_va, .inl (cy 0, 401, .inl g_qva)), (q_pl, .inl (cy 0, 401, .inl g_qpl))] H := hP
        have hD : va_D A [(od, .inr (1, [.ref od_c])), (od_c, .inl (cy 0, 63, .inl fn_49)), (o, .inr (3, [.ref od])), (q, .inr (10, [.ref q_by, .int q_len, .ref q_ki, .ref q_va, .ref q_pl, .int q_tok, .int q_at_44, .int q_kind_45, .int q_value_46, .int q_place_47, .int q_fault_48])), (q_by, .inl (cy 0, 400, .inl g_qby)), (q_ki, .inl (cy 0, 401, .inl g_qki)), (q_va, .inl (cy 0, 401, .inl g_qva)), (q_pl, .inl (cy 0, 401, .inl g_qpl))] := hD
        obtain ⟨⟨b_55a, b_55b⟩, ⟨b_55c, b_55d⟩, ⟨b_55e, b_55f⟩⟩ := DV.bounds hr_54
        refine lv_aload_n hx hb dX3_readNumbers_171 rfl (lv_at hl 1 rfl) ?_
        refine lv_bipush (v := 53) hx hb dX3_readNumbers_172 (by decide) ?_
        refine lv_iload hx hb dX3_readNumbers_174 (lv_at hl 0 rfl) ?_
        refine lv_iadd hx hb dX3_readNumbers_176 ?_
        refine lv_topi (fun z_56 ez_56 => ?_)
        have iz_56 : z_56.toInt = 53 + (g_od 4).toInt := k_addI ez_56 (by decide) rfl (by omega)
        refine lv_aload_n hx hb dX3_readNumbers_177 rfl (lv_at hl 2 rfl) ?_
        refine lv_aload_n hx hb dX3_readNumbers_178 rfl (lv_at hl 3 rfl) ?_
        refine lv_iconst (v := 0) hx hb dX3_readNumbers_179 (by decide) ?_
        refine lv_bipush (v := 30) hx hb dX3_readNumbers_180 (by decide) ?_
        have lt32_56 : (0 : Int32).toInt = 0 := by decide
        have lt32_57 : (30 : Int32).toInt = 30 := by decide
        refine kwVI (wr := [(od, .inr (1, [.ref od_c])), (od_c, .inl (cy 0, 63, .inl fn_49))]) (As := [.ref q, .int 0, .int 30]) (rest := [.int z_56, .ref od_c]) F hE hP hD hS hA hl.1 (cc_X3_readNumber l D cy (o := o) (q := q) (x0 := 0) (x1 := 30) (od := od) (q_by := q_by) (q_len := q_len) (q_ki := q_ki) (q_va := q_va) (q_pl := q_pl) (q_tok := q_tok) (q_at := q_at_44) (q_kind := q_kind_45) (q_value := q_value_46) (q_place := q_place_47) (q_fault := q_fault_48) (g_qby := g_qby) (g_qki := g_qki) (g_qva := g_qva) (g_qpl := g_qpl) (p0 := (by first | omega | assumption)) (p1 := (by first | omega | assumption)) (p2 := (by first | omega | assumption)) (p3 := (by first | omega | assumption)) (p4 := (by first | omega | assumption)) (p5 := (by first | omega | assumption)) (p6 := (by first | omega | assumption)) (p7 := (by first | omega | assumption))) q_m_X3_73 mv_X3_readNumber ⟨(Nat.le_of_ble_eq_true rfl), (Nat.le_of_ble_eq_true rfl)⟩ [2, 3, 4, 5, 6, 7] [0, 1] (by decide) rfl rfl (by decide) (by decide) rfl rfl rfl rfl rfl (Nat.le_of_ble_eq_true rfl) ⟨(Nat.le_of_ble_eq_true rfl), (Nat.le_of_ble_eq_true rfl)⟩ dX3_readNumbers_182 (fun r_60 u_59 H locs eu_59 hP hD hS => ?_)
        obtain ⟨q_at_61, q_kind_62, q_value_63, q_place_64, q_fault_65⟩ := u_59
        have eu_59 : (-1 ≤ q_at_61.toInt) ∧ (q_at_61.toInt ≤ 400) ∧ (q_kind_62.toInt = 1 ∨ q_kind_62.toInt = 3 → 0 ≤ q_value_63.toInt ∧ q_value_63.toInt ≤ 99999) ∧ (0 ≤ q_place_64.toInt) ∧ (q_place_64.toInt ≤ 400) ∧ (q_fault_65.toInt = 0 → q_fault_48.toInt = 0 ∧ (0 : Int32).toInt ≤ r_60.toInt ∧ r_60.toInt ≤ (30 : Int32).toInt) := eu_59
        obtain ⟨eu_59a, eu_59b, eu_59c, eu_59d, eu_59e, eu_59f⟩ := eu_59
        have hP : va_P D vwCl [(od, .inr (1, [.ref od_c])), (od_c, .inl (cy 0, 63, .inl fn_49)), (o, .inr (3, [.ref od])), (q, .inr (10, [.ref q_by, .int q_len, .ref q_ki, .ref q_va, .ref q_pl, .int q_tok, .int q_at_61, .int q_kind_62, .int q_value_63, .int q_place_64, .int q_fault_65])), (q_by, .inl (cy 0, 400, .inl g_qby)), (q_ki, .inl (cy 0, 401, .inl g_qki)), (q_va, .inl (cy 0, 401, .inl g_qva)), (q_pl, .inl (cy 0, 401, .inl g_qpl))] H := hP
        have hD : va_D A [(od, .inr (1, [.ref od_c])), (od_c, .inl (cy 0, 63, .inl fn_49)), (o, .inr (3, [.ref od])), (q, .inr (10, [.ref q_by, .int q_len, .ref q_ki, .ref q_va, .ref q_pl, .int q_tok, .int q_at_61, .int q_kind_62, .int q_value_63, .int q_place_64, .int q_fault_65])), (q_by, .inl (cy 0, 400, .inl g_qby)), (q_ki, .inl (cy 0, 401, .inl g_qki)), (q_va, .inl (cy 0, 401, .inl g_qva)), (q_pl, .inl (cy 0, 401, .inl g_qpl))] := hD
        clear eu_42c
        refine va_iast hx hb hE.1 hP hD hS 1 0 rfl rfl (k_in (by omega)) dX3_readNumbers_185 (fun H locs hP hD hS => ?_)
        have ku_68 : ((upd fn_49 (Int32.toNatClampNeg z_56) r_60) 2).toInt = (fn_49 2).toInt := k_updI (z := z_56) (by omega) (by omega)
        have ku_69 : ((upd fn_49 (Int32.toNatClampNeg z_56) r_60) 3).toInt = (fn_49 3).toInt := k_updI (z := z_56) (by omega) (by omega)
        have ku_70 : ((upd fn_49 (Int32.toNatClampNeg z_56) r_60) 4).toInt = (fn_49 4).toInt := k_updI (z := z_56) (by omega) (by omega)
        have fv_67 : q_fault_65.toInt = 0 → FV (upd fn_49 (Int32.toNatClampNeg z_56) r_60) := fun q0 => FV.put (fv_50 (by omega)) z_56 r_60 (by omega) (by omega) (by omega) (by omega) (by omega)
        clear eu_59f
        have hr_71 : DV (upd fn_49 (Int32.toNatClampNeg z_56) r_60) := DV.put hr_54 z_56 r_60 (by omega) (by omega) (by omega) (by omega)
        generalize upd fn_49 (Int32.toNatClampNeg z_56) r_60 = fn_66 at hP hD fv_67 ku_68 ku_69 ku_70 hr_71
        have hP : va_P D vwCl [(od, .inr (1, [.ref od_c])), (od_c, .inl (cy 0, 63, .inl fn_66)), (o, .inr (3, [.ref od])), (q, .inr (10, [.ref q_by, .int q_len, .ref q_ki, .ref q_va, .ref q_pl, .int q_tok, .int q_at_61, .int q_kind_62, .int q_value_63, .int q_place_64, .int q_fault_65])), (q_by, .inl (cy 0, 400, .inl g_qby)), (q_ki, .inl (cy 0, 401, .inl g_qki)), (q_va, .inl (cy 0, 401, .inl g_qva)), (q_pl, .inl (cy 0, 401, .inl g_qpl))] H := hP
        have hD : va_D A [(od, .inr (1, [.ref od_c])), (od_c, .inl (cy 0, 63, .inl fn_66)), (o, .inr (3, [.ref od])), (q, .inr (10, [.ref q_by, .int q_len, .ref q_ki, .ref q_va, .ref q_pl, .int q_tok, .int q_at_61, .int q_kind_62, .int q_value_63, .int q_place_64, .int q_fault_65])), (q_by, .inl (cy 0, 400, .inl g_qby)), (q_ki, .inl (cy 0, 401, .inl g_qki)), (q_va, .inl (cy 0, 401, .inl g_qva)), (q_pl, .inl (cy 0, 401, .inl g_qpl))] := hD
        obtain ⟨⟨b_72a, b_72b⟩, ⟨b_72c, b_72d⟩, ⟨b_72e, b_72f⟩⟩ := DV.bounds hr_71
        refine lv_aload_n hx hb dX3_readNumbers_186 rfl (lv_at hl 1 rfl) ?_
        refine lv_iconst (v := 4) hx hb dX3_readNumbers_187 (by decide) ?_
        refine lv_dup2_11 hx hb dX3_readNumbers_188 rfl rfl ?_
        refine va_iald hx hb hE.1 hP 1 0 rfl rfl (by unfold vp_in; decide) dX3_readNumbers_189 ?_
        refine k_top (z := (fn_66 4)) rfl ?_
        refine lv_iconst (v := 1) hx hb dX3_readNumbers_190 (by decide) ?_
        refine lv_iadd hx hb dX3_readNumbers_191 ?_
        refine lv_topi (fun z_73 ez_73 => ?_)
        have iz_73 : z_73.toInt = (fn_66 4).toInt + 1 := k_addI ez_73 rfl (by decide) (by omega)
        refine va_iast hx hb hE.1 hP hD hS 1 0 rfl rfl (by unfold vp_in; decide) dX3_readNumbers_192 (fun H locs hP hD hS => ?_)
        have ku_76 : ((upd fn_66 (Int32.toNatClampNeg 4) z_73) 2).toInt = (fn_66 2).toInt := k_updI (z := (4 : Int32)) (by have lq1 : (4 : Int32).toInt = 4 := (by decide); omega) (by have lq1 : (4 : Int32).toInt = 4 := (by decide); omega)
        have ku_77 : ((upd fn_66 (Int32.toNatClampNeg 4) z_73) 3).toInt = (fn_66 3).toInt := k_updI (z := (4 : Int32)) (by have lq1 : (4 : Int32).toInt = 4 := (by decide); omega) (by have lq1 : (4 : Int32).toInt = 4 := (by decide); omega)
        have fv_75 : q_fault_65.toInt = 0 → FV (upd fn_66 (Int32.toNatClampNeg 4) z_73) := fun q0 => FV.put (fv_67 (by omega)) (4 : Int32) z_73 (by have lq1 : (4 : Int32).toInt = 4 := (by decide); omega) (by have lq1 : (4 : Int32).toInt = 4 := (by decide); omega) (by have lq1 : (4 : Int32).toInt = 4 := (by decide); omega) (by have lq1 : (4 : Int32).toInt = 4 := (by decide); omega) (by have lq1 : (4 : Int32).toInt = 4 := (by decide); omega)
        have hr_78 : DV (upd fn_66 (Int32.toNatClampNeg 4) z_73) := DV.put hr_71 (4 : Int32) z_73 (by have lq1 : (4 : Int32).toInt = 4 := (by decide); omega) (by have lq1 : (4 : Int32).toInt = 4 := (by decide); omega) (by have lq1 : (4 : Int32).toInt = 4 := (by decide); omega) (by have lq1 : (4 : Int32).toInt = 4 := (by decide); omega)
        generalize upd fn_66 (Int32.toNatClampNeg 4) z_73 = fn_74 at hP hD fv_75 ku_76 ku_77 hr_78
        have hP : va_P D vwCl [(od, .inr (1, [.ref od_c])), (od_c, .inl (cy 0, 63, .inl fn_74)), (o, .inr (3, [.ref od])), (q, .inr (10, [.ref q_by, .int q_len, .ref q_ki, .ref q_va, .ref q_pl, .int q_tok, .int q_at_61, .int q_kind_62, .int q_value_63, .int q_place_64, .int q_fault_65])), (q_by, .inl (cy 0, 400, .inl g_qby)), (q_ki, .inl (cy 0, 401, .inl g_qki)), (q_va, .inl (cy 0, 401, .inl g_qva)), (q_pl, .inl (cy 0, 401, .inl g_qpl))] H := hP
        have hD : va_D A [(od, .inr (1, [.ref od_c])), (od_c, .inl (cy 0, 63, .inl fn_74)), (o, .inr (3, [.ref od])), (q, .inr (10, [.ref q_by, .int q_len, .ref q_ki, .ref q_va, .ref q_pl, .int q_tok, .int q_at_61, .int q_kind_62, .int q_value_63, .int q_place_64, .int q_fault_65])), (q_by, .inl (cy 0, 400, .inl g_qby)), (q_ki, .inl (cy 0, 401, .inl g_qki)), (q_va, .inl (cy 0, 401, .inl g_qva)), (q_pl, .inl (cy 0, 401, .inl g_qpl))] := hD
        obtain ⟨⟨b_79a, b_79b⟩, ⟨b_79c, b_79d⟩, ⟨b_79e, b_79f⟩⟩ := DV.bounds hr_78
        exact KV.rt ⟨fn_74, q_at_61, q_kind_62, q_value_63, q_place_64, q_fault_65⟩ F (hP.sub [2, 0, 1, 3, 4, 5, 6, 7] rfl) (hD.sub [2, 0, 1, 3, 4, 5, 6, 7] (by decide) rfl) hS (show DV fn_74 ∧ (-1 ≤ q_at_61.toInt) ∧ (q_at_61.toInt ≤ 400) ∧ (q_kind_62.toInt = 1 ∨ q_kind_62.toInt = 3 → 0 ≤ q_value_63.toInt ∧ q_value_63.toInt ≤ 99999) ∧ (0 ≤ q_place_64.toInt) ∧ (q_place_64.toInt ≤ 400) ∧ (q_fault_65.toInt = 0 → FV fn_74) from ⟨hr_78, (by first | omega | assumption), (by first | omega | assumption), (by first | omega | assumption), (by first | omega | assumption), (by first | omega | assumption), (by first | exact fv_75 | (intro q0; exfalso; omega) | (intro q0; exact fv_75 (by omega)))⟩) (Nat.le_of_ble_eq_true rfl) (Nat.le_of_ble_eq_true rfl) dX3_readNumbers_193
      · have ic_4 : x0.toInt = 1 := k_eq c_4 rfl (by decide)
        have hw := p11 (by omega)
        clear p9 p10 p11 p12
        refine lv_aload_n hx hb dX3_readNumbers_76 rfl (lv_at hl 0 rfl) ?_
        refine lv_iconst (v := 3) hx hb dX3_readNumbers_77 (by decide) ?_
        refine va_iald hx hb hE.1 hP 2 0 rfl rfl (by unfold vp_in; decide) dX3_readNumbers_78 ?_
        refine k_top (z := (g_od 3)) rfl ?_
        refine lv_istore (lv' := [(4, .int (g_od 3)), (3, .ref od_c), (0, .ref o), (1, .ref q), (2, .int x0)]) hx hb dX3_readNumbers_79 hl (by decide) rfl (fun ls hl => ?_)
        refine lv_aload_n hx hb dX3_readNumbers_81 rfl (lv_at hl 1 rfl) ?_
        refine lv_bipush (v := 20) hx hb dX3_readNumbers_82 (by decide) ?_
        refine lv_iload hx hb dX3_readNumbers_84 (lv_at hl 0 rfl) ?_
        refine lv_iadd hx hb dX3_readNumbers_86 ?_
        refine lv_topi (fun z_80 ez_80 => ?_)
        have iz_80 : z_80.toInt = 20 + (g_od 3).toInt := k_addI ez_80 (by decide) rfl (by omega)
        refine lv_aload_n hx hb dX3_readNumbers_87 rfl (lv_at hl 2 rfl) ?_
        refine lv_aload_n hx hb dX3_readNumbers_88 rfl (lv_at hl 3 rfl) ?_
        refine kwVI (wr := []) (As := [.ref q]) (rest := [.int z_80, .ref od_c]) F hE hP hD hS hA hl.1 (cc_X3_readFreePlace l D cy (o := o) (q := q) (od := od) (od_c := od_c) (g_od := g_od) (q_by := q_by) (q_len := q_len) (q_ki := q_ki) (q_va := q_va) (q_pl := q_pl) (q_tok := q_tok) (q_at := q_at) (q_kind := q_kind) (q_value := q_value) (q_place := q_place) (q_fault := q_fault) (g_qby := g_qby) (g_qki := g_qki) (g_qva := g_qva) (g_qpl := g_qpl) (h_g_od := h_g_od) (p0 := (by first | omega | assumption)) (p1 := (by first | omega | assumption)) (p2 := (by first | omega | assumption)) (p3 := (by first | omega | assumption)) (p4 := (by first | omega | assumption)) (p5 := (by first | omega | assumption)) (p6 := (by first | omega | assumption)) (p7 := (by first | omega | assumption))) q_m_X3_77 mv_X3_readFreePlace ⟨(Nat.le_of_ble_eq_true rfl), (Nat.le_of_ble_eq_true rfl)⟩ [0, 1, 2, 3, 4, 5, 6, 7] [] (by decide) rfl rfl (by decide) (by decide) rfl rfl rfl rfl rfl (Nat.le_of_ble_eq_true rfl) ⟨(Nat.le_of_ble_eq_true rfl), (Nat.le_of_ble_eq_true rfl)⟩ dX3_readNumbers_89 (fun r_82 u_81 H locs eu_81 hP hD hS => ?_)
        obtain ⟨q_at_83, q_kind_84, q_value_85, q_place_86, q_fault_87⟩ := u_81
        have eu_81 : (-1 ≤ q_at_83.toInt) ∧ (q_at_83.toInt ≤ 400) ∧ (q_kind_84.toInt = 1 ∨ q_kind_84.toInt = 3 → 0 ≤ q_value_85.toInt ∧ q_value_85.toInt ≤ 99999) ∧ (0 ≤ q_place_86.toInt) ∧ (q_place_86.toInt ≤ 400) ∧ (q_fault_87.toInt = 0 → q_fault.toInt = 0) := eu_81
        obtain ⟨eu_81a, eu_81b, eu_81c, eu_81d, eu_81e, eu_81f⟩ := eu_81
        have hP : va_P D vwCl [(o, .inr (3, [.ref od])), (od, .inr (1, [.ref od_c])), (od_c, .inl (cy 0, 63, .inl g_od)), (q, .inr (10, [.ref q_by, .int q_len, .ref q_ki, .ref q_va, .ref q_pl, .int q_tok, .int q_at_83, .int q_kind_84, .int q_value_85, .int q_place_86, .int q_fault_87])), (q_by, .inl (cy 0, 400, .inl g_qby)), (q_ki, .inl (cy 0, 401, .inl g_qki)), (q_va, .inl (cy 0, 401, .inl g_qva)), (q_pl, .inl (cy 0, 401, .inl g_qpl))] H := hP
        have hD : va_D A [(o, .inr (3, [.ref od])), (od, .inr (1, [.ref od_c])), (od_c, .inl (cy 0, 63, .inl g_od)), (q, .inr (10, [.ref q_by, .int q_len, .ref q_ki, .ref q_va, .ref q_pl, .int q_tok, .int q_at_83, .int q_kind_84, .int q_value_85, .int q_place_86, .int q_fault_87])), (q_by, .inl (cy 0, 400, .inl g_qby)), (q_ki, .inl (cy 0, 401, .inl g_qki)), (q_va, .inl (cy 0, 401, .inl g_qva)), (q_pl, .inl (cy 0, 401, .inl g_qpl))] := hD
        clear p5
        refine va_iast hx hb hE.1 hP hD hS 2 0 rfl rfl (k_in (by omega)) dX3_readNumbers_92 (fun H locs hP hD hS => ?_)
        have ku_90 : ((upd g_od (Int32.toNatClampNeg z_80) r_82) 2).toInt = (g_od 2).toInt := k_updI (z := z_80) (by omega) (by omega)
        have ku_91 : ((upd g_od (Int32.toNatClampNeg z_80) r_82) 3).toInt = (g_od 3).toInt := k_updI (z := z_80) (by omega) (by omega)
        have ku_92 : ((upd g_od (Int32.toNatClampNeg z_80) r_82) 4).toInt = (g_od 4).toInt := k_updI (z := z_80) (by omega) (by omega)
        have fv_89 : q_fault_87.toInt = 0 → FV (upd g_od (Int32.toNatClampNeg z_80) r_82) := fun q0 => FV.put (p8 (by omega)) z_80 r_82 (by omega) (by omega) (by omega) (by omega) (by omega)
        clear eu_81f
        have hr_93 : DV (upd g_od (Int32.toNatClampNeg z_80) r_82) := DV.put h_g_od z_80 r_82 (by omega) (by omega) (by omega) (by omega)
        generalize upd g_od (Int32.toNatClampNeg z_80) r_82 = fn_88 at hP hD fv_89 ku_90 ku_91 ku_92 hr_93
        have hP : va_P D vwCl [(o, .inr (3, [.ref od])), (od, .inr (1, [.ref od_c])), (od_c, .inl (cy 0, 63, .inl fn_88)), (q, .inr (10, [.ref q_by, .int q_len, .ref q_ki, .ref q_va, .ref q_pl, .int q_tok, .int q_at_83, .int q_kind_84, .int q_value_85, .int q_place_86, .int q_fault_87])), (q_by, .inl (cy 0, 400, .inl g_qby)), (q_ki, .inl (cy 0, 401, .inl g_qki)), (q_va, .inl (cy 0, 401, .inl g_qva)), (q_pl, .inl (cy 0, 401, .inl g_qpl))] H := hP
        have hD : va_D A [(o, .inr (3, [.ref od])), (od, .inr (1, [.ref od_c])), (od_c, .inl (cy 0, 63, .inl fn_88)), (q, .inr (10, [.ref q_by, .int q_len, .ref q_ki, .ref q_va, .ref q_pl, .int q_tok, .int q_at_83, .int q_kind_84, .int q_value_85, .int q_place_86, .int q_fault_87])), (q_by, .inl (cy 0, 400, .inl g_qby)), (q_ki, .inl (cy 0, 401, .inl g_qki)), (q_va, .inl (cy 0, 401, .inl g_qva)), (q_pl, .inl (cy 0, 401, .inl g_qpl))] := hD
        obtain ⟨⟨b_94a, b_94b⟩, ⟨b_94c, b_94d⟩, ⟨b_94e, b_94f⟩⟩ := DV.bounds hr_93
        refine lv_aload_n hx hb dX3_readNumbers_93 rfl (lv_at hl 1 rfl) ?_
        refine lv_bipush (v := 26) hx hb dX3_readNumbers_94 (by decide) ?_
        refine lv_iload hx hb dX3_readNumbers_96 (lv_at hl 0 rfl) ?_
        refine lv_iadd hx hb dX3_readNumbers_98 ?_
        refine lv_topi (fun z_95 ez_95 => ?_)
        have iz_95 : z_95.toInt = 26 + (g_od 3).toInt := k_addI ez_95 (by decide) rfl (by omega)
        refine lv_aload_n hx hb dX3_readNumbers_99 rfl (lv_at hl 2 rfl) ?_
        refine lv_aload_n hx hb dX3_readNumbers_100 rfl (lv_at hl 3 rfl) ?_
        refine lv_iconst (v := 1) hx hb dX3_readNumbers_101 (by decide) ?_
        refine lv_bipush (v := 9) hx hb dX3_readNumbers_102 (by decide) ?_
        have lt32_95 : (1 : Int32).toInt = 1 := by decide
        have lt32_96 : (9 : Int32).toInt = 9 := by decide
        refine kwVI (wr := [(od, .inr (1, [.ref od_c])), (od_c, .inl (cy 0, 63, .inl fn_88))]) (As := [.ref q, .int 1, .int 9]) (rest := [.int z_95, .ref od_c]) F hE hP hD hS hA hl.1 (cc_X3_readNumber l D cy (o := o) (q := q) (x0 := 1) (x1 := 9) (od := od) (q_by := q_by) (q_len := q_len) (q_ki := q_ki) (q_va := q_va) (q_pl := q_pl) (q_tok := q_tok) (q_at := q_at_83) (q_kind := q_kind_84) (q_value := q_value_85) (q_place := q_place_86) (q_fault := q_fault_87) (g_qby := g_qby) (g_qki := g_qki) (g_qva := g_qva) (g_qpl := g_qpl) (p0 := (by first | omega | assumption)) (p1 := (by first | omega | assumption)) (p2 := (by first | omega | assumption)) (p3 := (by first | omega | assumption)) (p4 := (by first | omega | assumption)) (p5 := (by first | omega | assumption)) (p6 := (by first | omega | assumption)) (p7 := (by first | omega | assumption))) q_m_X3_73 mv_X3_readNumber ⟨(Nat.le_of_ble_eq_true rfl), (Nat.le_of_ble_eq_true rfl)⟩ [0, 3, 4, 5, 6, 7] [1, 2] (by decide) rfl rfl (by decide) (by decide) rfl rfl rfl rfl rfl (Nat.le_of_ble_eq_true rfl) ⟨(Nat.le_of_ble_eq_true rfl), (Nat.le_of_ble_eq_true rfl)⟩ dX3_readNumbers_104 (fun r_99 u_98 H locs eu_98 hP hD hS => ?_)
        obtain ⟨q_at_100, q_kind_101, q_value_102, q_place_103, q_fault_104⟩ := u_98
        have eu_98 : (-1 ≤ q_at_100.toInt) ∧ (q_at_100.toInt ≤ 400) ∧ (q_kind_101.toInt = 1 ∨ q_kind_101.toInt = 3 → 0 ≤ q_value_102.toInt ∧ q_value_102.toInt ≤ 99999) ∧ (0 ≤ q_place_103.toInt) ∧ (q_place_103.toInt ≤ 400) ∧ (q_fault_104.toInt = 0 → q_fault_87.toInt = 0 ∧ (1 : Int32).toInt ≤ r_99.toInt ∧ r_99.toInt ≤ (9 : Int32).toInt) := eu_98
        obtain ⟨eu_98a, eu_98b, eu_98c, eu_98d, eu_98e, eu_98f⟩ := eu_98
        have hP : va_P D vwCl [(od, .inr (1, [.ref od_c])), (od_c, .inl (cy 0, 63, .inl fn_88)), (o, .inr (3, [.ref od])), (q, .inr (10, [.ref q_by, .int q_len, .ref q_ki, .ref q_va, .ref q_pl, .int q_tok, .int q_at_100, .int q_kind_101, .int q_value_102, .int q_place_103, .int q_fault_104])), (q_by, .inl (cy 0, 400, .inl g_qby)), (q_ki, .inl (cy 0, 401, .inl g_qki)), (q_va, .inl (cy 0, 401, .inl g_qva)), (q_pl, .inl (cy 0, 401, .inl g_qpl))] H := hP
        have hD : va_D A [(od, .inr (1, [.ref od_c])), (od_c, .inl (cy 0, 63, .inl fn_88)), (o, .inr (3, [.ref od])), (q, .inr (10, [.ref q_by, .int q_len, .ref q_ki, .ref q_va, .ref q_pl, .int q_tok, .int q_at_100, .int q_kind_101, .int q_value_102, .int q_place_103, .int q_fault_104])), (q_by, .inl (cy 0, 400, .inl g_qby)), (q_ki, .inl (cy 0, 401, .inl g_qki)), (q_va, .inl (cy 0, 401, .inl g_qva)), (q_pl, .inl (cy 0, 401, .inl g_qpl))] := hD
        clear eu_81c
        refine va_iast hx hb hE.1 hP hD hS 1 0 rfl rfl (k_in (by omega)) dX3_readNumbers_107 (fun H locs hP hD hS => ?_)
        have ku_107 : ((upd fn_88 (Int32.toNatClampNeg z_95) r_99) 2).toInt = (fn_88 2).toInt := k_updI (z := z_95) (by omega) (by omega)
        have ku_108 : ((upd fn_88 (Int32.toNatClampNeg z_95) r_99) 3).toInt = (fn_88 3).toInt := k_updI (z := z_95) (by omega) (by omega)
        have ku_109 : ((upd fn_88 (Int32.toNatClampNeg z_95) r_99) 4).toInt = (fn_88 4).toInt := k_updI (z := z_95) (by omega) (by omega)
        have fv_106 : q_fault_104.toInt = 0 → FV (upd fn_88 (Int32.toNatClampNeg z_95) r_99) := fun q0 => FV.put (fv_89 (by omega)) z_95 r_99 (by omega) (by omega) (by omega) (by omega) (by omega)
        clear eu_98f
        have hr_110 : DV (upd fn_88 (Int32.toNatClampNeg z_95) r_99) := DV.put hr_93 z_95 r_99 (by omega) (by omega) (by omega) (by omega)
        generalize upd fn_88 (Int32.toNatClampNeg z_95) r_99 = fn_105 at hP hD fv_106 ku_107 ku_108 ku_109 hr_110
        have hP : va_P D vwCl [(od, .inr (1, [.ref od_c])), (od_c, .inl (cy 0, 63, .inl fn_105)), (o, .inr (3, [.ref od])), (q, .inr (10, [.ref q_by, .int q_len, .ref q_ki, .ref q_va, .ref q_pl, .int q_tok, .int q_at_100, .int q_kind_101, .int q_value_102, .int q_place_103, .int q_fault_104])), (q_by, .inl (cy 0, 400, .inl g_qby)), (q_ki, .inl (cy 0, 401, .inl g_qki)), (q_va, .inl (cy 0, 401, .inl g_qva)), (q_pl, .inl (cy 0, 401, .inl g_qpl))] H := hP
        have hD : va_D A [(od, .inr (1, [.ref od_c])), (od_c, .inl (cy 0, 63, .inl fn_105)), (o, .inr (3, [.ref od])), (q, .inr (10, [.ref q_by, .int q_len, .ref q_ki, .ref q_va, .ref q_pl, .int q_tok, .int q_at_100, .int q_kind_101, .int q_value_102, .int q_place_103, .int q_fault_104])), (q_by, .inl (cy 0, 400, .inl g_qby)), (q_ki, .inl (cy 0, 401, .inl g_qki)), (q_va, .inl (cy 0, 401, .inl g_qva)), (q_pl, .inl (cy 0, 401, .inl g_qpl))] := hD
        obtain ⟨⟨b_111a, b_111b⟩, ⟨b_111c, b_111d⟩, ⟨b_111e, b_111f⟩⟩ := DV.bounds hr_110
        refine lv_aload_n hx hb dX3_readNumbers_108 rfl (lv_at hl 1 rfl) ?_
        refine lv_iconst (v := 3) hx hb dX3_readNumbers_109 (by decide) ?_
        refine lv_dup2_11 hx hb dX3_readNumbers_110 rfl rfl ?_
        refine va_iald hx hb hE.1 hP 1 0 rfl rfl (by unfold vp_in; decide) dX3_readNumbers_111 ?_
        refine k_top (z := (fn_105 3)) rfl ?_
        refine lv_iconst (v := 1) hx hb dX3_readNumbers_112 (by decide) ?_
        refine lv_iadd hx hb dX3_readNumbers_113 ?_
        refine lv_topi (fun z_112 ez_112 => ?_)
        have iz_112 : z_112.toInt = (fn_105 3).toInt + 1 := k_addI ez_112 rfl (by decide) (by omega)
        refine va_iast hx hb hE.1 hP hD hS 1 0 rfl rfl (by unfold vp_in; decide) dX3_readNumbers_114 (fun H locs hP hD hS => ?_)
        have ku_115 : ((upd fn_105 (Int32.toNatClampNeg 3) z_112) 2).toInt = (fn_105 2).toInt := k_updI (z := (3 : Int32)) (by have lq1 : (3 : Int32).toInt = 3 := (by decide); omega) (by have lq1 : (3 : Int32).toInt = 3 := (by decide); omega)
        have ku_116 : ((upd fn_105 (Int32.toNatClampNeg 3) z_112) 4).toInt = (fn_105 4).toInt := k_updI (z := (3 : Int32)) (by have lq1 : (3 : Int32).toInt = 3 := (by decide); omega) (by have lq1 : (3 : Int32).toInt = 3 := (by decide); omega)
        have fv_114 : q_fault_104.toInt = 0 → FV (upd fn_105 (Int32.toNatClampNeg 3) z_112) := fun q0 => FV.put (fv_106 (by omega)) (3 : Int32) z_112 (by have lq1 : (3 : Int32).toInt = 3 := (by decide); omega) (by have lq1 : (3 : Int32).toInt = 3 := (by decide); omega) (by have lq1 : (3 : Int32).toInt = 3 := (by decide); omega) (by have lq1 : (3 : Int32).toInt = 3 := (by decide); omega) (by have lq1 : (3 : Int32).toInt = 3 := (by decide); omega)
        have hr_117 : DV (upd fn_105 (Int32.toNatClampNeg 3) z_112) := DV.put hr_110 (3 : Int32) z_112 (by have lq1 : (3 : Int32).toInt = 3 := (by decide); omega) (by have lq1 : (3 : Int32).toInt = 3 := (by decide); omega) (by have lq1 : (3 : Int32).toInt = 3 := (by decide); omega) (by have lq1 : (3 : Int32).toInt = 3 := (by decide); omega)
        generalize upd fn_105 (Int32.toNatClampNeg 3) z_112 = fn_113 at hP hD fv_114 ku_115 ku_116 hr_117
        have hP : va_P D vwCl [(od, .inr (1, [.ref od_c])), (od_c, .inl (cy 0, 63, .inl fn_113)), (o, .inr (3, [.ref od])), (q, .inr (10, [.ref q_by, .int q_len, .ref q_ki, .ref q_va, .ref q_pl, .int q_tok, .int q_at_100, .int q_kind_101, .int q_value_102, .int q_place_103, .int q_fault_104])), (q_by, .inl (cy 0, 400, .inl g_qby)), (q_ki, .inl (cy 0, 401, .inl g_qki)), (q_va, .inl (cy 0, 401, .inl g_qva)), (q_pl, .inl (cy 0, 401, .inl g_qpl))] H := hP
        have hD : va_D A [(od, .inr (1, [.ref od_c])), (od_c, .inl (cy 0, 63, .inl fn_113)), (o, .inr (3, [.ref od])), (q, .inr (10, [.ref q_by, .int q_len, .ref q_ki, .ref q_va, .ref q_pl, .int q_tok, .int q_at_100, .int q_kind_101, .int q_value_102, .int q_place_103, .int q_fault_104])), (q_by, .inl (cy 0, 400, .inl g_qby)), (q_ki, .inl (cy 0, 401, .inl g_qki)), (q_va, .inl (cy 0, 401, .inl g_qva)), (q_pl, .inl (cy 0, 401, .inl g_qpl))] := hD
        obtain ⟨⟨b_118a, b_118b⟩, ⟨b_118c, b_118d⟩, ⟨b_118e, b_118f⟩⟩ := DV.bounds hr_117
        refine lv_goto (tgt := 193) hx hb dX3_readNumbers_115 (by decide) ?_
        exact KV.rt ⟨fn_113, q_at_100, q_kind_101, q_value_102, q_place_103, q_fault_104⟩ F (hP.sub [2, 0, 1, 3, 4, 5, 6, 7] rfl) (hD.sub [2, 0, 1, 3, 4, 5, 6, 7] (by decide) rfl) hS (show DV fn_113 ∧ (-1 ≤ q_at_100.toInt) ∧ (q_at_100.toInt ≤ 400) ∧ (q_kind_101.toInt = 1 ∨ q_kind_101.toInt = 3 → 0 ≤ q_value_102.toInt ∧ q_value_102.toInt ≤ 99999) ∧ (0 ≤ q_place_103.toInt) ∧ (q_place_103.toInt ≤ 400) ∧ (q_fault_104.toInt = 0 → FV fn_113) from ⟨hr_117, (by first | omega | assumption), (by first | omega | assumption), (by first | omega | assumption), (by first | omega | assumption), (by first | omega | assumption), (by first | exact fv_114 | (intro q0; exfalso; omega) | (intro q0; exact fv_114 (by omega)))⟩) (Nat.le_of_ble_eq_true rfl) (Nat.le_of_ble_eq_true rfl) dX3_readNumbers_193
    · have ic_3 : x0.toInt = 10 := k_eq c_3 rfl (by decide)
      have hw := p10 (by omega)
      clear p9 p10 p11 p12
      refine lv_aload_n hx hb dX3_readNumbers_45 rfl (lv_at hl 0 rfl) ?_
      refine lv_bipush (v := 8) hx hb dX3_readNumbers_46 (by decide) ?_
      refine lv_aload_n hx hb dX3_readNumbers_48 rfl (lv_at hl 0 rfl) ?_
      refine lv_iconst (v := 2) hx hb dX3_readNumbers_49 (by decide) ?_
      refine va_iald hx hb hE.1 hP 2 0 rfl rfl (by unfold vp_in; decide) dX3_readNumbers_50 ?_
      refine k_top (z := (g_od 2)) rfl ?_
      refine lv_iadd hx hb dX3_readNumbers_51 ?_
      refine lv_topi (fun z_119 ez_119 => ?_)
      have iz_119 : z_119.toInt = 8 + (g_od 2).toInt := k_addI ez_119 (by decide) rfl (by omega)
      refine lv_aload_n hx hb dX3_readNumbers_52 rfl (lv_at hl 1 rfl) ?_
      refine lv_aload_n hx hb dX3_readNumbers_53 rfl (lv_at hl 2 rfl) ?_
      refine lv_iconst (v := 0) hx hb dX3_readNumbers_54 (by decide) ?_
      refine lv_bipush (v := 8) hx hb dX3_readNumbers_55 (by decide) ?_
      have lt32_119 : (0 : Int32).toInt = 0 := by decide
      have lt32_120 : (8 : Int32).toInt = 8 := by decide
      refine kwVI (wr := [(od, .inr (1, [.ref od_c])), (od_c, .inl (cy 0, 63, .inl g_od))]) (As := [.ref q, .int 0, .int 8]) (rest := [.int z_119, .ref od_c]) F hE hP hD hS hA hl.1 (cc_X3_readNumber l D cy (o := o) (q := q) (x0 := 0) (x1 := 8) (od := od) (q_by := q_by) (q_len := q_len) (q_ki := q_ki) (q_va := q_va) (q_pl := q_pl) (q_tok := q_tok) (q_at := q_at) (q_kind := q_kind) (q_value := q_value) (q_place := q_place) (q_fault := q_fault) (g_qby := g_qby) (g_qki := g_qki) (g_qva := g_qva) (g_qpl := g_qpl) (p0 := (by first | omega | assumption)) (p1 := (by first | omega | assumption)) (p2 := (by first | omega | assumption)) (p3 := (by first | omega | assumption)) (p4 := (by first | omega | assumption)) (p5 := (by first | omega | assumption)) (p6 := (by first | omega | assumption)) (p7 := (by first | omega | assumption))) q_m_X3_73 mv_X3_readNumber ⟨(Nat.le_of_ble_eq_true rfl), (Nat.le_of_ble_eq_true rfl)⟩ [0, 3, 4, 5, 6, 7] [1, 2] (by decide) rfl rfl (by decide) (by decide) rfl rfl rfl rfl rfl (Nat.le_of_ble_eq_true rfl) ⟨(Nat.le_of_ble_eq_true rfl), (Nat.le_of_ble_eq_true rfl)⟩ dX3_readNumbers_57 (fun r_123 u_122 H locs eu_122 hP hD hS => ?_)
      obtain ⟨q_at_124, q_kind_125, q_value_126, q_place_127, q_fault_128⟩ := u_122
      have eu_122 : (-1 ≤ q_at_124.toInt) ∧ (q_at_124.toInt ≤ 400) ∧ (q_kind_125.toInt = 1 ∨ q_kind_125.toInt = 3 → 0 ≤ q_value_126.toInt ∧ q_value_126.toInt ≤ 99999) ∧ (0 ≤ q_place_127.toInt) ∧ (q_place_127.toInt ≤ 400) ∧ (q_fault_128.toInt = 0 → q_fault.toInt = 0 ∧ (0 : Int32).toInt ≤ r_123.toInt ∧ r_123.toInt ≤ (8 : Int32).toInt) := eu_122
      obtain ⟨eu_122a, eu_122b, eu_122c, eu_122d, eu_122e, eu_122f⟩ := eu_122
      have hP : va_P D vwCl [(od, .inr (1, [.ref od_c])), (od_c, .inl (cy 0, 63, .inl g_od)), (o, .inr (3, [.ref od])), (q, .inr (10, [.ref q_by, .int q_len, .ref q_ki, .ref q_va, .ref q_pl, .int q_tok, .int q_at_124, .int q_kind_125, .int q_value_126, .int q_place_127, .int q_fault_128])), (q_by, .inl (cy 0, 400, .inl g_qby)), (q_ki, .inl (cy 0, 401, .inl g_qki)), (q_va, .inl (cy 0, 401, .inl g_qva)), (q_pl, .inl (cy 0, 401, .inl g_qpl))] H := hP
      have hD : va_D A [(od, .inr (1, [.ref od_c])), (od_c, .inl (cy 0, 63, .inl g_od)), (o, .inr (3, [.ref od])), (q, .inr (10, [.ref q_by, .int q_len, .ref q_ki, .ref q_va, .ref q_pl, .int q_tok, .int q_at_124, .int q_kind_125, .int q_value_126, .int q_place_127, .int q_fault_128])), (q_by, .inl (cy 0, 400, .inl g_qby)), (q_ki, .inl (cy 0, 401, .inl g_qki)), (q_va, .inl (cy 0, 401, .inl g_qva)), (q_pl, .inl (cy 0, 401, .inl g_qpl))] := hD
      clear p5
      refine va_iast hx hb hE.1 hP hD hS 1 0 rfl rfl (k_in (by omega)) dX3_readNumbers_60 (fun H locs hP hD hS => ?_)
      have ku_131 : ((upd g_od (Int32.toNatClampNeg z_119) r_123) 2).toInt = (g_od 2).toInt := k_updI (z := z_119) (by omega) (by omega)
      have ku_132 : ((upd g_od (Int32.toNatClampNeg z_119) r_123) 3).toInt = (g_od 3).toInt := k_updI (z := z_119) (by omega) (by omega)
      have ku_133 : ((upd g_od (Int32.toNatClampNeg z_119) r_123) 4).toInt = (g_od 4).toInt := k_updI (z := z_119) (by omega) (by omega)
      have fv_130 : q_fault_128.toInt = 0 → FV (upd g_od (Int32.toNatClampNeg z_119) r_123) := fun q0 => FV.put (p8 (by omega)) z_119 r_123 (by omega) (by omega) (by omega) (by omega) (by omega)
      clear eu_122f
      have hr_134 : DV (upd g_od (Int32.toNatClampNeg z_119) r_123) := DV.put h_g_od z_119 r_123 (by omega) (by omega) (by omega) (by omega)
      generalize upd g_od (Int32.toNatClampNeg z_119) r_123 = fn_129 at hP hD fv_130 ku_131 ku_132 ku_133 hr_134
      have hP : va_P D vwCl [(od, .inr (1, [.ref od_c])), (od_c, .inl (cy 0, 63, .inl fn_129)), (o, .inr (3, [.ref od])), (q, .inr (10, [.ref q_by, .int q_len, .ref q_ki, .ref q_va, .ref q_pl, .int q_tok, .int q_at_124, .int q_kind_125, .int q_value_126, .int q_place_127, .int q_fault_128])), (q_by, .inl (cy 0, 400, .inl g_qby)), (q_ki, .inl (cy 0, 401, .inl g_qki)), (q_va, .inl (cy 0, 401, .inl g_qva)), (q_pl, .inl (cy 0, 401, .inl g_qpl))] H := hP
      have hD : va_D A [(od, .inr (1, [.ref od_c])), (od_c, .inl (cy 0, 63, .inl fn_129)), (o, .inr (3, [.ref od])), (q, .inr (10, [.ref q_by, .int q_len, .ref q_ki, .ref q_va, .ref q_pl, .int q_tok, .int q_at_124, .int q_kind_125, .int q_value_126, .int q_place_127, .int q_fault_128])), (q_by, .inl (cy 0, 400, .inl g_qby)), (q_ki, .inl (cy 0, 401, .inl g_qki)), (q_va, .inl (cy 0, 401, .inl g_qva)), (q_pl, .inl (cy 0, 401, .inl g_qpl))] := hD
      obtain ⟨⟨b_135a, b_135b⟩, ⟨b_135c, b_135d⟩, ⟨b_135e, b_135f⟩⟩ := DV.bounds hr_134
      refine lv_aload_n hx hb dX3_readNumbers_61 rfl (lv_at hl 0 rfl) ?_
      refine lv_iconst (v := 2) hx hb dX3_readNumbers_62 (by decide) ?_
      refine lv_dup2_11 hx hb dX3_readNumbers_63 rfl rfl ?_
      refine va_iald hx hb hE.1 hP 1 0 rfl rfl (by unfold vp_in; decide) dX3_readNumbers_64 ?_
      refine k_top (z := (fn_129 2)) rfl ?_
      refine lv_iconst (v := 1) hx hb dX3_readNumbers_65 (by decide) ?_
      refine lv_iadd hx hb dX3_readNumbers_66 ?_
      refine lv_topi (fun z_136 ez_136 => ?_)
      have iz_136 : z_136.toInt = (fn_129 2).toInt + 1 := k_addI ez_136 rfl (by decide) (by omega)
      refine va_iast hx hb hE.1 hP hD hS 1 0 rfl rfl (by unfold vp_in; decide) dX3_readNumbers_67 (fun H locs hP hD hS => ?_)
      have ku_139 : ((upd fn_129 (Int32.toNatClampNeg 2) z_136) 3).toInt = (fn_129 3).toInt := k_updI (z := (2 : Int32)) (by have lq1 : (2 : Int32).toInt = 2 := (by decide); omega) (by have lq1 : (2 : Int32).toInt = 2 := (by decide); omega)
      have ku_140 : ((upd fn_129 (Int32.toNatClampNeg 2) z_136) 4).toInt = (fn_129 4).toInt := k_updI (z := (2 : Int32)) (by have lq1 : (2 : Int32).toInt = 2 := (by decide); omega) (by have lq1 : (2 : Int32).toInt = 2 := (by decide); omega)
      have fv_138 : q_fault_128.toInt = 0 → FV (upd fn_129 (Int32.toNatClampNeg 2) z_136) := fun q0 => FV.put (fv_130 (by omega)) (2 : Int32) z_136 (by have lq1 : (2 : Int32).toInt = 2 := (by decide); omega) (by have lq1 : (2 : Int32).toInt = 2 := (by decide); omega) (by have lq1 : (2 : Int32).toInt = 2 := (by decide); omega) (by have lq1 : (2 : Int32).toInt = 2 := (by decide); omega) (by have lq1 : (2 : Int32).toInt = 2 := (by decide); omega)
      have hr_141 : DV (upd fn_129 (Int32.toNatClampNeg 2) z_136) := DV.put hr_134 (2 : Int32) z_136 (by have lq1 : (2 : Int32).toInt = 2 := (by decide); omega) (by have lq1 : (2 : Int32).toInt = 2 := (by decide); omega) (by have lq1 : (2 : Int32).toInt = 2 := (by decide); omega) (by have lq1 : (2 : Int32).toInt = 2 := (by decide); omega)
      generalize upd fn_129 (Int32.toNatClampNeg 2) z_136 = fn_137 at hP hD fv_138 ku_139 ku_140 hr_141
      have hP : va_P D vwCl [(od, .inr (1, [.ref od_c])), (od_c, .inl (cy 0, 63, .inl fn_137)), (o, .inr (3, [.ref od])), (q, .inr (10, [.ref q_by, .int q_len, .ref q_ki, .ref q_va, .ref q_pl, .int q_tok, .int q_at_124, .int q_kind_125, .int q_value_126, .int q_place_127, .int q_fault_128])), (q_by, .inl (cy 0, 400, .inl g_qby)), (q_ki, .inl (cy 0, 401, .inl g_qki)), (q_va, .inl (cy 0, 401, .inl g_qva)), (q_pl, .inl (cy 0, 401, .inl g_qpl))] H := hP
      have hD : va_D A [(od, .inr (1, [.ref od_c])), (od_c, .inl (cy 0, 63, .inl fn_137)), (o, .inr (3, [.ref od])), (q, .inr (10, [.ref q_by, .int q_len, .ref q_ki, .ref q_va, .ref q_pl, .int q_tok, .int q_at_124, .int q_kind_125, .int q_value_126, .int q_place_127, .int q_fault_128])), (q_by, .inl (cy 0, 400, .inl g_qby)), (q_ki, .inl (cy 0, 401, .inl g_qki)), (q_va, .inl (cy 0, 401, .inl g_qva)), (q_pl, .inl (cy 0, 401, .inl g_qpl))] := hD
      obtain ⟨⟨b_142a, b_142b⟩, ⟨b_142c, b_142d⟩, ⟨b_142e, b_142f⟩⟩ := DV.bounds hr_141
      refine lv_goto (tgt := 193) hx hb dX3_readNumbers_68 (by decide) ?_
      exact KV.rt ⟨fn_137, q_at_124, q_kind_125, q_value_126, q_place_127, q_fault_128⟩ F (hP.sub [2, 0, 1, 3, 4, 5, 6, 7] rfl) (hD.sub [2, 0, 1, 3, 4, 5, 6, 7] (by decide) rfl) hS (show DV fn_137 ∧ (-1 ≤ q_at_124.toInt) ∧ (q_at_124.toInt ≤ 400) ∧ (q_kind_125.toInt = 1 ∨ q_kind_125.toInt = 3 → 0 ≤ q_value_126.toInt ∧ q_value_126.toInt ≤ 99999) ∧ (0 ≤ q_place_127.toInt) ∧ (q_place_127.toInt ≤ 400) ∧ (q_fault_128.toInt = 0 → FV fn_137) from ⟨hr_141, (by first | omega | assumption), (by first | omega | assumption), (by first | omega | assumption), (by first | omega | assumption), (by first | omega | assumption), (by first | exact fv_138 | (intro q0; exfalso; omega) | (intro q0; exact fv_138 (by omega)))⟩) (Nat.le_of_ble_eq_true rfl) (Nat.le_of_ble_eq_true rfl) dX3_readNumbers_193
  · have ic_2 : x0.toInt = 13 := k_eq c_2 rfl (by decide)
    clear p9 p10 p11 p12
    refine lv_aload_n hx hb dX3_readNumbers_14 rfl (lv_at hl 0 rfl) ?_
    refine lv_iconst (v := 0) hx hb dX3_readNumbers_15 (by decide) ?_
    refine lv_aload_n hx hb dX3_readNumbers_16 rfl (lv_at hl 1 rfl) ?_
    refine lv_aload_n hx hb dX3_readNumbers_17 rfl (lv_at hl 2 rfl) ?_
    refine lv_iconst (v := 3) hx hb dX3_readNumbers_18 (by decide) ?_
    refine lv_bipush (v := 20) hx hb dX3_readNumbers_19 (by decide) ?_
    have lt32_142 : (3 : Int32).toInt = 3 := by decide
    have lt32_143 : (20 : Int32).toInt = 20 := by decide
    refine kwVI (wr := [(od, .inr (1, [.ref od_c])), (od_c, .inl (cy 0, 63, .inl g_od))]) (As := [.ref q, .int 3, .int 20]) (rest := [.int 0, .ref od_c]) F hE hP hD hS hA hl.1 (cc_X3_readNumber l D cy (o := o) (q := q) (x0 := 3) (x1 := 20) (od := od) (q_by := q_by) (q_len := q_len) (q_ki := q_ki) (q_va := q_va) (q_pl := q_pl) (q_tok := q_tok) (q_at := q_at) (q_kind := q_kind) (q_value := q_value) (q_place := q_place) (q_fault := q_fault) (g_qby := g_qby) (g_qki := g_qki) (g_qva := g_qva) (g_qpl := g_qpl) (p0 := (by first | omega | assumption)) (p1 := (by first | omega | assumption)) (p2 := (by first | omega | assumption)) (p3 := (by first | omega | assumption)) (p4 := (by first | omega | assumption)) (p5 := (by first | omega | assumption)) (p6 := (by first | omega | assumption)) (p7 := (by first | omega | assumption))) q_m_X3_73 mv_X3_readNumber ⟨(Nat.le_of_ble_eq_true rfl), (Nat.le_of_ble_eq_true rfl)⟩ [0, 3, 4, 5, 6, 7] [1, 2] (by decide) rfl rfl (by decide) (by decide) rfl rfl rfl rfl rfl (Nat.le_of_ble_eq_true rfl) ⟨(Nat.le_of_ble_eq_true rfl), (Nat.le_of_ble_eq_true rfl)⟩ dX3_readNumbers_21 (fun r_146 u_145 H locs eu_145 hP hD hS => ?_)
    obtain ⟨q_at_147, q_kind_148, q_value_149, q_place_150, q_fault_151⟩ := u_145
    have eu_145 : (-1 ≤ q_at_147.toInt) ∧ (q_at_147.toInt ≤ 400) ∧ (q_kind_148.toInt = 1 ∨ q_kind_148.toInt = 3 → 0 ≤ q_value_149.toInt ∧ q_value_149.toInt ≤ 99999) ∧ (0 ≤ q_place_150.toInt) ∧ (q_place_150.toInt ≤ 400) ∧ (q_fault_151.toInt = 0 → q_fault.toInt = 0 ∧ (3 : Int32).toInt ≤ r_146.toInt ∧ r_146.toInt ≤ (20 : Int32).toInt) := eu_145
    obtain ⟨eu_145a, eu_145b, eu_145c, eu_145d, eu_145e, eu_145f⟩ := eu_145
    have hP : va_P D vwCl [(od, .inr (1, [.ref od_c])), (od_c, .inl (cy 0, 63, .inl g_od)), (o, .inr (3, [.ref od])), (q, .inr (10, [.ref q_by, .int q_len, .ref q_ki, .ref q_va, .ref q_pl, .int q_tok, .int q_at_147, .int q_kind_148, .int q_value_149, .int q_place_150, .int q_fault_151])), (q_by, .inl (cy 0, 400, .inl g_qby)), (q_ki, .inl (cy 0, 401, .inl g_qki)), (q_va, .inl (cy 0, 401, .inl g_qva)), (q_pl, .inl (cy 0, 401, .inl g_qpl))] H := hP
    have hD : va_D A [(od, .inr (1, [.ref od_c])), (od_c, .inl (cy 0, 63, .inl g_od)), (o, .inr (3, [.ref od])), (q, .inr (10, [.ref q_by, .int q_len, .ref q_ki, .ref q_va, .ref q_pl, .int q_tok, .int q_at_147, .int q_kind_148, .int q_value_149, .int q_place_150, .int q_fault_151])), (q_by, .inl (cy 0, 400, .inl g_qby)), (q_ki, .inl (cy 0, 401, .inl g_qki)), (q_va, .inl (cy 0, 401, .inl g_qva)), (q_pl, .inl (cy 0, 401, .inl g_qpl))] := hD
    clear p5
    refine va_iast hx hb hE.1 hP hD hS 1 0 rfl rfl (by unfold vp_in; decide) dX3_readNumbers_24 (fun H locs hP hD hS => ?_)
    have ku_154 : ((upd g_od (Int32.toNatClampNeg 0) r_146) 2).toInt = (g_od 2).toInt := k_updI (z := (0 : Int32)) (by have lq1 : (0 : Int32).toInt = 0 := (by decide); omega) (by have lq1 : (0 : Int32).toInt = 0 := (by decide); omega)
    have ku_155 : ((upd g_od (Int32.toNatClampNeg 0) r_146) 3).toInt = (g_od 3).toInt := k_updI (z := (0 : Int32)) (by have lq1 : (0 : Int32).toInt = 0 := (by decide); omega) (by have lq1 : (0 : Int32).toInt = 0 := (by decide); omega)
    have ku_156 : ((upd g_od (Int32.toNatClampNeg 0) r_146) 4).toInt = (g_od 4).toInt := k_updI (z := (0 : Int32)) (by have lq1 : (0 : Int32).toInt = 0 := (by decide); omega) (by have lq1 : (0 : Int32).toInt = 0 := (by decide); omega)
    have fv_153 : q_fault_151.toInt = 0 → FV (upd g_od (Int32.toNatClampNeg 0) r_146) := fun q0 => FV.put (p8 (by omega)) (0 : Int32) r_146 (by have lq1 : (0 : Int32).toInt = 0 := (by decide); omega) (by have lq1 : (0 : Int32).toInt = 0 := (by decide); omega) (by have lq1 : (0 : Int32).toInt = 0 := (by decide); omega) (by have lq1 : (0 : Int32).toInt = 0 := (by decide); omega) (by have lq1 : (0 : Int32).toInt = 0 := (by decide); omega)
    clear eu_145f
    have hr_157 : DV (upd g_od (Int32.toNatClampNeg 0) r_146) := DV.put h_g_od (0 : Int32) r_146 (by have lq1 : (0 : Int32).toInt = 0 := (by decide); omega) (by have lq1 : (0 : Int32).toInt = 0 := (by decide); omega) (by have lq1 : (0 : Int32).toInt = 0 := (by decide); omega) (by have lq1 : (0 : Int32).toInt = 0 := (by decide); omega)
    generalize upd g_od (Int32.toNatClampNeg 0) r_146 = fn_152 at hP hD fv_153 ku_154 ku_155 ku_156 hr_157
    have hP : va_P D vwCl [(od, .inr (1, [.ref od_c])), (od_c, .inl (cy 0, 63, .inl fn_152)), (o, .inr (3, [.ref od])), (q, .inr (10, [.ref q_by, .int q_len, .ref q_ki, .ref q_va, .ref q_pl, .int q_tok, .int q_at_147, .int q_kind_148, .int q_value_149, .int q_place_150, .int q_fault_151])), (q_by, .inl (cy 0, 400, .inl g_qby)), (q_ki, .inl (cy 0, 401, .inl g_qki)), (q_va, .inl (cy 0, 401, .inl g_qva)), (q_pl, .inl (cy 0, 401, .inl g_qpl))] H := hP
    have hD : va_D A [(od, .inr (1, [.ref od_c])), (od_c, .inl (cy 0, 63, .inl fn_152)), (o, .inr (3, [.ref od])), (q, .inr (10, [.ref q_by, .int q_len, .ref q_ki, .ref q_va, .ref q_pl, .int q_tok, .int q_at_147, .int q_kind_148, .int q_value_149, .int q_place_150, .int q_fault_151])), (q_by, .inl (cy 0, 400, .inl g_qby)), (q_ki, .inl (cy 0, 401, .inl g_qki)), (q_va, .inl (cy 0, 401, .inl g_qva)), (q_pl, .inl (cy 0, 401, .inl g_qpl))] := hD
    obtain ⟨⟨b_158a, b_158b⟩, ⟨b_158c, b_158d⟩, ⟨b_158e, b_158f⟩⟩ := DV.bounds hr_157
    refine lv_aload_n hx hb dX3_readNumbers_25 rfl (lv_at hl 0 rfl) ?_
    refine lv_iconst (v := 1) hx hb dX3_readNumbers_26 (by decide) ?_
    refine lv_aload_n hx hb dX3_readNumbers_27 rfl (lv_at hl 1 rfl) ?_
    refine lv_aload_n hx hb dX3_readNumbers_28 rfl (lv_at hl 2 rfl) ?_
    refine lv_iconst (v := 0) hx hb dX3_readNumbers_29 (by decide) ?_
    refine lv_bipush (v := 20) hx hb dX3_readNumbers_30 (by decide) ?_
    have lt32_158 : (0 : Int32).toInt = 0 := by decide
    have lt32_159 : (20 : Int32).toInt = 20 := by decide
    refine kwVI (wr := [(od, .inr (1, [.ref od_c])), (od_c, .inl (cy 0, 63, .inl fn_152))]) (As := [.ref q, .int 0, .int 20]) (rest := [.int 1, .ref od_c]) F hE hP hD hS hA hl.1 (cc_X3_readNumber l D cy (o := o) (q := q) (x0 := 0) (x1 := 20) (od := od) (q_by := q_by) (q_len := q_len) (q_ki := q_ki) (q_va := q_va) (q_pl := q_pl) (q_tok := q_tok) (q_at := q_at_147) (q_kind := q_kind_148) (q_value := q_value_149) (q_place := q_place_150) (q_fault := q_fault_151) (g_qby := g_qby) (g_qki := g_qki) (g_qva := g_qva) (g_qpl := g_qpl) (p0 := (by first | omega | assumption)) (p1 := (by first | omega | assumption)) (p2 := (by first | omega | assumption)) (p3 := (by first | omega | assumption)) (p4 := (by first | omega | assumption)) (p5 := (by first | omega | assumption)) (p6 := (by first | omega | assumption)) (p7 := (by first | omega | assumption))) q_m_X3_73 mv_X3_readNumber ⟨(Nat.le_of_ble_eq_true rfl), (Nat.le_of_ble_eq_true rfl)⟩ [2, 3, 4, 5, 6, 7] [0, 1] (by decide) rfl rfl (by decide) (by decide) rfl rfl rfl rfl rfl (Nat.le_of_ble_eq_true rfl) ⟨(Nat.le_of_ble_eq_true rfl), (Nat.le_of_ble_eq_true rfl)⟩ dX3_readNumbers_32 (fun r_162 u_161 H locs eu_161 hP hD hS => ?_)
    obtain ⟨q_at_163, q_kind_164, q_value_165, q_place_166, q_fault_167⟩ := u_161
    have eu_161 : (-1 ≤ q_at_163.toInt) ∧ (q_at_163.toInt ≤ 400) ∧ (q_kind_164.toInt = 1 ∨ q_kind_164.toInt = 3 → 0 ≤ q_value_165.toInt ∧ q_value_165.toInt ≤ 99999) ∧ (0 ≤ q_place_166.toInt) ∧ (q_place_166.toInt ≤ 400) ∧ (q_fault_167.toInt = 0 → q_fault_151.toInt = 0 ∧ (0 : Int32).toInt ≤ r_162.toInt ∧ r_162.toInt ≤ (20 : Int32).toInt) := eu_161
    obtain ⟨eu_161a, eu_161b, eu_161c, eu_161d, eu_161e, eu_161f⟩ := eu_161
    have hP : va_P D vwCl [(od, .inr (1, [.ref od_c])), (od_c, .inl (cy 0, 63, .inl fn_152)), (o, .inr (3, [.ref od])), (q, .inr (10, [.ref q_by, .int q_len, .ref q_ki, .ref q_va, .ref q_pl, .int q_tok, .int q_at_163, .int q_kind_164, .int q_value_165, .int q_place_166, .int q_fault_167])), (q_by, .inl (cy 0, 400, .inl g_qby)), (q_ki, .inl (cy 0, 401, .inl g_qki)), (q_va, .inl (cy 0, 401, .inl g_qva)), (q_pl, .inl (cy 0, 401, .inl g_qpl))] H := hP
    have hD : va_D A [(od, .inr (1, [.ref od_c])), (od_c, .inl (cy 0, 63, .inl fn_152)), (o, .inr (3, [.ref od])), (q, .inr (10, [.ref q_by, .int q_len, .ref q_ki, .ref q_va, .ref q_pl, .int q_tok, .int q_at_163, .int q_kind_164, .int q_value_165, .int q_place_166, .int q_fault_167])), (q_by, .inl (cy 0, 400, .inl g_qby)), (q_ki, .inl (cy 0, 401, .inl g_qki)), (q_va, .inl (cy 0, 401, .inl g_qva)), (q_pl, .inl (cy 0, 401, .inl g_qpl))] := hD
    clear eu_145c
    refine va_iast hx hb hE.1 hP hD hS 1 0 rfl rfl (by unfold vp_in; decide) dX3_readNumbers_35 (fun H locs hP hD hS => ?_)
    have ku_170 : ((upd fn_152 (Int32.toNatClampNeg 1) r_162) 2).toInt = (fn_152 2).toInt := k_updI (z := (1 : Int32)) (by have lq1 : (1 : Int32).toInt = 1 := (by decide); omega) (by have lq1 : (1 : Int32).toInt = 1 := (by decide); omega)
    have ku_171 : ((upd fn_152 (Int32.toNatClampNeg 1) r_162) 3).toInt = (fn_152 3).toInt := k_updI (z := (1 : Int32)) (by have lq1 : (1 : Int32).toInt = 1 := (by decide); omega) (by have lq1 : (1 : Int32).toInt = 1 := (by decide); omega)
    have ku_172 : ((upd fn_152 (Int32.toNatClampNeg 1) r_162) 4).toInt = (fn_152 4).toInt := k_updI (z := (1 : Int32)) (by have lq1 : (1 : Int32).toInt = 1 := (by decide); omega) (by have lq1 : (1 : Int32).toInt = 1 := (by decide); omega)
    have fv_169 : q_fault_167.toInt = 0 → FV (upd fn_152 (Int32.toNatClampNeg 1) r_162) := fun q0 => FV.put (fv_153 (by omega)) (1 : Int32) r_162 (by have lq1 : (1 : Int32).toInt = 1 := (by decide); omega) (by have lq1 : (1 : Int32).toInt = 1 := (by decide); omega) (by have lq1 : (1 : Int32).toInt = 1 := (by decide); omega) (by have lq1 : (1 : Int32).toInt = 1 := (by decide); omega) (by have lq1 : (1 : Int32).toInt = 1 := (by decide); omega)
    clear eu_161f
    have hr_173 : DV (upd fn_152 (Int32.toNatClampNeg 1) r_162) := DV.put hr_157 (1 : Int32) r_162 (by have lq1 : (1 : Int32).toInt = 1 := (by decide); omega) (by have lq1 : (1 : Int32).toInt = 1 := (by decide); omega) (by have lq1 : (1 : Int32).toInt = 1 := (by decide); omega) (by have lq1 : (1 : Int32).toInt = 1 := (by decide); omega)
    generalize upd fn_152 (Int32.toNatClampNeg 1) r_162 = fn_168 at hP hD fv_169 ku_170 ku_171 ku_172 hr_173
    have hP : va_P D vwCl [(od, .inr (1, [.ref od_c])), (od_c, .inl (cy 0, 63, .inl fn_168)), (o, .inr (3, [.ref od])), (q, .inr (10, [.ref q_by, .int q_len, .ref q_ki, .ref q_va, .ref q_pl, .int q_tok, .int q_at_163, .int q_kind_164, .int q_value_165, .int q_place_166, .int q_fault_167])), (q_by, .inl (cy 0, 400, .inl g_qby)), (q_ki, .inl (cy 0, 401, .inl g_qki)), (q_va, .inl (cy 0, 401, .inl g_qva)), (q_pl, .inl (cy 0, 401, .inl g_qpl))] H := hP
    have hD : va_D A [(od, .inr (1, [.ref od_c])), (od_c, .inl (cy 0, 63, .inl fn_168)), (o, .inr (3, [.ref od])), (q, .inr (10, [.ref q_by, .int q_len, .ref q_ki, .ref q_va, .ref q_pl, .int q_tok, .int q_at_163, .int q_kind_164, .int q_value_165, .int q_place_166, .int q_fault_167])), (q_by, .inl (cy 0, 400, .inl g_qby)), (q_ki, .inl (cy 0, 401, .inl g_qki)), (q_va, .inl (cy 0, 401, .inl g_qva)), (q_pl, .inl (cy 0, 401, .inl g_qpl))] := hD
    obtain ⟨⟨b_174a, b_174b⟩, ⟨b_174c, b_174d⟩, ⟨b_174e, b_174f⟩⟩ := DV.bounds hr_173
    refine lv_goto (tgt := 193) hx hb dX3_readNumbers_36 (by decide) ?_
    exact KV.rt ⟨fn_168, q_at_163, q_kind_164, q_value_165, q_place_166, q_fault_167⟩ F (hP.sub [2, 0, 1, 3, 4, 5, 6, 7] rfl) (hD.sub [2, 0, 1, 3, 4, 5, 6, 7] (by decide) rfl) hS (show DV fn_168 ∧ (-1 ≤ q_at_163.toInt) ∧ (q_at_163.toInt ≤ 400) ∧ (q_kind_164.toInt = 1 ∨ q_kind_164.toInt = 3 → 0 ≤ q_value_165.toInt ∧ q_value_165.toInt ≤ 99999) ∧ (0 ≤ q_place_166.toInt) ∧ (q_place_166.toInt ≤ 400) ∧ (q_fault_167.toInt = 0 → FV fn_168) from ⟨hr_173, (by first | omega | assumption), (by first | omega | assumption), (by first | omega | assumption), (by first | omega | assumption), (by first | omega | assumption), (by first | exact fv_169 | (intro q0; exfalso; omega) | (intro q0; exact fv_169 (by omega)))⟩) (Nat.le_of_ble_eq_true rfl) (Nat.le_of_ble_eq_true rfl) dX3_readNumbers_193

set_option maxHeartbeats 4000000 in
set_option maxRecDepth 100000 in
theorem cc_X3_readClause (l : Launch) (D : va_G) (cy : Nat → ClassId) (o : Nat) (od : Nat) (od_c : Nat) (g_od : Nat → Int32) (q : Nat) (q_by : Nat) (q_ki : Nat) (q_va : Nat) (q_pl : Nat) (q_len : Int32) (q_tok : Int32) (q_at : Int32) (q_kind : Int32) (q_value : Int32) (q_place : Int32) (q_fault : Int32) (g_qby : Nat → Int32) (g_qki : Nat → Int32) (g_qva : Nat → Int32) (g_qpl : Nat → Int32) (x0 : Int32) (h_g_od : DV g_od) (p0 : 0 ≤ q_tok.toInt) (p1 : q_tok.toInt ≤ 401) (p2 : -1 ≤ q_at.toInt) (p3 : q_at.toInt ≤ 400) (p4 : TKV g_qki g_qva g_qpl q_tok.toInt) (p5 : q_kind.toInt = 1 ∨ q_kind.toInt = 3 → 0 ≤ q_value.toInt ∧ q_value.toInt ≤ 99999) (p6 : 0 ≤ q_place.toInt) (p7 : q_place.toInt ≤ 400) (p8 : q_fault.toInt = 0 → FV g_od) : KV l yX3_readClause cX3_readClause 4 4 93 D (kTY cy) [.ref o, .ref q, .int x0] [(o, .inr (3, [.ref od])), (od, .inr (1, [.ref od_c])), (od_c, .inl (cy 0, 63, .inl g_od)), (q, .inr (10, [.ref q_by, .int q_len, .ref q_ki, .ref q_va, .ref q_pl, .int q_tok, .int q_at, .int q_kind, .int q_value, .int q_place, .int q_fault])), (q_by, .inl (cy 0, 400, .inl g_qby)), (q_ki, .inl (cy 0, 401, .inl g_qki)), (q_va, .inl (cy 0, 401, .inl g_qva)), (q_pl, .inl (cy 0, 401, .inl g_qpl))] (S := (Nat → Int32) × Int32 × Int32 × Int32 × Int32 × Int32) (fun u => DV (u.1) ∧ (-1 ≤ (u.2.1).toInt) ∧ ((u.2.1).toInt ≤ 400) ∧ ((u.2.2.1).toInt = 1 ∨ (u.2.2.1).toInt = 3 → 0 ≤ (u.2.2.2.1).toInt ∧ (u.2.2.2.1).toInt ≤ 99999) ∧ (0 ≤ (u.2.2.2.2.1).toInt) ∧ ((u.2.2.2.2.1).toInt ≤ 400) ∧ ((u.2.2.2.2.2).toInt = 0 → FV (u.1))) (fun u => [(o, .inr (3, [.ref od])), (od, .inr (1, [.ref od_c])), (od_c, .inl (cy 0, 63, .inl (u.1))), (q, .inr (10, [.ref q_by, .int q_len, .ref q_ki, .ref q_va, .ref q_pl, .int q_tok, .int (u.2.1), .int (u.2.2.1), .int (u.2.2.2.1), .int (u.2.2.2.2.1), .int (u.2.2.2.2.2)])), (q_by, .inl (cy 0, 400, .inl g_qby)), (q_ki, .inl (cy 0, 401, .inl g_qki)), (q_va, .inl (cy 0, 401, .inl g_qva)), (q_pl, .inl (cy 0, 401, .inl g_qpl))]) 0 0 := by
  refine KV.of (by decide) (Nat.le_of_ble_eq_true rfl) (fun p e s m below meth c ls A F hin hE hP hD hA hS hl => ?_)
  have F : kF p s m meth c cX3_readClause 4 none _ RX3 := F
  obtain ⟨hx, hb, hr, hml, hown, hG, hlk⟩ := id F
  have hl : lv_has ls 4 [(0, .ref o), (1, .ref q), (2, .int x0)] := hl
  obtain ⟨⟨b_1a, b_1b⟩, ⟨b_1c, b_1d⟩, ⟨b_1e, b_1f⟩⟩ := DV.bounds h_g_od
  refine lv_aload_n hx hb dX3_readClause_0 rfl (lv_at hl 1 rfl) ?_
  refine va_get (D := D) (ci := 10) (v := .int q_kind) (C := RX10) (T := TX10) (N := 11) hx hb hG inG_X10 hown hE.1 hP 3 rfl rfl 7 (by decide) (hG _ q_f_X3_41) (fun _ h9 => h9) rfl dX3_readClause_1 ?_
  refine lv_iconst (v := 3) hx hb dX3_readClause_4 (by decide) ?_
  refine lv_icmp_ne (tgt := 15) hx hb dX3_readClause_5 (by decide) (fun c_2 => ?_) (fun c_2 => ?_)
  · have ic_2 : q_kind.toInt ≠ 3 := k_ne c_2 rfl (by decide)
    refine lv_iconst (v := (-1)) hx hb dX3_readClause_15 (by decide) ?_
    refine lv_istore_n (lv' := [(3, .int (-1)), (0, .ref o), (1, .ref q), (2, .int x0)]) hx hb dX3_readClause_16 rfl hl (by decide) rfl (fun ls hl => ?_)
    refine lv_iload_n hx hb dX3_readClause_17 rfl (lv_at hl 0 rfl) ?_
    have lt32_2 : ((-1) : Int32).toInt = (-1) := by decide
    refine kcS (As := [.int (-1)]) (rest := []) F hE hP hl.1 (cc_opensClause l D cy (x0 := (-1))) q_m_X3_47 ms_X3_opensClause ⟨(Nat.le_of_ble_eq_true rfl), (Nat.le_of_ble_eq_true rfl)⟩ [] rfl rfl rfl (Nat.le_of_ble_eq_true rfl) ⟨(Nat.le_of_ble_eq_true rfl), (Nat.le_of_ble_eq_true rfl)⟩ dX3_readClause_18 (fun r_4 er_4 => ?_)
    have er_4 : (r_4.toInt = 0 ∨ r_4.toInt = 1) ∧ ((r_4.toInt ≠ 0 → ((-1) : Int32).toInt = 13 ∨ ((-1) : Int32).toInt = 10 ∨ ((-1) : Int32).toInt = 1 ∨ ((-1) : Int32).toInt = 0)) := er_4
    obtain ⟨er_4a, er_4b⟩ := er_4
    refine lv_if_ne (tgt := 36) hx hb dX3_readClause_21 (by decide) (fun c_5 => ?_) (fun c_5 => ?_)
    · have ic_5 : r_4.toInt ≠ 0 := k_ne c_5 rfl (by decide)
      have fc_5 := er_4b ic_5
      clear er_4b er_4a
      refine lv_iload_n hx hb dX3_readClause_36 rfl (lv_at hl 3 rfl) ?_
      refine lv_bipush (v := 40) hx hb dX3_readClause_37 (by decide) ?_
      refine lv_icmp_ge (tgt := 73) hx hb dX3_readClause_39 (by decide) (fun c_6 => ?_) (fun c_6 => ?_)
      · have ic_6 : 40 ≤ x0.toInt := k_le c_6 (by decide) rfl
        refine lv_aload_n hx hb dX3_readClause_73 rfl (lv_at hl 2 rfl) ?_
        refine lv_aload_n hx hb dX3_readClause_74 rfl (lv_at hl 2 rfl) ?_
        refine va_get (D := D) (ci := 10) (v := .int q_place) (C := RX10) (T := TX10) (N := 11) hx hb hG inG_X10 hown hE.1 hP 3 rfl rfl 9 (by decide) (hG _ q_f_X3_51) (fun _ h9 => h9) rfl dX3_readClause_75 ?_
        refine lv_iconst (v := 4) hx hb dX3_readClause_78 (by decide) ?_
        have lt32_6 : (4 : Int32).toInt = 4 := by decide
        refine kwVV (wr := [(o, .inr (3, [.ref od])), (od, .inr (1, [.ref od_c])), (od_c, .inl (cy 0, 63, .inl g_od)), (q_by, .inl (cy 0, 400, .inl g_qby)), (q_ki, .inl (cy 0, 401, .inl g_qki)), (q_va, .inl (cy 0, 401, .inl g_qva)), (q_pl, .inl (cy 0, 401, .inl g_qpl))]) (As := [.int q_place, .int 4]) (rest := []) F hE hP hD hS hA hl.1 (cc_X10_failAt l D cy (o := q) (x0 := q_place) (x1 := 4) (o_by := q_by) (o_len := q_len) (o_ki := q_ki) (o_va := q_va) (o_pl := q_pl) (o_tok := q_tok) (o_at := q_at) (o_kind := q_kind) (o_value := q_value) (o_place := q_place) (o_fault := q_fault) (p0 := (by first | omega | assumption)) (p1 := (by first | omega | assumption)) (p2 := (by first | omega | assumption)) (p3 := (by first | omega | assumption))) q_m_X3_54 mv_X10_failAt ⟨(Nat.le_of_ble_eq_true rfl), (Nat.le_of_ble_eq_true rfl)⟩ [3] [0, 1, 2, 4, 5, 6, 7] (by decide) rfl rfl (by decide) (by decide) rfl rfl rfl rfl rfl (Nat.le_of_ble_eq_true rfl) ⟨(Nat.le_of_ble_eq_true rfl), (Nat.le_of_ble_eq_true rfl)⟩ dX3_readClause_79 (fun u_8 H locs eu_8 hP hD hS => ?_)
        have eu_8 : (u_8.toInt ≠ 0) := eu_8
        have hP : va_P D vwCl [(o, .inr (3, [.ref od])), (od, .inr (1, [.ref od_c])), (od_c, .inl (cy 0, 63, .inl g_od)), (q_by, .inl (cy 0, 400, .inl g_qby)), (q_ki, .inl (cy 0, 401, .inl g_qki)), (q_va, .inl (cy 0, 401, .inl g_qva)), (q_pl, .inl (cy 0, 401, .inl g_qpl)), (q, .inr (10, [.ref q_by, .int q_len, .ref q_ki, .ref q_va, .ref q_pl, .int q_tok, .int q_at, .int q_kind, .int q_value, .int q_place, .int u_8]))] H := hP
        have hD : va_D A [(o, .inr (3, [.ref od])), (od, .inr (1, [.ref od_c])), (od_c, .inl (cy 0, 63, .inl g_od)), (q_by, .inl (cy 0, 400, .inl g_qby)), (q_ki, .inl (cy 0, 401, .inl g_qki)), (q_va, .inl (cy 0, 401, .inl g_qva)), (q_pl, .inl (cy 0, 401, .inl g_qpl)), (q, .inr (10, [.ref q_by, .int q_len, .ref q_ki, .ref q_va, .ref q_pl, .int q_tok, .int q_at, .int q_kind, .int q_value, .int q_place, .int u_8]))] := hD
        refine lv_goto (tgt := 95) hx hb dX3_readClause_82 (by decide) ?_
        exact KV.rt ⟨g_od, q_at, q_kind, q_value, q_place, u_8⟩ F (hP.sub [0, 1, 2, 7, 3, 4, 5, 6] rfl) (hD.sub [0, 1, 2, 7, 3, 4, 5, 6] (by decide) rfl) hS (show DV g_od ∧ (-1 ≤ q_at.toInt) ∧ (q_at.toInt ≤ 400) ∧ (q_kind.toInt = 1 ∨ q_kind.toInt = 3 → 0 ≤ q_value.toInt ∧ q_value.toInt ≤ 99999) ∧ (0 ≤ q_place.toInt) ∧ (q_place.toInt ≤ 400) ∧ (u_8.toInt = 0 → FV g_od) from ⟨h_g_od, (by first | omega | assumption), (by first | omega | assumption), (by first | omega | assumption), (by first | omega | assumption), (by first | omega | assumption), (by first | exact p8 | (intro q0; exfalso; omega) | (intro q0; exact p8 (by omega)))⟩) (Nat.le_of_ble_eq_true rfl) (Nat.le_of_ble_eq_true rfl) dX3_readClause_95
      · have ic_6 : x0.toInt < 40 := k_nle c_6 (by decide) rfl
        refine lv_iload_n hx hb dX3_readClause_42 rfl (lv_at hl 0 rfl) ?_
        refine lv_bipush (v := 13) hx hb dX3_readClause_43 (by decide) ?_
        refine lv_icmp_ne (tgt := 52) hx hb dX3_readClause_45 (by decide) (fun _ => ?_) (fun q => absurd q (by decide))
        refine lv_iconst (v := 0) hx hb dX3_readClause_52 (by decide) ?_
        refine lv_iload_n hx hb dX3_readClause_53 rfl (lv_at hl 3 rfl) ?_
        refine lv_if_ne (tgt := 61) hx hb dX3_readClause_54 (by decide) (fun c_10 => ?_) (fun c_10 => ?_)
        · have ic_10 : x0.toInt ≠ 0 := k_ne c_10 rfl (by decide)
          refine lv_iconst (v := 0) hx hb dX3_readClause_61 (by decide) ?_
          refine lv_icmp_ne (tgt := 73) hx hb dX3_readClause_62 (by decide) (fun q => absurd q (by decide)) (fun _ => ?_)
          refine lv_aload_n hx hb dX3_readClause_65 rfl (lv_at hl 1 rfl) ?_
          refine lv_iload_n hx hb dX3_readClause_66 rfl (lv_at hl 0 rfl) ?_
          have lt32_10 : ((-1) : Int32).toInt = (-1) := by decide
          refine kcV (As := [.int (-1)]) (rest := []) F hE hP hl.1 (cc_X3_isFullOf l D cy (o := o) (x0 := (-1)) (od := od) (od_c := od_c) (g_od := g_od) (h_g_od := h_g_od)) q_m_X3_58 mv_X3_isFullOf ⟨(Nat.le_of_ble_eq_true rfl), (Nat.le_of_ble_eq_true rfl)⟩ [0, 1, 2] rfl rfl rfl rfl rfl rfl (Nat.le_of_ble_eq_true rfl) ⟨(Nat.le_of_ble_eq_true rfl), (Nat.le_of_ble_eq_true rfl)⟩ dX3_readClause_67 (fun r_12 er_12 => ?_)
          have er_12 : (r_12.toInt = 0 ∨ r_12.toInt = 1) ∧ ((r_12.toInt = 0 → (((-1) : Int32).toInt = 10 → (g_od 2).toInt ≤ 11) ∧ (((-1) : Int32).toInt = 1 → (g_od 3).toInt ≤ 5) ∧ (((-1) : Int32).toInt = 0 → (g_od 4).toInt ≤ 4))) := er_12
          obtain ⟨er_12a, er_12b⟩ := er_12
          refine lv_if_eq (tgt := 85) hx hb dX3_readClause_70 (by decide) (fun c_13 => ?_) (fun c_13 => ?_)
          · have ic_13 : r_12.toInt = 0 := k_eq c_13 rfl (by decide)
            have fc_13 := er_12b ic_13
            clear er_12b er_12a
            obtain ⟨fc_13a, fc_13b, fc_13c⟩ := fc_13
            refine lv_aload_n hx hb dX3_readClause_85 rfl (lv_at hl 2 rfl) ?_
            refine kwVV (wr := [(o, .inr (3, [.ref od])), (od, .inr (1, [.ref od_c])), (od_c, .inl (cy 0, 63, .inl g_od))]) (As := []) (rest := []) F hE hP hD hS hA hl.1 (cc_X10_advance l D cy (o := q) (o_by := q_by) (o_len := q_len) (o_ki := q_ki) (o_va := q_va) (o_pl := q_pl) (o_tok := q_tok) (o_at := q_at) (o_kind := q_kind) (o_value := q_value) (o_place := q_place) (o_fault := q_fault) (g_oby := g_qby) (g_oki := g_qki) (g_ova := g_qva) (g_opl := g_qpl) (p0 := (by first | omega | assumption)) (p1 := (by first | omega | assumption)) (p2 := (by first | omega | assumption)) (p3 := (by first | omega | assumption)) (p4 := (by first | omega | assumption)) (p5 := (by first | omega | assumption)) (p6 := (by first | omega | assumption)) (p7 := (by first | omega | assumption))) q_m_X3_61 mv_X10_advance ⟨(Nat.le_of_ble_eq_true rfl), (Nat.le_of_ble_eq_true rfl)⟩ [3, 4, 5, 6, 7] [0, 1, 2] (by decide) rfl rfl (by decide) (by decide) rfl rfl rfl rfl rfl (Nat.le_of_ble_eq_true rfl) ⟨(Nat.le_of_ble_eq_true rfl), (Nat.le_of_ble_eq_true rfl)⟩ dX3_readClause_86 (fun u_14 H locs eu_14 hP hD hS => ?_)
            obtain ⟨o_at_15, o_kind_16, o_value_17, o_place_18⟩ := u_14
            have eu_14 : (-1 ≤ o_at_15.toInt) ∧ (o_at_15.toInt ≤ 400) ∧ (o_kind_16.toInt = 1 ∨ o_kind_16.toInt = 3 → 0 ≤ o_value_17.toInt ∧ o_value_17.toInt ≤ 99999) ∧ (0 ≤ o_place_18.toInt) ∧ (o_place_18.toInt ≤ 400) := eu_14
            obtain ⟨eu_14a, eu_14b, eu_14c, eu_14d, eu_14e⟩ := eu_14
            have hP : va_P D vwCl [(o, .inr (3, [.ref od])), (od, .inr (1, [.ref od_c])), (od_c, .inl (cy 0, 63, .inl g_od)), (q, .inr (10, [.ref q_by, .int q_len, .ref q_ki, .ref q_va, .ref q_pl, .int q_tok, .int o_at_15, .int o_kind_16, .int o_value_17, .int o_place_18, .int q_fault])), (q_by, .inl (cy 0, 400, .inl g_qby)), (q_ki, .inl (cy 0, 401, .inl g_qki)), (q_va, .inl (cy 0, 401, .inl g_qva)), (q_pl, .inl (cy 0, 401, .inl g_qpl))] H := hP
            have hD : va_D A [(o, .inr (3, [.ref od])), (od, .inr (1, [.ref od_c])), (od_c, .inl (cy 0, 63, .inl g_od)), (q, .inr (10, [.ref q_by, .int q_len, .ref q_ki, .ref q_va, .ref q_pl, .int q_tok, .int o_at_15, .int o_kind_16, .int o_value_17, .int o_place_18, .int q_fault])), (q_by, .inl (cy 0, 400, .inl g_qby)), (q_ki, .inl (cy 0, 401, .inl g_qki)), (q_va, .inl (cy 0, 401, .inl g_qva)), (q_pl, .inl (cy 0, 401, .inl g_qpl))] := hD
            refine lv_aload_n hx hb dX3_readClause_89 rfl (lv_at hl 1 rfl) ?_
            refine lv_aload_n hx hb dX3_readClause_90 rfl (lv_at hl 2 rfl) ?_
            refine lv_iload_n hx hb dX3_readClause_91 rfl (lv_at hl 0 rfl) ?_
            have lt32_18 : ((-1) : Int32).toInt = (-1) := by decide
            refine kwVV (wr := []) (As := [.ref q, .int (-1)]) (rest := []) F hE hP hD hS hA hl.1 (cc_X3_readNumbers l D cy (o := o) (q := q) (x0 := (-1)) (od := od) (od_c := od_c) (g_od := g_od) (q_by := q_by) (q_len := q_len) (q_ki := q_ki) (q_va := q_va) (q_pl := q_pl) (q_tok := q_tok) (q_at := o_at_15) (q_kind := o_kind_16) (q_value := o_value_17) (q_place := o_place_18) (q_fault := q_fault) (g_qby := g_qby) (g_qki := g_qki) (g_qva := g_qva) (g_qpl := g_qpl) (h_g_od := h_g_od) (p0 := (by first | omega | assumption)) (p1 := (by first | omega | assumption)) (p2 := (by first | omega | assumption)) (p3 := (by first | omega | assumption)) (p4 := (by first | omega | assumption)) (p5 := (by first | omega | assumption)) (p6 := (by first | omega | assumption)) (p7 := (by first | omega | assumption)) (p8 := (by first | omega | assumption)) (p9 := (by first | omega | assumption)) (p10 := (by first | omega | assumption)) (p11 := (by first | omega | assumption)) (p12 := (by first | omega | assumption))) q_m_X3_64 mv_X3_readNumbers ⟨(Nat.le_of_ble_eq_true rfl), (Nat.le_of_ble_eq_true rfl)⟩ [0, 1, 2, 3, 4, 5, 6, 7] [] (by decide) rfl rfl (by decide) (by decide) rfl rfl rfl rfl rfl (Nat.le_of_ble_eq_true rfl) ⟨(Nat.le_of_ble_eq_true rfl), (Nat.le_of_ble_eq_true rfl)⟩ dX3_readClause_92 (fun u_20 H locs eu_20 hP hD hS => ?_)
            obtain ⟨g_od_21, q_at_22, q_kind_23, q_value_24, q_place_25, q_fault_26⟩ := u_20
            have eu_20 : DV g_od_21 ∧ (-1 ≤ q_at_22.toInt) ∧ (q_at_22.toInt ≤ 400) ∧ (q_kind_23.toInt = 1 ∨ q_kind_23.toInt = 3 → 0 ≤ q_value_24.toInt ∧ q_value_24.toInt ≤ 99999) ∧ (0 ≤ q_place_25.toInt) ∧ (q_place_25.toInt ≤ 400) ∧ (q_fault_26.toInt = 0 → FV g_od_21) := eu_20
            obtain ⟨eu_20a, eu_20b, eu_20c, eu_20d, eu_20e, eu_20f, eu_20g⟩ := eu_20
            have hP : va_P D vwCl [(o, .inr (3, [.ref od])), (od, .inr (1, [.ref od_c])), (od_c, .inl (cy 0, 63, .inl g_od_21)), (q, .inr (10, [.ref q_by, .int q_len, .ref q_ki, .ref q_va, .ref q_pl, .int q_tok, .int q_at_22, .int q_kind_23, .int q_value_24, .int q_place_25, .int q_fault_26])), (q_by, .inl (cy 0, 400, .inl g_qby)), (q_ki, .inl (cy 0, 401, .inl g_qki)), (q_va, .inl (cy 0, 401, .inl g_qva)), (q_pl, .inl (cy 0, 401, .inl g_qpl))] H := hP
            have hD : va_D A [(o, .inr (3, [.ref od])), (od, .inr (1, [.ref od_c])), (od_c, .inl (cy 0, 63, .inl g_od_21)), (q, .inr (10, [.ref q_by, .int q_len, .ref q_ki, .ref q_va, .ref q_pl, .int q_tok, .int q_at_22, .int q_kind_23, .int q_value_24, .int q_place_25, .int q_fault_26])), (q_by, .inl (cy 0, 400, .inl g_qby)), (q_ki, .inl (cy 0, 401, .inl g_qki)), (q_va, .inl (cy 0, 401, .inl g_qva)), (q_pl, .inl (cy 0, 401, .inl g_qpl))] := hD
            obtain ⟨⟨b_27a, b_27b⟩, ⟨b_27c, b_27d⟩, ⟨b_27e, b_27f⟩⟩ := DV.bounds eu_20a
            exact KV.rt ⟨g_od_21, q_at_22, q_kind_23, q_value_24, q_place_25, q_fault_26⟩ F (hP.sub [0, 1, 2, 3, 4, 5, 6, 7] rfl) (hD.sub [0, 1, 2, 3, 4, 5, 6, 7] (by decide) rfl) hS (show DV g_od_21 ∧ (-1 ≤ q_at_22.toInt) ∧ (q_at_22.toInt ≤ 400) ∧ (q_kind_23.toInt = 1 ∨ q_kind_23.toInt = 3 → 0 ≤ q_value_24.toInt ∧ q_value_24.toInt ≤ 99999) ∧ (0 ≤ q_place_25.toInt) ∧ (q_place_25.toInt ≤ 400) ∧ (q_fault_26.toInt = 0 → FV g_od_21) from ⟨eu_20a, (by first | omega | assumption), (by first | omega | assumption), (by first | omega | assumption), (by first | omega | assumption), (by first | omega | assumption), (by first | exact eu_20g | (intro q0; exfalso; omega) | (intro q0; exact eu_20g (by omega)))⟩) (Nat.le_of_ble_eq_true rfl) (Nat.le_of_ble_eq_true rfl) dX3_readClause_95
          · have ic_13 : r_12.toInt ≠ 0 := k_ne c_13 rfl (by decide)
            clear er_12b er_12a
            refine lv_aload_n hx hb dX3_readClause_73 rfl (lv_at hl 2 rfl) ?_
            refine lv_aload_n hx hb dX3_readClause_74 rfl (lv_at hl 2 rfl) ?_
            refine va_get (D := D) (ci := 10) (v := .int q_place) (C := RX10) (T := TX10) (N := 11) hx hb hG inG_X10 hown hE.1 hP 3 rfl rfl 9 (by decide) (hG _ q_f_X3_51) (fun _ h9 => h9) rfl dX3_readClause_75 ?_
            refine lv_iconst (v := 4) hx hb dX3_readClause_78 (by decide) ?_
            have lt32_27 : (4 : Int32).toInt = 4 := by decide
            refine kwVV (wr := [(o, .inr (3, [.ref od])), (od, .inr (1, [.ref od_c])), (od_c, .inl (cy 0, 63, .inl g_od)), (q_by, .inl (cy 0, 400, .inl g_qby)), (q_ki, .inl (cy 0, 401, .inl g_qki)), (q_va, .inl (cy 0, 401, .inl g_qva)), (q_pl, .inl (cy 0, 401, .inl g_qpl))]) (As := [.int q_place, .int 4]) (rest := []) F hE hP hD hS hA hl.1 (cc_X10_failAt l D cy (o := q) (x0 := q_place) (x1 := 4) (o_by := q_by) (o_len := q_len) (o_ki := q_ki) (o_va := q_va) (o_pl := q_pl) (o_tok := q_tok) (o_at := q_at) (o_kind := q_kind) (o_value := q_value) (o_place := q_place) (o_fault := q_fault) (p0 := (by first | omega | assumption)) (p1 := (by first | omega | assumption)) (p2 := (by first | omega | assumption)) (p3 := (by first | omega | assumption))) q_m_X3_54 mv_X10_failAt ⟨(Nat.le_of_ble_eq_true rfl), (Nat.le_of_ble_eq_true rfl)⟩ [3] [0, 1, 2, 4, 5, 6, 7] (by decide) rfl rfl (by decide) (by decide) rfl rfl rfl rfl rfl (Nat.le_of_ble_eq_true rfl) ⟨(Nat.le_of_ble_eq_true rfl), (Nat.le_of_ble_eq_true rfl)⟩ dX3_readClause_79 (fun u_29 H locs eu_29 hP hD hS => ?_)
            have eu_29 : (u_29.toInt ≠ 0) := eu_29
            have hP : va_P D vwCl [(o, .inr (3, [.ref od])), (od, .inr (1, [.ref od_c])), (od_c, .inl (cy 0, 63, .inl g_od)), (q_by, .inl (cy 0, 400, .inl g_qby)), (q_ki, .inl (cy 0, 401, .inl g_qki)), (q_va, .inl (cy 0, 401, .inl g_qva)), (q_pl, .inl (cy 0, 401, .inl g_qpl)), (q, .inr (10, [.ref q_by, .int q_len, .ref q_ki, .ref q_va, .ref q_pl, .int q_tok, .int q_at, .int q_kind, .int q_value, .int q_place, .int u_29]))] H := hP
            have hD : va_D A [(o, .inr (3, [.ref od])), (od, .inr (1, [.ref od_c])), (od_c, .inl (cy 0, 63, .inl g_od)), (q_by, .inl (cy 0, 400, .inl g_qby)), (q_ki, .inl (cy 0, 401, .inl g_qki)), (q_va, .inl (cy 0, 401, .inl g_qva)), (q_pl, .inl (cy 0, 401, .inl g_qpl)), (q, .inr (10, [.ref q_by, .int q_len, .ref q_ki, .ref q_va, .ref q_pl, .int q_tok, .int q_at, .int q_kind, .int q_value, .int q_place, .int u_29]))] := hD
            refine lv_goto (tgt := 95) hx hb dX3_readClause_82 (by decide) ?_
            exact KV.rt ⟨g_od, q_at, q_kind, q_value, q_place, u_29⟩ F (hP.sub [0, 1, 2, 7, 3, 4, 5, 6] rfl) (hD.sub [0, 1, 2, 7, 3, 4, 5, 6] (by decide) rfl) hS (show DV g_od ∧ (-1 ≤ q_at.toInt) ∧ (q_at.toInt ≤ 400) ∧ (q_kind.toInt = 1 ∨ q_kind.toInt = 3 → 0 ≤ q_value.toInt ∧ q_value.toInt ≤ 99999) ∧ (0 ≤ q_place.toInt) ∧ (q_place.toInt ≤ 400) ∧ (u_29.toInt = 0 → FV g_od) from ⟨h_g_od, (by first | omega | assumption), (by first | omega | assumption), (by first | omega | assumption), (by first | omega | assumption), (by first | omega | assumption), (by first | exact p8 | (intro q0; exfalso; omega) | (intro q0; exact p8 (by omega)))⟩) (Nat.le_of_ble_eq_true rfl) (Nat.le_of_ble_eq_true rfl) dX3_readClause_95
        · have ic_10 : x0.toInt = 0 := k_eq c_10 rfl (by decide)
          refine lv_iconst (v := 1) hx hb dX3_readClause_57 (by decide) ?_
          refine lv_goto (tgt := 62) hx hb dX3_readClause_58 (by decide) ?_
          refine lv_icmp_ne (tgt := 73) hx hb dX3_readClause_62 (by decide) (fun _ => ?_) (fun q => absurd q (by decide))
          refine lv_aload_n hx hb dX3_readClause_73 rfl (lv_at hl 2 rfl) ?_
          refine lv_aload_n hx hb dX3_readClause_74 rfl (lv_at hl 2 rfl) ?_
          refine va_get (D := D) (ci := 10) (v := .int q_place) (C := RX10) (T := TX10) (N := 11) hx hb hG inG_X10 hown hE.1 hP 3 rfl rfl 9 (by decide) (hG _ q_f_X3_51) (fun _ h9 => h9) rfl dX3_readClause_75 ?_
          refine lv_iconst (v := 4) hx hb dX3_readClause_78 (by decide) ?_
          have lt32_30 : (4 : Int32).toInt = 4 := by decide
          refine kwVV (wr := [(o, .inr (3, [.ref od])), (od, .inr (1, [.ref od_c])), (od_c, .inl (cy 0, 63, .inl g_od)), (q_by, .inl (cy 0, 400, .inl g_qby)), (q_ki, .inl (cy 0, 401, .inl g_qki)), (q_va, .inl (cy 0, 401, .inl g_qva)), (q_pl, .inl (cy 0, 401, .inl g_qpl))]) (As := [.int q_place, .int 4]) (rest := []) F hE hP hD hS hA hl.1 (cc_X10_failAt l D cy (o := q) (x0 := q_place) (x1 := 4) (o_by := q_by) (o_len := q_len) (o_ki := q_ki) (o_va := q_va) (o_pl := q_pl) (o_tok := q_tok) (o_at := q_at) (o_kind := q_kind) (o_value := q_value) (o_place := q_place) (o_fault := q_fault) (p0 := (by first | omega | assumption)) (p1 := (by first | omega | assumption)) (p2 := (by first | omega | assumption)) (p3 := (by first | omega | assumption))) q_m_X3_54 mv_X10_failAt ⟨(Nat.le_of_ble_eq_true rfl), (Nat.le_of_ble_eq_true rfl)⟩ [3] [0, 1, 2, 4, 5, 6, 7] (by decide) rfl rfl (by decide) (by decide) rfl rfl rfl rfl rfl (Nat.le_of_ble_eq_true rfl) ⟨(Nat.le_of_ble_eq_true rfl), (Nat.le_of_ble_eq_true rfl)⟩ dX3_readClause_79 (fun u_32 H locs eu_32 hP hD hS => ?_)
          have eu_32 : (u_32.toInt ≠ 0) := eu_32
          have hP : va_P D vwCl [(o, .inr (3, [.ref od])), (od, .inr (1, [.ref od_c])), (od_c, .inl (cy 0, 63, .inl g_od)), (q_by, .inl (cy 0, 400, .inl g_qby)), (q_ki, .inl (cy 0, 401, .inl g_qki)), (q_va, .inl (cy 0, 401, .inl g_qva)), (q_pl, .inl (cy 0, 401, .inl g_qpl)), (q, .inr (10, [.ref q_by, .int q_len, .ref q_ki, .ref q_va, .ref q_pl, .int q_tok, .int q_at, .int q_kind, .int q_value, .int q_place, .int u_32]))] H := hP
          have hD : va_D A [(o, .inr (3, [.ref od])), (od, .inr (1, [.ref od_c])), (od_c, .inl (cy 0, 63, .inl g_od)), (q_by, .inl (cy 0, 400, .inl g_qby)), (q_ki, .inl (cy 0, 401, .inl g_qki)), (q_va, .inl (cy 0, 401, .inl g_qva)), (q_pl, .inl (cy 0, 401, .inl g_qpl)), (q, .inr (10, [.ref q_by, .int q_len, .ref q_ki, .ref q_va, .ref q_pl, .int q_tok, .int q_at, .int q_kind, .int q_value, .int q_place, .int u_32]))] := hD
          refine lv_goto (tgt := 95) hx hb dX3_readClause_82 (by decide) ?_
          exact KV.rt ⟨g_od, q_at, q_kind, q_value, q_place, u_32⟩ F (hP.sub [0, 1, 2, 7, 3, 4, 5, 6] rfl) (hD.sub [0, 1, 2, 7, 3, 4, 5, 6] (by decide) rfl) hS (show DV g_od ∧ (-1 ≤ q_at.toInt) ∧ (q_at.toInt ≤ 400) ∧ (q_kind.toInt = 1 ∨ q_kind.toInt = 3 → 0 ≤ q_value.toInt ∧ q_value.toInt ≤ 99999) ∧ (0 ≤ q_place.toInt) ∧ (q_place.toInt ≤ 400) ∧ (u_32.toInt = 0 → FV g_od) from ⟨h_g_od, (by first | omega | assumption), (by first | omega | assumption), (by first | omega | assumption), (by first | omega | assumption), (by first | omega | assumption), (by first | exact p8 | (intro q0; exfalso; omega) | (intro q0; exact p8 (by omega)))⟩) (Nat.le_of_ble_eq_true rfl) (Nat.le_of_ble_eq_true rfl) dX3_readClause_95
    · have ic_5 : r_4.toInt = 0 := k_eq c_5 rfl (by decide)
      clear er_4b er_4a
      refine lv_aload_n hx hb dX3_readClause_24 rfl (lv_at hl 2 rfl) ?_
      refine lv_aload_n hx hb dX3_readClause_25 rfl (lv_at hl 2 rfl) ?_
      refine va_get (D := D) (ci := 10) (v := .int q_place) (C := RX10) (T := TX10) (N := 11) hx hb hG inG_X10 hown hE.1 hP 3 rfl rfl 9 (by decide) (hG _ q_f_X3_51) (fun _ h9 => h9) rfl dX3_readClause_26 ?_
      refine lv_iconst (v := 0) hx hb dX3_readClause_29 (by decide) ?_
      have lt32_33 : (0 : Int32).toInt = 0 := by decide
      refine kwVV (wr := [(o, .inr (3, [.ref od])), (od, .inr (1, [.ref od_c])), (od_c, .inl (cy 0, 63, .inl g_od)), (q_by, .inl (cy 0, 400, .inl g_qby)), (q_ki, .inl (cy 0, 401, .inl g_qki)), (q_va, .inl (cy 0, 401, .inl g_qva)), (q_pl, .inl (cy 0, 401, .inl g_qpl))]) (As := [.int q_place, .int 0]) (rest := []) F hE hP hD hS hA hl.1 (cc_X10_failAt l D cy (o := q) (x0 := q_place) (x1 := 0) (o_by := q_by) (o_len := q_len) (o_ki := q_ki) (o_va := q_va) (o_pl := q_pl) (o_tok := q_tok) (o_at := q_at) (o_kind := q_kind) (o_value := q_value) (o_place := q_place) (o_fault := q_fault) (p0 := (by first | omega | assumption)) (p1 := (by first | omega | assumption)) (p2 := (by first | omega | assumption)) (p3 := (by first | omega | assumption))) q_m_X3_54 mv_X10_failAt ⟨(Nat.le_of_ble_eq_true rfl), (Nat.le_of_ble_eq_true rfl)⟩ [3] [0, 1, 2, 4, 5, 6, 7] (by decide) rfl rfl (by decide) (by decide) rfl rfl rfl rfl rfl (Nat.le_of_ble_eq_true rfl) ⟨(Nat.le_of_ble_eq_true rfl), (Nat.le_of_ble_eq_true rfl)⟩ dX3_readClause_30 (fun u_35 H locs eu_35 hP hD hS => ?_)
      have eu_35 : (u_35.toInt ≠ 0) := eu_35
      have hP : va_P D vwCl [(o, .inr (3, [.ref od])), (od, .inr (1, [.ref od_c])), (od_c, .inl (cy 0, 63, .inl g_od)), (q_by, .inl (cy 0, 400, .inl g_qby)), (q_ki, .inl (cy 0, 401, .inl g_qki)), (q_va, .inl (cy 0, 401, .inl g_qva)), (q_pl, .inl (cy 0, 401, .inl g_qpl)), (q, .inr (10, [.ref q_by, .int q_len, .ref q_ki, .ref q_va, .ref q_pl, .int q_tok, .int q_at, .int q_kind, .int q_value, .int q_place, .int u_35]))] H := hP
      have hD : va_D A [(o, .inr (3, [.ref od])), (od, .inr (1, [.ref od_c])), (od_c, .inl (cy 0, 63, .inl g_od)), (q_by, .inl (cy 0, 400, .inl g_qby)), (q_ki, .inl (cy 0, 401, .inl g_qki)), (q_va, .inl (cy 0, 401, .inl g_qva)), (q_pl, .inl (cy 0, 401, .inl g_qpl)), (q, .inr (10, [.ref q_by, .int q_len, .ref q_ki, .ref q_va, .ref q_pl, .int q_tok, .int q_at, .int q_kind, .int q_value, .int q_place, .int u_35]))] := hD
      refine lv_goto (tgt := 95) hx hb dX3_readClause_33 (by decide) ?_
      exact KV.rt ⟨g_od, q_at, q_kind, q_value, q_place, u_35⟩ F (hP.sub [0, 1, 2, 7, 3, 4, 5, 6] rfl) (hD.sub [0, 1, 2, 7, 3, 4, 5, 6] (by decide) rfl) hS (show DV g_od ∧ (-1 ≤ q_at.toInt) ∧ (q_at.toInt ≤ 400) ∧ (q_kind.toInt = 1 ∨ q_kind.toInt = 3 → 0 ≤ q_value.toInt ∧ q_value.toInt ≤ 99999) ∧ (0 ≤ q_place.toInt) ∧ (q_place.toInt ≤ 400) ∧ (u_35.toInt = 0 → FV g_od) from ⟨h_g_od, (by first | omega | assumption), (by first | omega | assumption), (by first | omega | assumption), (by first | omega | assumption), (by first | omega | assumption), (by first | exact p8 | (intro q0; exfalso; omega) | (intro q0; exact p8 (by omega)))⟩) (Nat.le_of_ble_eq_true rfl) (Nat.le_of_ble_eq_true rfl) dX3_readClause_95
  · have ic_2 : q_kind.toInt = 3 := k_eq c_2 rfl (by decide)
    refine lv_aload_n hx hb dX3_readClause_8 rfl (lv_at hl 1 rfl) ?_
    refine va_get (D := D) (ci := 10) (v := .int q_value) (C := RX10) (T := TX10) (N := 11) hx hb hG inG_X10 hown hE.1 hP 3 rfl rfl 8 (by decide) (hG _ q_f_X3_44) (fun _ h9 => h9) rfl dX3_readClause_9 ?_
    refine lv_goto (tgt := 16) hx hb dX3_readClause_12 (by decide) ?_
    refine lv_istore_n (lv' := [(3, .int q_value), (0, .ref o), (1, .ref q), (2, .int x0)]) hx hb dX3_readClause_16 rfl hl (by decide) rfl (fun ls hl => ?_)
    refine lv_iload_n hx hb dX3_readClause_17 rfl (lv_at hl 0 rfl) ?_
    refine kcS (As := [.int q_value]) (rest := []) F hE hP hl.1 (cc_opensClause l D cy (x0 := q_value)) q_m_X3_47 ms_X3_opensClause ⟨(Nat.le_of_ble_eq_true rfl), (Nat.le_of_ble_eq_true rfl)⟩ [] rfl rfl rfl (Nat.le_of_ble_eq_true rfl) ⟨(Nat.le_of_ble_eq_true rfl), (Nat.le_of_ble_eq_true rfl)⟩ dX3_readClause_18 (fun r_37 er_37 => ?_)
    have er_37 : (r_37.toInt = 0 ∨ r_37.toInt = 1) ∧ ((r_37.toInt ≠ 0 → q_value.toInt = 13 ∨ q_value.toInt = 10 ∨ q_value.toInt = 1 ∨ q_value.toInt = 0)) := er_37
    obtain ⟨er_37a, er_37b⟩ := er_37
    refine lv_if_ne (tgt := 36) hx hb dX3_readClause_21 (by decide) (fun c_38 => ?_) (fun c_38 => ?_)
    · have ic_38 : r_37.toInt ≠ 0 := k_ne c_38 rfl (by decide)
      have fc_38 := er_37b ic_38
      clear er_37b er_37a
      refine lv_iload_n hx hb dX3_readClause_36 rfl (lv_at hl 3 rfl) ?_
      refine lv_bipush (v := 40) hx hb dX3_readClause_37 (by decide) ?_
      refine lv_icmp_ge (tgt := 73) hx hb dX3_readClause_39 (by decide) (fun c_39 => ?_) (fun c_39 => ?_)
      · have ic_39 : 40 ≤ x0.toInt := k_le c_39 (by decide) rfl
        refine lv_aload_n hx hb dX3_readClause_73 rfl (lv_at hl 2 rfl) ?_
        refine lv_aload_n hx hb dX3_readClause_74 rfl (lv_at hl 2 rfl) ?_
        refine va_get (D := D) (ci := 10) (v := .int q_place) (C := RX10) (T := TX10) (N := 11) hx hb hG inG_X10 hown hE.1 hP 3 rfl rfl 9 (by decide) (hG _ q_f_X3_51) (fun _ h9 => h9) rfl dX3_readClause_75 ?_
        refine lv_iconst (v := 4) hx hb dX3_readClause_78 (by decide) ?_
        have lt32_39 : (4 : Int32).toInt = 4 := by decide
        refine kwVV (wr := [(o, .inr (3, [.ref od])), (od, .inr (1, [.ref od_c])), (od_c, .inl (cy 0, 63, .inl g_od)), (q_by, .inl (cy 0, 400, .inl g_qby)), (q_ki, .inl (cy 0, 401, .inl g_qki)), (q_va, .inl (cy 0, 401, .inl g_qva)), (q_pl, .inl (cy 0, 401, .inl g_qpl))]) (As := [.int q_place, .int 4]) (rest := []) F hE hP hD hS hA hl.1 (cc_X10_failAt l D cy (o := q) (x0 := q_place) (x1 := 4) (o_by := q_by) (o_len := q_len) (o_ki := q_ki) (o_va := q_va) (o_pl := q_pl) (o_tok := q_tok) (o_at := q_at) (o_kind := q_kind) (o_value := q_value) (o_place := q_place) (o_fault := q_fault) (p0 := (by first | omega | assumption)) (p1 := (by first | omega | assumption)) (p2 := (by first | omega | assumption)) (p3 := (by first | omega | assumption))) q_m_X3_54 mv_X10_failAt ⟨(Nat.le_of_ble_eq_true rfl), (Nat.le_of_ble_eq_true rfl)⟩ [3] [0, 1, 2, 4, 5, 6, 7] (by decide) rfl rfl (by decide) (by decide) rfl rfl rfl rfl rfl (Nat.le_of_ble_eq_true rfl) ⟨(Nat.le_of_ble_eq_true rfl), (Nat.le_of_ble_eq_true rfl)⟩ dX3_readClause_79 (fun u_41 H locs eu_41 hP hD hS => ?_)
        have eu_41 : (u_41.toInt ≠ 0) := eu_41
        have hP : va_P D vwCl [(o, .inr (3, [.ref od])), (od, .inr (1, [.ref od_c])), (od_c, .inl (cy 0, 63, .inl g_od)), (q_by, .inl (cy 0, 400, .inl g_qby)), (q_ki, .inl (cy 0, 401, .inl g_qki)), (q_va, .inl (cy 0, 401, .inl g_qva)), (q_pl, .inl (cy 0, 401, .inl g_qpl)), (q, .inr (10, [.ref q_by, .int q_len, .ref q_ki, .ref q_va, .ref q_pl, .int q_tok, .int q_at, .int q_kind, .int q_value, .int q_place, .int u_41]))] H := hP
        have hD : va_D A [(o, .inr (3, [.ref od])), (od, .inr (1, [.ref od_c])), (od_c, .inl (cy 0, 63, .inl g_od)), (q_by, .inl (cy 0, 400, .inl g_qby)), (q_ki, .inl (cy 0, 401, .inl g_qki)), (q_va, .inl (cy 0, 401, .inl g_qva)), (q_pl, .inl (cy 0, 401, .inl g_qpl)), (q, .inr (10, [.ref q_by, .int q_len, .ref q_ki, .ref q_va, .ref q_pl, .int q_tok, .int q_at, .int q_kind, .int q_value, .int q_place, .int u_41]))] := hD
        refine lv_goto (tgt := 95) hx hb dX3_readClause_82 (by decide) ?_
        exact KV.rt ⟨g_od, q_at, q_kind, q_value, q_place, u_41⟩ F (hP.sub [0, 1, 2, 7, 3, 4, 5, 6] rfl) (hD.sub [0, 1, 2, 7, 3, 4, 5, 6] (by decide) rfl) hS (show DV g_od ∧ (-1 ≤ q_at.toInt) ∧ (q_at.toInt ≤ 400) ∧ (q_kind.toInt = 1 ∨ q_kind.toInt = 3 → 0 ≤ q_value.toInt ∧ q_value.toInt ≤ 99999) ∧ (0 ≤ q_place.toInt) ∧ (q_place.toInt ≤ 400) ∧ (u_41.toInt = 0 → FV g_od) from ⟨h_g_od, (by first | omega | assumption), (by first | omega | assumption), (by first | omega | assumption), (by first | omega | assumption), (by first | omega | assumption), (by first | exact p8 | (intro q0; exfalso; omega) | (intro q0; exact p8 (by omega)))⟩) (Nat.le_of_ble_eq_true rfl) (Nat.le_of_ble_eq_true rfl) dX3_readClause_95
      · have ic_39 : x0.toInt < 40 := k_nle c_39 (by decide) rfl
        refine lv_iload_n hx hb dX3_readClause_42 rfl (lv_at hl 0 rfl) ?_
        refine lv_bipush (v := 13) hx hb dX3_readClause_43 (by decide) ?_
        refine lv_icmp_ne (tgt := 52) hx hb dX3_readClause_45 (by decide) (fun c_43 => ?_) (fun c_43 => ?_)
        · have ic_43 : q_value.toInt ≠ 13 := k_ne c_43 rfl (by decide)
          refine lv_iconst (v := 0) hx hb dX3_readClause_52 (by decide) ?_
          refine lv_iload_n hx hb dX3_readClause_53 rfl (lv_at hl 3 rfl) ?_
          refine lv_if_ne (tgt := 61) hx hb dX3_readClause_54 (by decide) (fun c_44 => ?_) (fun c_44 => ?_)
          · have ic_44 : x0.toInt ≠ 0 := k_ne c_44 rfl (by decide)
            refine lv_iconst (v := 0) hx hb dX3_readClause_61 (by decide) ?_
            refine lv_icmp_ne (tgt := 73) hx hb dX3_readClause_62 (by decide) (fun q => absurd q (by decide)) (fun _ => ?_)
            refine lv_aload_n hx hb dX3_readClause_65 rfl (lv_at hl 1 rfl) ?_
            refine lv_iload_n hx hb dX3_readClause_66 rfl (lv_at hl 0 rfl) ?_
            refine kcV (As := [.int q_value]) (rest := []) F hE hP hl.1 (cc_X3_isFullOf l D cy (o := o) (x0 := q_value) (od := od) (od_c := od_c) (g_od := g_od) (h_g_od := h_g_od)) q_m_X3_58 mv_X3_isFullOf ⟨(Nat.le_of_ble_eq_true rfl), (Nat.le_of_ble_eq_true rfl)⟩ [0, 1, 2] rfl rfl rfl rfl rfl rfl (Nat.le_of_ble_eq_true rfl) ⟨(Nat.le_of_ble_eq_true rfl), (Nat.le_of_ble_eq_true rfl)⟩ dX3_readClause_67 (fun r_45 er_45 => ?_)
            have er_45 : (r_45.toInt = 0 ∨ r_45.toInt = 1) ∧ ((r_45.toInt = 0 → (q_value.toInt = 10 → (g_od 2).toInt ≤ 11) ∧ (q_value.toInt = 1 → (g_od 3).toInt ≤ 5) ∧ (q_value.toInt = 0 → (g_od 4).toInt ≤ 4))) := er_45
            obtain ⟨er_45a, er_45b⟩ := er_45
            refine lv_if_eq (tgt := 85) hx hb dX3_readClause_70 (by decide) (fun c_46 => ?_) (fun c_46 => ?_)
            · have ic_46 : r_45.toInt = 0 := k_eq c_46 rfl (by decide)
              have fc_46 := er_45b ic_46
              clear er_45b er_45a
              obtain ⟨fc_46a, fc_46b, fc_46c⟩ := fc_46
              refine lv_aload_n hx hb dX3_readClause_85 rfl (lv_at hl 2 rfl) ?_
              refine kwVV (wr := [(o, .inr (3, [.ref od])), (od, .inr (1, [.ref od_c])), (od_c, .inl (cy 0, 63, .inl g_od))]) (As := []) (rest := []) F hE hP hD hS hA hl.1 (cc_X10_advance l D cy (o := q) (o_by := q_by) (o_len := q_len) (o_ki := q_ki) (o_va := q_va) (o_pl := q_pl) (o_tok := q_tok) (o_at := q_at) (o_kind := q_kind) (o_value := q_value) (o_place := q_place) (o_fault := q_fault) (g_oby := g_qby) (g_oki := g_qki) (g_ova := g_qva) (g_opl := g_qpl) (p0 := (by first | omega | assumption)) (p1 := (by first | omega | assumption)) (p2 := (by first | omega | assumption)) (p3 := (by first | omega | assumption)) (p4 := (by first | omega | assumption)) (p5 := (by first | omega | assumption)) (p6 := (by first | omega | assumption)) (p7 := (by first | omega | assumption))) q_m_X3_61 mv_X10_advance ⟨(Nat.le_of_ble_eq_true rfl), (Nat.le_of_ble_eq_true rfl)⟩ [3, 4, 5, 6, 7] [0, 1, 2] (by decide) rfl rfl (by decide) (by decide) rfl rfl rfl rfl rfl (Nat.le_of_ble_eq_true rfl) ⟨(Nat.le_of_ble_eq_true rfl), (Nat.le_of_ble_eq_true rfl)⟩ dX3_readClause_86 (fun u_47 H locs eu_47 hP hD hS => ?_)
              obtain ⟨o_at_48, o_kind_49, o_value_50, o_place_51⟩ := u_47
              have eu_47 : (-1 ≤ o_at_48.toInt) ∧ (o_at_48.toInt ≤ 400) ∧ (o_kind_49.toInt = 1 ∨ o_kind_49.toInt = 3 → 0 ≤ o_value_50.toInt ∧ o_value_50.toInt ≤ 99999) ∧ (0 ≤ o_place_51.toInt) ∧ (o_place_51.toInt ≤ 400) := eu_47
              obtain ⟨eu_47a, eu_47b, eu_47c, eu_47d, eu_47e⟩ := eu_47
              have hP : va_P D vwCl [(o, .inr (3, [.ref od])), (od, .inr (1, [.ref od_c])), (od_c, .inl (cy 0, 63, .inl g_od)), (q, .inr (10, [.ref q_by, .int q_len, .ref q_ki, .ref q_va, .ref q_pl, .int q_tok, .int o_at_48, .int o_kind_49, .int o_value_50, .int o_place_51, .int q_fault])), (q_by, .inl (cy 0, 400, .inl g_qby)), (q_ki, .inl (cy 0, 401, .inl g_qki)), (q_va, .inl (cy 0, 401, .inl g_qva)), (q_pl, .inl (cy 0, 401, .inl g_qpl))] H := hP
              have hD : va_D A [(o, .inr (3, [.ref od])), (od, .inr (1, [.ref od_c])), (od_c, .inl (cy 0, 63, .inl g_od)), (q, .inr (10, [.ref q_by, .int q_len, .ref q_ki, .ref q_va, .ref q_pl, .int q_tok, .int o_at_48, .int o_kind_49, .int o_value_50, .int o_place_51, .int q_fault])), (q_by, .inl (cy 0, 400, .inl g_qby)), (q_ki, .inl (cy 0, 401, .inl g_qki)), (q_va, .inl (cy 0, 401, .inl g_qva)), (q_pl, .inl (cy 0, 401, .inl g_qpl))] := hD
              refine lv_aload_n hx hb dX3_readClause_89 rfl (lv_at hl 1 rfl) ?_
              refine lv_aload_n hx hb dX3_readClause_90 rfl (lv_at hl 2 rfl) ?_
              refine lv_iload_n hx hb dX3_readClause_91 rfl (lv_at hl 0 rfl) ?_
              refine kwVV (wr := []) (As := [.ref q, .int q_value]) (rest := []) F hE hP hD hS hA hl.1 (cc_X3_readNumbers l D cy (o := o) (q := q) (x0 := q_value) (od := od) (od_c := od_c) (g_od := g_od) (q_by := q_by) (q_len := q_len) (q_ki := q_ki) (q_va := q_va) (q_pl := q_pl) (q_tok := q_tok) (q_at := o_at_48) (q_kind := o_kind_49) (q_value := o_value_50) (q_place := o_place_51) (q_fault := q_fault) (g_qby := g_qby) (g_qki := g_qki) (g_qva := g_qva) (g_qpl := g_qpl) (h_g_od := h_g_od) (p0 := (by first | omega | assumption)) (p1 := (by first | omega | assumption)) (p2 := (by first | omega | assumption)) (p3 := (by first | omega | assumption)) (p4 := (by first | omega | assumption)) (p5 := (by first | omega | assumption)) (p6 := (by first | omega | assumption)) (p7 := (by first | omega | assumption)) (p8 := (by first | omega | assumption)) (p9 := (by first | omega | assumption)) (p10 := (by first | omega | assumption)) (p11 := (by first | omega | assumption)) (p12 := (by first | omega | assumption))) q_m_X3_64 mv_X3_readNumbers ⟨(Nat.le_of_ble_eq_true rfl), (Nat.le_of_ble_eq_true rfl)⟩ [0, 1, 2, 3, 4, 5, 6, 7] [] (by decide) rfl rfl (by decide) (by decide) rfl rfl rfl rfl rfl (Nat.le_of_ble_eq_true rfl) ⟨(Nat.le_of_ble_eq_true rfl), (Nat.le_of_ble_eq_true rfl)⟩ dX3_readClause_92 (fun u_52 H locs eu_52 hP hD hS => ?_)
              obtain ⟨g_od_53, q_at_54, q_kind_55, q_value_56, q_place_57, q_fault_58⟩ := u_52
              have eu_52 : DV g_od_53 ∧ (-1 ≤ q_at_54.toInt) ∧ (q_at_54.toInt ≤ 400) ∧ (q_kind_55.toInt = 1 ∨ q_kind_55.toInt = 3 → 0 ≤ q_value_56.toInt ∧ q_value_56.toInt ≤ 99999) ∧ (0 ≤ q_place_57.toInt) ∧ (q_place_57.toInt ≤ 400) ∧ (q_fault_58.toInt = 0 → FV g_od_53) := eu_52
              obtain ⟨eu_52a, eu_52b, eu_52c, eu_52d, eu_52e, eu_52f, eu_52g⟩ := eu_52
              have hP : va_P D vwCl [(o, .inr (3, [.ref od])), (od, .inr (1, [.ref od_c])), (od_c, .inl (cy 0, 63, .inl g_od_53)), (q, .inr (10, [.ref q_by, .int q_len, .ref q_ki, .ref q_va, .ref q_pl, .int q_tok, .int q_at_54, .int q_kind_55, .int q_value_56, .int q_place_57, .int q_fault_58])), (q_by, .inl (cy 0, 400, .inl g_qby)), (q_ki, .inl (cy 0, 401, .inl g_qki)), (q_va, .inl (cy 0, 401, .inl g_qva)), (q_pl, .inl (cy 0, 401, .inl g_qpl))] H := hP
              have hD : va_D A [(o, .inr (3, [.ref od])), (od, .inr (1, [.ref od_c])), (od_c, .inl (cy 0, 63, .inl g_od_53)), (q, .inr (10, [.ref q_by, .int q_len, .ref q_ki, .ref q_va, .ref q_pl, .int q_tok, .int q_at_54, .int q_kind_55, .int q_value_56, .int q_place_57, .int q_fault_58])), (q_by, .inl (cy 0, 400, .inl g_qby)), (q_ki, .inl (cy 0, 401, .inl g_qki)), (q_va, .inl (cy 0, 401, .inl g_qva)), (q_pl, .inl (cy 0, 401, .inl g_qpl))] := hD
              obtain ⟨⟨b_59a, b_59b⟩, ⟨b_59c, b_59d⟩, ⟨b_59e, b_59f⟩⟩ := DV.bounds eu_52a
              exact KV.rt ⟨g_od_53, q_at_54, q_kind_55, q_value_56, q_place_57, q_fault_58⟩ F (hP.sub [0, 1, 2, 3, 4, 5, 6, 7] rfl) (hD.sub [0, 1, 2, 3, 4, 5, 6, 7] (by decide) rfl) hS (show DV g_od_53 ∧ (-1 ≤ q_at_54.toInt) ∧ (q_at_54.toInt ≤ 400) ∧ (q_kind_55.toInt = 1 ∨ q_kind_55.toInt = 3 → 0 ≤ q_value_56.toInt ∧ q_value_56.toInt ≤ 99999) ∧ (0 ≤ q_place_57.toInt) ∧ (q_place_57.toInt ≤ 400) ∧ (q_fault_58.toInt = 0 → FV g_od_53) from ⟨eu_52a, (by first | omega | assumption), (by first | omega | assumption), (by first | omega | assumption), (by first | omega | assumption), (by first | omega | assumption), (by first | exact eu_52g | (intro q0; exfalso; omega) | (intro q0; exact eu_52g (by omega)))⟩) (Nat.le_of_ble_eq_true rfl) (Nat.le_of_ble_eq_true rfl) dX3_readClause_95
            · have ic_46 : r_45.toInt ≠ 0 := k_ne c_46 rfl (by decide)
              clear er_45b er_45a
              refine lv_aload_n hx hb dX3_readClause_73 rfl (lv_at hl 2 rfl) ?_
              refine lv_aload_n hx hb dX3_readClause_74 rfl (lv_at hl 2 rfl) ?_
              refine va_get (D := D) (ci := 10) (v := .int q_place) (C := RX10) (T := TX10) (N := 11) hx hb hG inG_X10 hown hE.1 hP 3 rfl rfl 9 (by decide) (hG _ q_f_X3_51) (fun _ h9 => h9) rfl dX3_readClause_75 ?_
              refine lv_iconst (v := 4) hx hb dX3_readClause_78 (by decide) ?_
              have lt32_59 : (4 : Int32).toInt = 4 := by decide
              refine kwVV (wr := [(o, .inr (3, [.ref od])), (od, .inr (1, [.ref od_c])), (od_c, .inl (cy 0, 63, .inl g_od)), (q_by, .inl (cy 0, 400, .inl g_qby)), (q_ki, .inl (cy 0, 401, .inl g_qki)), (q_va, .inl (cy 0, 401, .inl g_qva)), (q_pl, .inl (cy 0, 401, .inl g_qpl))]) (As := [.int q_place, .int 4]) (rest := []) F hE hP hD hS hA hl.1 (cc_X10_failAt l D cy (o := q) (x0 := q_place) (x1 := 4) (o_by := q_by) (o_len := q_len) (o_ki := q_ki) (o_va := q_va) (o_pl := q_pl) (o_tok := q_tok) (o_at := q_at) (o_kind := q_kind) (o_value := q_value) (o_place := q_place) (o_fault := q_fault) (p0 := (by first | omega | assumption)) (p1 := (by first | omega | assumption)) (p2 := (by first | omega | assumption)) (p3 := (by first | omega | assumption))) q_m_X3_54 mv_X10_failAt ⟨(Nat.le_of_ble_eq_true rfl), (Nat.le_of_ble_eq_true rfl)⟩ [3] [0, 1, 2, 4, 5, 6, 7] (by decide) rfl rfl (by decide) (by decide) rfl rfl rfl rfl rfl (Nat.le_of_ble_eq_true rfl) ⟨(Nat.le_of_ble_eq_true rfl), (Nat.le_of_ble_eq_true rfl)⟩ dX3_readClause_79 (fun u_61 H locs eu_61 hP hD hS => ?_)
              have eu_61 : (u_61.toInt ≠ 0) := eu_61
              have hP : va_P D vwCl [(o, .inr (3, [.ref od])), (od, .inr (1, [.ref od_c])), (od_c, .inl (cy 0, 63, .inl g_od)), (q_by, .inl (cy 0, 400, .inl g_qby)), (q_ki, .inl (cy 0, 401, .inl g_qki)), (q_va, .inl (cy 0, 401, .inl g_qva)), (q_pl, .inl (cy 0, 401, .inl g_qpl)), (q, .inr (10, [.ref q_by, .int q_len, .ref q_ki, .ref q_va, .ref q_pl, .int q_tok, .int q_at, .int q_kind, .int q_value, .int q_place, .int u_61]))] H := hP
              have hD : va_D A [(o, .inr (3, [.ref od])), (od, .inr (1, [.ref od_c])), (od_c, .inl (cy 0, 63, .inl g_od)), (q_by, .inl (cy 0, 400, .inl g_qby)), (q_ki, .inl (cy 0, 401, .inl g_qki)), (q_va, .inl (cy 0, 401, .inl g_qva)), (q_pl, .inl (cy 0, 401, .inl g_qpl)), (q, .inr (10, [.ref q_by, .int q_len, .ref q_ki, .ref q_va, .ref q_pl, .int q_tok, .int q_at, .int q_kind, .int q_value, .int q_place, .int u_61]))] := hD
              refine lv_goto (tgt := 95) hx hb dX3_readClause_82 (by decide) ?_
              exact KV.rt ⟨g_od, q_at, q_kind, q_value, q_place, u_61⟩ F (hP.sub [0, 1, 2, 7, 3, 4, 5, 6] rfl) (hD.sub [0, 1, 2, 7, 3, 4, 5, 6] (by decide) rfl) hS (show DV g_od ∧ (-1 ≤ q_at.toInt) ∧ (q_at.toInt ≤ 400) ∧ (q_kind.toInt = 1 ∨ q_kind.toInt = 3 → 0 ≤ q_value.toInt ∧ q_value.toInt ≤ 99999) ∧ (0 ≤ q_place.toInt) ∧ (q_place.toInt ≤ 400) ∧ (u_61.toInt = 0 → FV g_od) from ⟨h_g_od, (by first | omega | assumption), (by first | omega | assumption), (by first | omega | assumption), (by first | omega | assumption), (by first | omega | assumption), (by first | exact p8 | (intro q0; exfalso; omega) | (intro q0; exact p8 (by omega)))⟩) (Nat.le_of_ble_eq_true rfl) (Nat.le_of_ble_eq_true rfl) dX3_readClause_95
          · have ic_44 : x0.toInt = 0 := k_eq c_44 rfl (by decide)
            refine lv_iconst (v := 1) hx hb dX3_readClause_57 (by decide) ?_
            refine lv_goto (tgt := 62) hx hb dX3_readClause_58 (by decide) ?_
            refine lv_icmp_ne (tgt := 73) hx hb dX3_readClause_62 (by decide) (fun _ => ?_) (fun q => absurd q (by decide))
            refine lv_aload_n hx hb dX3_readClause_73 rfl (lv_at hl 2 rfl) ?_
            refine lv_aload_n hx hb dX3_readClause_74 rfl (lv_at hl 2 rfl) ?_
            refine va_get (D := D) (ci := 10) (v := .int q_place) (C := RX10) (T := TX10) (N := 11) hx hb hG inG_X10 hown hE.1 hP 3 rfl rfl 9 (by decide) (hG _ q_f_X3_51) (fun _ h9 => h9) rfl dX3_readClause_75 ?_
            refine lv_iconst (v := 4) hx hb dX3_readClause_78 (by decide) ?_
            have lt32_62 : (4 : Int32).toInt = 4 := by decide
            refine kwVV (wr := [(o, .inr (3, [.ref od])), (od, .inr (1, [.ref od_c])), (od_c, .inl (cy 0, 63, .inl g_od)), (q_by, .inl (cy 0, 400, .inl g_qby)), (q_ki, .inl (cy 0, 401, .inl g_qki)), (q_va, .inl (cy 0, 401, .inl g_qva)), (q_pl, .inl (cy 0, 401, .inl g_qpl))]) (As := [.int q_place, .int 4]) (rest := []) F hE hP hD hS hA hl.1 (cc_X10_failAt l D cy (o := q) (x0 := q_place) (x1 := 4) (o_by := q_by) (o_len := q_len) (o_ki := q_ki) (o_va := q_va) (o_pl := q_pl) (o_tok := q_tok) (o_at := q_at) (o_kind := q_kind) (o_value := q_value) (o_place := q_place) (o_fault := q_fault) (p0 := (by first | omega | assumption)) (p1 := (by first | omega | assumption)) (p2 := (by first | omega | assumption)) (p3 := (by first | omega | assumption))) q_m_X3_54 mv_X10_failAt ⟨(Nat.le_of_ble_eq_true rfl), (Nat.le_of_ble_eq_true rfl)⟩ [3] [0, 1, 2, 4, 5, 6, 7] (by decide) rfl rfl (by decide) (by decide) rfl rfl rfl rfl rfl (Nat.le_of_ble_eq_true rfl) ⟨(Nat.le_of_ble_eq_true rfl), (Nat.le_of_ble_eq_true rfl)⟩ dX3_readClause_79 (fun u_64 H locs eu_64 hP hD hS => ?_)
            have eu_64 : (u_64.toInt ≠ 0) := eu_64
            have hP : va_P D vwCl [(o, .inr (3, [.ref od])), (od, .inr (1, [.ref od_c])), (od_c, .inl (cy 0, 63, .inl g_od)), (q_by, .inl (cy 0, 400, .inl g_qby)), (q_ki, .inl (cy 0, 401, .inl g_qki)), (q_va, .inl (cy 0, 401, .inl g_qva)), (q_pl, .inl (cy 0, 401, .inl g_qpl)), (q, .inr (10, [.ref q_by, .int q_len, .ref q_ki, .ref q_va, .ref q_pl, .int q_tok, .int q_at, .int q_kind, .int q_value, .int q_place, .int u_64]))] H := hP
            have hD : va_D A [(o, .inr (3, [.ref od])), (od, .inr (1, [.ref od_c])), (od_c, .inl (cy 0, 63, .inl g_od)), (q_by, .inl (cy 0, 400, .inl g_qby)), (q_ki, .inl (cy 0, 401, .inl g_qki)), (q_va, .inl (cy 0, 401, .inl g_qva)), (q_pl, .inl (cy 0, 401, .inl g_qpl)), (q, .inr (10, [.ref q_by, .int q_len, .ref q_ki, .ref q_va, .ref q_pl, .int q_tok, .int q_at, .int q_kind, .int q_value, .int q_place, .int u_64]))] := hD
            refine lv_goto (tgt := 95) hx hb dX3_readClause_82 (by decide) ?_
            exact KV.rt ⟨g_od, q_at, q_kind, q_value, q_place, u_64⟩ F (hP.sub [0, 1, 2, 7, 3, 4, 5, 6] rfl) (hD.sub [0, 1, 2, 7, 3, 4, 5, 6] (by decide) rfl) hS (show DV g_od ∧ (-1 ≤ q_at.toInt) ∧ (q_at.toInt ≤ 400) ∧ (q_kind.toInt = 1 ∨ q_kind.toInt = 3 → 0 ≤ q_value.toInt ∧ q_value.toInt ≤ 99999) ∧ (0 ≤ q_place.toInt) ∧ (q_place.toInt ≤ 400) ∧ (u_64.toInt = 0 → FV g_od) from ⟨h_g_od, (by first | omega | assumption), (by first | omega | assumption), (by first | omega | assumption), (by first | omega | assumption), (by first | omega | assumption), (by first | exact p8 | (intro q0; exfalso; omega) | (intro q0; exact p8 (by omega)))⟩) (Nat.le_of_ble_eq_true rfl) (Nat.le_of_ble_eq_true rfl) dX3_readClause_95
        · have ic_43 : q_value.toInt = 13 := k_eq c_43 rfl (by decide)
          refine lv_iconst (v := 1) hx hb dX3_readClause_48 (by decide) ?_
          refine lv_goto (tgt := 53) hx hb dX3_readClause_49 (by decide) ?_
          refine lv_iload_n hx hb dX3_readClause_53 rfl (lv_at hl 3 rfl) ?_
          refine lv_if_ne (tgt := 61) hx hb dX3_readClause_54 (by decide) (fun c_66 => ?_) (fun c_66 => ?_)
          · have ic_66 : x0.toInt ≠ 0 := k_ne c_66 rfl (by decide)
            refine lv_iconst (v := 0) hx hb dX3_readClause_61 (by decide) ?_
            refine lv_icmp_ne (tgt := 73) hx hb dX3_readClause_62 (by decide) (fun _ => ?_) (fun q => absurd q (by decide))
            refine lv_aload_n hx hb dX3_readClause_73 rfl (lv_at hl 2 rfl) ?_
            refine lv_aload_n hx hb dX3_readClause_74 rfl (lv_at hl 2 rfl) ?_
            refine va_get (D := D) (ci := 10) (v := .int q_place) (C := RX10) (T := TX10) (N := 11) hx hb hG inG_X10 hown hE.1 hP 3 rfl rfl 9 (by decide) (hG _ q_f_X3_51) (fun _ h9 => h9) rfl dX3_readClause_75 ?_
            refine lv_iconst (v := 4) hx hb dX3_readClause_78 (by decide) ?_
            have lt32_66 : (4 : Int32).toInt = 4 := by decide
            refine kwVV (wr := [(o, .inr (3, [.ref od])), (od, .inr (1, [.ref od_c])), (od_c, .inl (cy 0, 63, .inl g_od)), (q_by, .inl (cy 0, 400, .inl g_qby)), (q_ki, .inl (cy 0, 401, .inl g_qki)), (q_va, .inl (cy 0, 401, .inl g_qva)), (q_pl, .inl (cy 0, 401, .inl g_qpl))]) (As := [.int q_place, .int 4]) (rest := []) F hE hP hD hS hA hl.1 (cc_X10_failAt l D cy (o := q) (x0 := q_place) (x1 := 4) (o_by := q_by) (o_len := q_len) (o_ki := q_ki) (o_va := q_va) (o_pl := q_pl) (o_tok := q_tok) (o_at := q_at) (o_kind := q_kind) (o_value := q_value) (o_place := q_place) (o_fault := q_fault) (p0 := (by first | omega | assumption)) (p1 := (by first | omega | assumption)) (p2 := (by first | omega | assumption)) (p3 := (by first | omega | assumption))) q_m_X3_54 mv_X10_failAt ⟨(Nat.le_of_ble_eq_true rfl), (Nat.le_of_ble_eq_true rfl)⟩ [3] [0, 1, 2, 4, 5, 6, 7] (by decide) rfl rfl (by decide) (by decide) rfl rfl rfl rfl rfl (Nat.le_of_ble_eq_true rfl) ⟨(Nat.le_of_ble_eq_true rfl), (Nat.le_of_ble_eq_true rfl)⟩ dX3_readClause_79 (fun u_68 H locs eu_68 hP hD hS => ?_)
            have eu_68 : (u_68.toInt ≠ 0) := eu_68
            have hP : va_P D vwCl [(o, .inr (3, [.ref od])), (od, .inr (1, [.ref od_c])), (od_c, .inl (cy 0, 63, .inl g_od)), (q_by, .inl (cy 0, 400, .inl g_qby)), (q_ki, .inl (cy 0, 401, .inl g_qki)), (q_va, .inl (cy 0, 401, .inl g_qva)), (q_pl, .inl (cy 0, 401, .inl g_qpl)), (q, .inr (10, [.ref q_by, .int q_len, .ref q_ki, .ref q_va, .ref q_pl, .int q_tok, .int q_at, .int q_kind, .int q_value, .int q_place, .int u_68]))] H := hP
            have hD : va_D A [(o, .inr (3, [.ref od])), (od, .inr (1, [.ref od_c])), (od_c, .inl (cy 0, 63, .inl g_od)), (q_by, .inl (cy 0, 400, .inl g_qby)), (q_ki, .inl (cy 0, 401, .inl g_qki)), (q_va, .inl (cy 0, 401, .inl g_qva)), (q_pl, .inl (cy 0, 401, .inl g_qpl)), (q, .inr (10, [.ref q_by, .int q_len, .ref q_ki, .ref q_va, .ref q_pl, .int q_tok, .int q_at, .int q_kind, .int q_value, .int q_place, .int u_68]))] := hD
            refine lv_goto (tgt := 95) hx hb dX3_readClause_82 (by decide) ?_
            exact KV.rt ⟨g_od, q_at, q_kind, q_value, q_place, u_68⟩ F (hP.sub [0, 1, 2, 7, 3, 4, 5, 6] rfl) (hD.sub [0, 1, 2, 7, 3, 4, 5, 6] (by decide) rfl) hS (show DV g_od ∧ (-1 ≤ q_at.toInt) ∧ (q_at.toInt ≤ 400) ∧ (q_kind.toInt = 1 ∨ q_kind.toInt = 3 → 0 ≤ q_value.toInt ∧ q_value.toInt ≤ 99999) ∧ (0 ≤ q_place.toInt) ∧ (q_place.toInt ≤ 400) ∧ (u_68.toInt = 0 → FV g_od) from ⟨h_g_od, (by first | omega | assumption), (by first | omega | assumption), (by first | omega | assumption), (by first | omega | assumption), (by first | omega | assumption), (by first | exact p8 | (intro q0; exfalso; omega) | (intro q0; exact p8 (by omega)))⟩) (Nat.le_of_ble_eq_true rfl) (Nat.le_of_ble_eq_true rfl) dX3_readClause_95
          · have ic_66 : x0.toInt = 0 := k_eq c_66 rfl (by decide)
            refine lv_iconst (v := 1) hx hb dX3_readClause_57 (by decide) ?_
            refine lv_goto (tgt := 62) hx hb dX3_readClause_58 (by decide) ?_
            refine lv_icmp_ne (tgt := 73) hx hb dX3_readClause_62 (by decide) (fun q => absurd q (by decide)) (fun _ => ?_)
            refine lv_aload_n hx hb dX3_readClause_65 rfl (lv_at hl 1 rfl) ?_
            refine lv_iload_n hx hb dX3_readClause_66 rfl (lv_at hl 0 rfl) ?_
            refine kcV (As := [.int q_value]) (rest := []) F hE hP hl.1 (cc_X3_isFullOf l D cy (o := o) (x0 := q_value) (od := od) (od_c := od_c) (g_od := g_od) (h_g_od := h_g_od)) q_m_X3_58 mv_X3_isFullOf ⟨(Nat.le_of_ble_eq_true rfl), (Nat.le_of_ble_eq_true rfl)⟩ [0, 1, 2] rfl rfl rfl rfl rfl rfl (Nat.le_of_ble_eq_true rfl) ⟨(Nat.le_of_ble_eq_true rfl), (Nat.le_of_ble_eq_true rfl)⟩ dX3_readClause_67 (fun r_70 er_70 => ?_)
            have er_70 : (r_70.toInt = 0 ∨ r_70.toInt = 1) ∧ ((r_70.toInt = 0 → (q_value.toInt = 10 → (g_od 2).toInt ≤ 11) ∧ (q_value.toInt = 1 → (g_od 3).toInt ≤ 5) ∧ (q_value.toInt = 0 → (g_od 4).toInt ≤ 4))) := er_70
            obtain ⟨er_70a, er_70b⟩ := er_70
            refine lv_if_eq (tgt := 85) hx hb dX3_readClause_70 (by decide) (fun c_71 => ?_) (fun c_71 => ?_)
            · have ic_71 : r_70.toInt = 0 := k_eq c_71 rfl (by decide)
              have fc_71 := er_70b ic_71
              clear er_70b er_70a
              obtain ⟨fc_71a, fc_71b, fc_71c⟩ := fc_71
              refine lv_aload_n hx hb dX3_readClause_85 rfl (lv_at hl 2 rfl) ?_
              refine kwVV (wr := [(o, .inr (3, [.ref od])), (od, .inr (1, [.ref od_c])), (od_c, .inl (cy 0, 63, .inl g_od))]) (As := []) (rest := []) F hE hP hD hS hA hl.1 (cc_X10_advance l D cy (o := q) (o_by := q_by) (o_len := q_len) (o_ki := q_ki) (o_va := q_va) (o_pl := q_pl) (o_tok := q_tok) (o_at := q_at) (o_kind := q_kind) (o_value := q_value) (o_place := q_place) (o_fault := q_fault) (g_oby := g_qby) (g_oki := g_qki) (g_ova := g_qva) (g_opl := g_qpl) (p0 := (by first | omega | assumption)) (p1 := (by first | omega | assumption)) (p2 := (by first | omega | assumption)) (p3 := (by first | omega | assumption)) (p4 := (by first | omega | assumption)) (p5 := (by first | omega | assumption)) (p6 := (by first | omega | assumption)) (p7 := (by first | omega | assumption))) q_m_X3_61 mv_X10_advance ⟨(Nat.le_of_ble_eq_true rfl), (Nat.le_of_ble_eq_true rfl)⟩ [3, 4, 5, 6, 7] [0, 1, 2] (by decide) rfl rfl (by decide) (by decide) rfl rfl rfl rfl rfl (Nat.le_of_ble_eq_true rfl) ⟨(Nat.le_of_ble_eq_true rfl), (Nat.le_of_ble_eq_true rfl)⟩ dX3_readClause_86 (fun u_72 H locs eu_72 hP hD hS => ?_)
              obtain ⟨o_at_73, o_kind_74, o_value_75, o_place_76⟩ := u_72
              have eu_72 : (-1 ≤ o_at_73.toInt) ∧ (o_at_73.toInt ≤ 400) ∧ (o_kind_74.toInt = 1 ∨ o_kind_74.toInt = 3 → 0 ≤ o_value_75.toInt ∧ o_value_75.toInt ≤ 99999) ∧ (0 ≤ o_place_76.toInt) ∧ (o_place_76.toInt ≤ 400) := eu_72
              obtain ⟨eu_72a, eu_72b, eu_72c, eu_72d, eu_72e⟩ := eu_72
              have hP : va_P D vwCl [(o, .inr (3, [.ref od])), (od, .inr (1, [.ref od_c])), (od_c, .inl (cy 0, 63, .inl g_od)), (q, .inr (10, [.ref q_by, .int q_len, .ref q_ki, .ref q_va, .ref q_pl, .int q_tok, .int o_at_73, .int o_kind_74, .int o_value_75, .int o_place_76, .int q_fault])), (q_by, .inl (cy 0, 400, .inl g_qby)), (q_ki, .inl (cy 0, 401, .inl g_qki)), (q_va, .inl (cy 0, 401, .inl g_qva)), (q_pl, .inl (cy 0, 401, .inl g_qpl))] H := hP
              have hD : va_D A [(o, .inr (3, [.ref od])), (od, .inr (1, [.ref od_c])), (od_c, .inl (cy 0, 63, .inl g_od)), (q, .inr (10, [.ref q_by, .int q_len, .ref q_ki, .ref q_va, .ref q_pl, .int q_tok, .int o_at_73, .int o_kind_74, .int o_value_75, .int o_place_76, .int q_fault])), (q_by, .inl (cy 0, 400, .inl g_qby)), (q_ki, .inl (cy 0, 401, .inl g_qki)), (q_va, .inl (cy 0, 401, .inl g_qva)), (q_pl, .inl (cy 0, 401, .inl g_qpl))] := hD
              refine lv_aload_n hx hb dX3_readClause_89 rfl (lv_at hl 1 rfl) ?_
              refine lv_aload_n hx hb dX3_readClause_90 rfl (lv_at hl 2 rfl) ?_
              refine lv_iload_n hx hb dX3_readClause_91 rfl (lv_at hl 0 rfl) ?_
              refine kwVV (wr := []) (As := [.ref q, .int q_value]) (rest := []) F hE hP hD hS hA hl.1 (cc_X3_readNumbers l D cy (o := o) (q := q) (x0 := q_value) (od := od) (od_c := od_c) (g_od := g_od) (q_by := q_by) (q_len := q_len) (q_ki := q_ki) (q_va := q_va) (q_pl := q_pl) (q_tok := q_tok) (q_at := o_at_73) (q_kind := o_kind_74) (q_value := o_value_75) (q_place := o_place_76) (q_fault := q_fault) (g_qby := g_qby) (g_qki := g_qki) (g_qva := g_qva) (g_qpl := g_qpl) (h_g_od := h_g_od) (p0 := (by first | omega | assumption)) (p1 := (by first | omega | assumption)) (p2 := (by first | omega | assumption)) (p3 := (by first | omega | assumption)) (p4 := (by first | omega | assumption)) (p5 := (by first | omega | assumption)) (p6 := (by first | omega | assumption)) (p7 := (by first | omega | assumption)) (p8 := (by first | omega | assumption)) (p9 := (by first | omega | assumption)) (p10 := (by first | omega | assumption)) (p11 := (by first | omega | assumption)) (p12 := (by first | omega | assumption))) q_m_X3_64 mv_X3_readNumbers ⟨(Nat.le_of_ble_eq_true rfl), (Nat.le_of_ble_eq_true rfl)⟩ [0, 1, 2, 3, 4, 5, 6, 7] [] (by decide) rfl rfl (by decide) (by decide) rfl rfl rfl rfl rfl (Nat.le_of_ble_eq_true rfl) ⟨(Nat.le_of_ble_eq_true rfl), (Nat.le_of_ble_eq_true rfl)⟩ dX3_readClause_92 (fun u_77 H locs eu_77 hP hD hS => ?_)
              obtain ⟨g_od_78, q_at_79, q_kind_80, q_value_81, q_place_82, q_fault_83⟩ := u_77
              have eu_77 : DV g_od_78 ∧ (-1 ≤ q_at_79.toInt) ∧ (q_at_79.toInt ≤ 400) ∧ (q_kind_80.toInt = 1 ∨ q_kind_80.toInt = 3 → 0 ≤ q_value_81.toInt ∧ q_value_81.toInt ≤ 99999) ∧ (0 ≤ q_place_82.toInt) ∧ (q_place_82.toInt ≤ 400) ∧ (q_fault_83.toInt = 0 → FV g_od_78) := eu_77
              obtain ⟨eu_77a, eu_77b, eu_77c, eu_77d, eu_77e, eu_77f, eu_77g⟩ := eu_77
              have hP : va_P D vwCl [(o, .inr (3, [.ref od])), (od, .inr (1, [.ref od_c])), (od_c, .inl (cy 0, 63, .inl g_od_78)), (q, .inr (10, [.ref q_by, .int q_len, .ref q_ki, .ref q_va, .ref q_pl, .int q_tok, .int q_at_79, .int q_kind_80, .int q_value_81, .int q_place_82, .int q_fault_83])), (q_by, .inl (cy 0, 400, .inl g_qby)), (q_ki, .inl (cy 0, 401, .inl g_qki)), (q_va, .inl (cy 0, 401, .inl g_qva)), (q_pl, .inl (cy 0, 401, .inl g_qpl))] H := hP
              have hD : va_D A [(o, .inr (3, [.ref od])), (od, .inr (1, [.ref od_c])), (od_c, .inl (cy 0, 63, .inl g_od_78)), (q, .inr (10, [.ref q_by, .int q_len, .ref q_ki, .ref q_va, .ref q_pl, .int q_tok, .int q_at_79, .int q_kind_80, .int q_value_81, .int q_place_82, .int q_fault_83])), (q_by, .inl (cy 0, 400, .inl g_qby)), (q_ki, .inl (cy 0, 401, .inl g_qki)), (q_va, .inl (cy 0, 401, .inl g_qva)), (q_pl, .inl (cy 0, 401, .inl g_qpl))] := hD
              obtain ⟨⟨b_84a, b_84b⟩, ⟨b_84c, b_84d⟩, ⟨b_84e, b_84f⟩⟩ := DV.bounds eu_77a
              exact KV.rt ⟨g_od_78, q_at_79, q_kind_80, q_value_81, q_place_82, q_fault_83⟩ F (hP.sub [0, 1, 2, 3, 4, 5, 6, 7] rfl) (hD.sub [0, 1, 2, 3, 4, 5, 6, 7] (by decide) rfl) hS (show DV g_od_78 ∧ (-1 ≤ q_at_79.toInt) ∧ (q_at_79.toInt ≤ 400) ∧ (q_kind_80.toInt = 1 ∨ q_kind_80.toInt = 3 → 0 ≤ q_value_81.toInt ∧ q_value_81.toInt ≤ 99999) ∧ (0 ≤ q_place_82.toInt) ∧ (q_place_82.toInt ≤ 400) ∧ (q_fault_83.toInt = 0 → FV g_od_78) from ⟨eu_77a, (by first | omega | assumption), (by first | omega | assumption), (by first | omega | assumption), (by first | omega | assumption), (by first | omega | assumption), (by first | exact eu_77g | (intro q0; exfalso; omega) | (intro q0; exact eu_77g (by omega)))⟩) (Nat.le_of_ble_eq_true rfl) (Nat.le_of_ble_eq_true rfl) dX3_readClause_95
            · have ic_71 : r_70.toInt ≠ 0 := k_ne c_71 rfl (by decide)
              clear er_70b er_70a
              refine lv_aload_n hx hb dX3_readClause_73 rfl (lv_at hl 2 rfl) ?_
              refine lv_aload_n hx hb dX3_readClause_74 rfl (lv_at hl 2 rfl) ?_
              refine va_get (D := D) (ci := 10) (v := .int q_place) (C := RX10) (T := TX10) (N := 11) hx hb hG inG_X10 hown hE.1 hP 3 rfl rfl 9 (by decide) (hG _ q_f_X3_51) (fun _ h9 => h9) rfl dX3_readClause_75 ?_
              refine lv_iconst (v := 4) hx hb dX3_readClause_78 (by decide) ?_
              have lt32_84 : (4 : Int32).toInt = 4 := by decide
              refine kwVV (wr := [(o, .inr (3, [.ref od])), (od, .inr (1, [.ref od_c])), (od_c, .inl (cy 0, 63, .inl g_od)), (q_by, .inl (cy 0, 400, .inl g_qby)), (q_ki, .inl (cy 0, 401, .inl g_qki)), (q_va, .inl (cy 0, 401, .inl g_qva)), (q_pl, .inl (cy 0, 401, .inl g_qpl))]) (As := [.int q_place, .int 4]) (rest := []) F hE hP hD hS hA hl.1 (cc_X10_failAt l D cy (o := q) (x0 := q_place) (x1 := 4) (o_by := q_by) (o_len := q_len) (o_ki := q_ki) (o_va := q_va) (o_pl := q_pl) (o_tok := q_tok) (o_at := q_at) (o_kind := q_kind) (o_value := q_value) (o_place := q_place) (o_fault := q_fault) (p0 := (by first | omega | assumption)) (p1 := (by first | omega | assumption)) (p2 := (by first | omega | assumption)) (p3 := (by first | omega | assumption))) q_m_X3_54 mv_X10_failAt ⟨(Nat.le_of_ble_eq_true rfl), (Nat.le_of_ble_eq_true rfl)⟩ [3] [0, 1, 2, 4, 5, 6, 7] (by decide) rfl rfl (by decide) (by decide) rfl rfl rfl rfl rfl (Nat.le_of_ble_eq_true rfl) ⟨(Nat.le_of_ble_eq_true rfl), (Nat.le_of_ble_eq_true rfl)⟩ dX3_readClause_79 (fun u_86 H locs eu_86 hP hD hS => ?_)
              have eu_86 : (u_86.toInt ≠ 0) := eu_86
              have hP : va_P D vwCl [(o, .inr (3, [.ref od])), (od, .inr (1, [.ref od_c])), (od_c, .inl (cy 0, 63, .inl g_od)), (q_by, .inl (cy 0, 400, .inl g_qby)), (q_ki, .inl (cy 0, 401, .inl g_qki)), (q_va, .inl (cy 0, 401, .inl g_qva)), (q_pl, .inl (cy 0, 401, .inl g_qpl)), (q, .inr (10, [.ref q_by, .int q_len, .ref q_ki, .ref q_va, .ref q_pl, .int q_tok, .int q_at, .int q_kind, .int q_value, .int q_place, .int u_86]))] H := hP
              have hD : va_D A [(o, .inr (3, [.ref od])), (od, .inr (1, [.ref od_c])), (od_c, .inl (cy 0, 63, .inl g_od)), (q_by, .inl (cy 0, 400, .inl g_qby)), (q_ki, .inl (cy 0, 401, .inl g_qki)), (q_va, .inl (cy 0, 401, .inl g_qva)), (q_pl, .inl (cy 0, 401, .inl g_qpl)), (q, .inr (10, [.ref q_by, .int q_len, .ref q_ki, .ref q_va, .ref q_pl, .int q_tok, .int q_at, .int q_kind, .int q_value, .int q_place, .int u_86]))] := hD
              refine lv_goto (tgt := 95) hx hb dX3_readClause_82 (by decide) ?_
              exact KV.rt ⟨g_od, q_at, q_kind, q_value, q_place, u_86⟩ F (hP.sub [0, 1, 2, 7, 3, 4, 5, 6] rfl) (hD.sub [0, 1, 2, 7, 3, 4, 5, 6] (by decide) rfl) hS (show DV g_od ∧ (-1 ≤ q_at.toInt) ∧ (q_at.toInt ≤ 400) ∧ (q_kind.toInt = 1 ∨ q_kind.toInt = 3 → 0 ≤ q_value.toInt ∧ q_value.toInt ≤ 99999) ∧ (0 ≤ q_place.toInt) ∧ (q_place.toInt ≤ 400) ∧ (u_86.toInt = 0 → FV g_od) from ⟨h_g_od, (by first | omega | assumption), (by first | omega | assumption), (by first | omega | assumption), (by first | omega | assumption), (by first | omega | assumption), (by first | exact p8 | (intro q0; exfalso; omega) | (intro q0; exact p8 (by omega)))⟩) (Nat.le_of_ble_eq_true rfl) (Nat.le_of_ble_eq_true rfl) dX3_readClause_95
    · have ic_38 : r_37.toInt = 0 := k_eq c_38 rfl (by decide)
      clear er_37b er_37a
      refine lv_aload_n hx hb dX3_readClause_24 rfl (lv_at hl 2 rfl) ?_
      refine lv_aload_n hx hb dX3_readClause_25 rfl (lv_at hl 2 rfl) ?_
      refine va_get (D := D) (ci := 10) (v := .int q_place) (C := RX10) (T := TX10) (N := 11) hx hb hG inG_X10 hown hE.1 hP 3 rfl rfl 9 (by decide) (hG _ q_f_X3_51) (fun _ h9 => h9) rfl dX3_readClause_26 ?_
      refine lv_iconst (v := 0) hx hb dX3_readClause_29 (by decide) ?_
      have lt32_87 : (0 : Int32).toInt = 0 := by decide
      refine kwVV (wr := [(o, .inr (3, [.ref od])), (od, .inr (1, [.ref od_c])), (od_c, .inl (cy 0, 63, .inl g_od)), (q_by, .inl (cy 0, 400, .inl g_qby)), (q_ki, .inl (cy 0, 401, .inl g_qki)), (q_va, .inl (cy 0, 401, .inl g_qva)), (q_pl, .inl (cy 0, 401, .inl g_qpl))]) (As := [.int q_place, .int 0]) (rest := []) F hE hP hD hS hA hl.1 (cc_X10_failAt l D cy (o := q) (x0 := q_place) (x1 := 0) (o_by := q_by) (o_len := q_len) (o_ki := q_ki) (o_va := q_va) (o_pl := q_pl) (o_tok := q_tok) (o_at := q_at) (o_kind := q_kind) (o_value := q_value) (o_place := q_place) (o_fault := q_fault) (p0 := (by first | omega | assumption)) (p1 := (by first | omega | assumption)) (p2 := (by first | omega | assumption)) (p3 := (by first | omega | assumption))) q_m_X3_54 mv_X10_failAt ⟨(Nat.le_of_ble_eq_true rfl), (Nat.le_of_ble_eq_true rfl)⟩ [3] [0, 1, 2, 4, 5, 6, 7] (by decide) rfl rfl (by decide) (by decide) rfl rfl rfl rfl rfl (Nat.le_of_ble_eq_true rfl) ⟨(Nat.le_of_ble_eq_true rfl), (Nat.le_of_ble_eq_true rfl)⟩ dX3_readClause_30 (fun u_89 H locs eu_89 hP hD hS => ?_)
      have eu_89 : (u_89.toInt ≠ 0) := eu_89
      have hP : va_P D vwCl [(o, .inr (3, [.ref od])), (od, .inr (1, [.ref od_c])), (od_c, .inl (cy 0, 63, .inl g_od)), (q_by, .inl (cy 0, 400, .inl g_qby)), (q_ki, .inl (cy 0, 401, .inl g_qki)), (q_va, .inl (cy 0, 401, .inl g_qva)), (q_pl, .inl (cy 0, 401, .inl g_qpl)), (q, .inr (10, [.ref q_by, .int q_len, .ref q_ki, .ref q_va, .ref q_pl, .int q_tok, .int q_at, .int q_kind, .int q_value, .int q_place, .int u_89]))] H := hP
      have hD : va_D A [(o, .inr (3, [.ref od])), (od, .inr (1, [.ref od_c])), (od_c, .inl (cy 0, 63, .inl g_od)), (q_by, .inl (cy 0, 400, .inl g_qby)), (q_ki, .inl (cy 0, 401, .inl g_qki)), (q_va, .inl (cy 0, 401, .inl g_qva)), (q_pl, .inl (cy 0, 401, .inl g_qpl)), (q, .inr (10, [.ref q_by, .int q_len, .ref q_ki, .ref q_va, .ref q_pl, .int q_tok, .int q_at, .int q_kind, .int q_value, .int q_place, .int u_89]))] := hD
      refine lv_goto (tgt := 95) hx hb dX3_readClause_33 (by decide) ?_
      exact KV.rt ⟨g_od, q_at, q_kind, q_value, q_place, u_89⟩ F (hP.sub [0, 1, 2, 7, 3, 4, 5, 6] rfl) (hD.sub [0, 1, 2, 7, 3, 4, 5, 6] (by decide) rfl) hS (show DV g_od ∧ (-1 ≤ q_at.toInt) ∧ (q_at.toInt ≤ 400) ∧ (q_kind.toInt = 1 ∨ q_kind.toInt = 3 → 0 ≤ q_value.toInt ∧ q_value.toInt ≤ 99999) ∧ (0 ≤ q_place.toInt) ∧ (q_place.toInt ≤ 400) ∧ (u_89.toInt = 0 → FV g_od) from ⟨h_g_od, (by first | omega | assumption), (by first | omega | assumption), (by first | omega | assumption), (by first | omega | assumption), (by first | omega | assumption), (by first | exact p8 | (intro q0; exfalso; omega) | (intro q0; exact p8 (by omega)))⟩) (Nat.le_of_ble_eq_true rfl) (Nat.le_of_ble_eq_true rfl) dX3_readClause_95

set_option maxHeartbeats 4000000 in
set_option maxRecDepth 100000 in
theorem cc_X3_complete (l : Launch) (D : va_G) (cy : Nat → ClassId) (o : Nat) (od : Nat) (od_c : Nat) (g_od : Nat → Int32) (h_g_od : DV g_od) (hfv : FV g_od) : KV l yX3_complete cX3_complete 3 0 0 D (kTY cy) [.ref o] [(o, .inr (3, [.ref od])), (od, .inr (1, [.ref od_c])), (od_c, .inl (cy 0, 63, .inl g_od))] (S := (Nat → Int32)) (fun u => DV u ∧ (FV u)) (fun u => [(o, .inr (3, [.ref od])), (od, .inr (1, [.ref od_c])), (od_c, .inl (cy 0, 63, .inl u))]) 0 0 := by
  refine KV.of (by decide) (Nat.le_of_ble_eq_true rfl) (fun p e s m below meth c ls A F hin hE hP hD hA hS hl => ?_)
  have F : kF p s m meth c cX3_complete 3 none _ RX3 := F
  obtain ⟨hx, hb, hr, hml, hown, hG, hlk⟩ := id F
  have hl : lv_has ls 3 [(0, .ref o)] := hl
  obtain ⟨⟨b_1a, b_1b⟩, ⟨b_1c, b_1d⟩, ⟨b_1e, b_1f⟩⟩ := DV.bounds h_g_od
  refine lv_aload_n hx hb dX3_complete_0 rfl (lv_at hl 0 rfl) ?_
  refine va_get (D := D) (ci := 3) (v := .ref od) (C := RX3) (T := TX3) (N := 1) hx hb hG inG_X3 hown hE.1 hP 0 rfl rfl 0 (by decide) (hG _ q_f_X3_12) (fun _ h9 => h9) rfl dX3_complete_1 ?_
  refine va_get (D := D) (ci := 1) (v := .ref od_c) (C := RX1) (T := TX1) (N := 1) hx hb hG inG_X1 hown hE.1 hP 1 rfl rfl 0 (by decide) (hG _ q_f_X3_69) (fun _ h9 => h9) rfl dX3_complete_4 ?_
  refine lv_astore_n (lv' := [(1, .ref od_c), (0, .ref o)]) hx hb dX3_complete_7 rfl hl (by decide) rfl (fun ls hl => ?_)
  refine lv_aload_n hx hb dX3_complete_8 rfl (lv_at hl 0 rfl) ?_
  refine lv_iconst (v := 2) hx hb dX3_complete_9 (by decide) ?_
  refine va_iald hx hb hE.1 hP 2 0 rfl rfl (by unfold vp_in; decide) dX3_complete_10 ?_
  refine k_top (z := (g_od 2)) rfl ?_
  refine lv_if_ne (tgt := 23) hx hb dX3_complete_11 (by decide) (fun c_2 => ?_) (fun c_2 => ?_)
  · have ic_2 : (g_od 2).toInt ≠ 0 := k_ne c_2 rfl (by decide)
    refine lv_iconst (v := 0) hx hb dX3_complete_23 (by decide) ?_
    refine lv_istore_n (lv' := [(2, .int 0), (1, .ref od_c), (0, .ref o)]) hx hb dX3_complete_24 rfl hl (by decide) rfl (fun ls hl => ?_)
    have lp25 : ∀ (fu : Nat) (v2_25 : Int32) (god_c_25 : Nat → Int32) (H : Heap) (locs : List Loc) (ls : Array Slot), DV god_c_25 → (0 ≤ v2_25.toInt) → (v2_25.toInt ≤ 5) → (FV god_c_25) → 5 - v2_25.toInt < (fu : Int) → va_P D vwCl [(o, .inr (3, [.ref od])), (od, .inr (1, [.ref od_c])), (od_c, .inl (cy 0, 63, .inl god_c_25))] H → va_D A [(o, .inr (3, [.ref od])), (od, .inr (1, [.ref od_c])), (od_c, .inl (cy 0, 63, .inl god_c_25))] → va_S A s.heap H locs → lv_has ls 3 [(2, .int v2_25), (1, .ref od_c), (0, .ref o)] → W p l e (kRm 0 0 0 0) s m ([.ref o] : List Value).toArray below meth c H locs 0 0 (MQ below (va_Qv (S := (Nat → Int32)) (fun u => DV u ∧ (FV u)) (kBw D A (fun u => [(o, .inr (3, [.ref od])), (od, .inr (1, [.ref od_c])), (od_c, .inl (cy 0, 63, .inl u))])) A) ([.ref o] : List Value).toArray s 0 0 A) (F0 m 25 ls []) := by
      intro fu25
      induction fu25 with
      | zero =>
        intro v2_25 god_c_25 H locs ls hgod_c_25 j0_25 j1_25 j2_25 hm25 hP hD hS hl
        exact absurd hm25 (by omega)
      | succ fu25 ih25 =>
        intro v2_25 god_c_25 H locs ls hgod_c_25 j0_25 j1_25 j2_25 hm25 hP hD hS hl
        obtain ⟨⟨b_3a, b_3b⟩, ⟨b_3c, b_3d⟩, ⟨b_3e, b_3f⟩⟩ := DV.bounds hgod_c_25
        refine lv_iload_n hx hb dX3_complete_25 rfl (lv_at hl 0 rfl) ?_
        refine lv_aload_n hx hb dX3_complete_26 rfl (lv_at hl 1 rfl) ?_
        refine lv_iconst (v := 4) hx hb dX3_complete_27 (by decide) ?_
        refine va_iald hx hb hE.1 hP 2 0 rfl rfl (by unfold vp_in; decide) dX3_complete_28 ?_
        refine k_top (z := (god_c_25 4)) rfl ?_
        refine lv_icmp_ge (tgt := 47) hx hb dX3_complete_29 (by decide) (fun c_4 => ?_) (fun c_4 => ?_)
        · have ic_4 : (god_c_25 4).toInt ≤ v2_25.toInt := k_le c_4 rfl rfl
          exact KV.rt god_c_25 F (hP.sub [0, 1, 2] rfl) (hD.sub [0, 1, 2] (by decide) rfl) hS (show DV god_c_25 ∧ (FV god_c_25) from ⟨hgod_c_25, j2_25⟩) (Nat.le_of_ble_eq_true rfl) (Nat.le_of_ble_eq_true rfl) dX3_complete_47
        · have ic_4 : v2_25.toInt < (god_c_25 4).toInt := k_nle c_4 rfl rfl
          refine lv_aload_n hx hb dX3_complete_32 rfl (lv_at hl 1 rfl) ?_
          refine lv_bipush (v := 58) hx hb dX3_complete_33 (by decide) ?_
          refine lv_iload_n hx hb dX3_complete_35 rfl (lv_at hl 0 rfl) ?_
          refine lv_iadd hx hb dX3_complete_36 ?_
          refine lv_topi (fun z_5 ez_5 => ?_)
          have iz_5 : z_5.toInt = 58 + v2_25.toInt := k_addI ez_5 (by decide) rfl (by omega)
          refine lv_aload_n hx hb dX3_complete_37 rfl (lv_at hl 1 rfl) ?_
          refine lv_iconst (v := 1) hx hb dX3_complete_38 (by decide) ?_
          refine va_iald hx hb hE.1 hP 2 0 rfl rfl (by unfold vp_in; decide) dX3_complete_39 ?_
          refine k_top (z := (god_c_25 1)) rfl ?_
          refine va_iast hx hb hE.1 hP hD hS 2 0 rfl rfl (k_in (by omega)) dX3_complete_40 (fun H locs hP hD hS => ?_)
          have fv_7 : FV (upd god_c_25 (Int32.toNatClampNeg z_5) (god_c_25 1)) := FV.put j2_25 z_5 (god_c_25 1) (by omega) (by omega) (by omega) (by omega) (by omega)
          have hr_8 : DV (upd god_c_25 (Int32.toNatClampNeg z_5) (god_c_25 1)) := DV.put hgod_c_25 z_5 (god_c_25 1) (by omega) (by omega) (by omega) (by omega)
          generalize upd god_c_25 (Int32.toNatClampNeg z_5) (god_c_25 1) = fn_6 at hP hD fv_7 hr_8
          have hP : va_P D vwCl [(o, .inr (3, [.ref od])), (od, .inr (1, [.ref od_c])), (od_c, .inl (cy 0, 63, .inl fn_6))] H := hP
          have hD : va_D A [(o, .inr (3, [.ref od])), (od, .inr (1, [.ref od_c])), (od_c, .inl (cy 0, 63, .inl fn_6))] := hD
          obtain ⟨⟨b_9a, b_9b⟩, ⟨b_9c, b_9d⟩, ⟨b_9e, b_9f⟩⟩ := DV.bounds hr_8
          obtain ⟨z_10, ez_10⟩ : ∃ y : Int32, y = v2_25 + Int32.ofInt 1 := ⟨_, rfl⟩
          have iz_10 : z_10.toInt = v2_25.toInt + 1 := k_addI ez_10 rfl (by decide) (by omega)
          refine lv_iinc (v := z_10) (lv' := [(2, .int z_10), (1, .ref od_c), (0, .ref o)]) hx hb dX3_complete_41 hl (k := 0) rfl ez_10.symm (by decide) rfl (fun ls hl => ?_)
          refine lv_goto (tgt := 25) hx hb dX3_complete_44 (by decide) ?_
          exact ih25 z_10 fn_6 _ _ ls hr_8 (by first | omega | assumption) (by first | omega | assumption) fv_7 (by omega) hP hD hS (lv_sub hl [0, 1, 2] rfl)
    have lt_11 : (0 : Int32).toInt = 0 := by decide
    exact lp25 100000 0 g_od _ _ ls h_g_od (by first | omega | assumption) (by first | omega | assumption) hfv (by omega) hP hD hS hl
  · have ic_2 : (g_od 2).toInt = 0 := k_eq c_2 rfl (by decide)
    refine lv_aload_n hx hb dX3_complete_14 rfl (lv_at hl 0 rfl) ?_
    refine lv_iconst (v := 2) hx hb dX3_complete_15 (by decide) ?_
    refine lv_iconst (v := 1) hx hb dX3_complete_16 (by decide) ?_
    refine va_iast hx hb hE.1 hP hD hS 2 0 rfl rfl (by unfold vp_in; decide) dX3_complete_17 (fun H locs hP hD hS => ?_)
    have fv_13 : FV (upd g_od (Int32.toNatClampNeg 2) 1) := FV.put hfv (2 : Int32) (1 : Int32) (by have lq1 : (2 : Int32).toInt = 2 := (by decide); have lq2 : (1 : Int32).toInt = 1 := (by decide); omega) (by have lq1 : (2 : Int32).toInt = 2 := (by decide); have lq2 : (1 : Int32).toInt = 1 := (by decide); omega) (by have lq1 : (2 : Int32).toInt = 2 := (by decide); have lq2 : (1 : Int32).toInt = 1 := (by decide); omega) (by have lq1 : (2 : Int32).toInt = 2 := (by decide); have lq2 : (1 : Int32).toInt = 1 := (by decide); omega) (by have lq1 : (2 : Int32).toInt = 2 := (by decide); have lq2 : (1 : Int32).toInt = 1 := (by decide); omega)
    have hr_14 : DV (upd g_od (Int32.toNatClampNeg 2) 1) := DV.put h_g_od (2 : Int32) (1 : Int32) (by have lq1 : (2 : Int32).toInt = 2 := (by decide); have lq2 : (1 : Int32).toInt = 1 := (by decide); omega) (by have lq1 : (2 : Int32).toInt = 2 := (by decide); have lq2 : (1 : Int32).toInt = 1 := (by decide); omega) (by have lq1 : (2 : Int32).toInt = 2 := (by decide); have lq2 : (1 : Int32).toInt = 1 := (by decide); omega) (by have lq1 : (2 : Int32).toInt = 2 := (by decide); have lq2 : (1 : Int32).toInt = 1 := (by decide); omega)
    generalize upd g_od (Int32.toNatClampNeg 2) 1 = fn_12 at hP hD fv_13 hr_14
    have hP : va_P D vwCl [(o, .inr (3, [.ref od])), (od, .inr (1, [.ref od_c])), (od_c, .inl (cy 0, 63, .inl fn_12))] H := hP
    have hD : va_D A [(o, .inr (3, [.ref od])), (od, .inr (1, [.ref od_c])), (od_c, .inl (cy 0, 63, .inl fn_12))] := hD
    obtain ⟨⟨b_15a, b_15b⟩, ⟨b_15c, b_15d⟩, ⟨b_15e, b_15f⟩⟩ := DV.bounds hr_14
    refine lv_aload_n hx hb dX3_complete_18 rfl (lv_at hl 0 rfl) ?_
    refine lv_bipush (v := 8) hx hb dX3_complete_19 (by decide) ?_
    refine lv_iconst (v := 4) hx hb dX3_complete_21 (by decide) ?_
    refine va_iast hx hb hE.1 hP hD hS 2 0 rfl rfl (by unfold vp_in; decide) dX3_complete_22 (fun H locs hP hD hS => ?_)
    have fv_17 : FV (upd fn_12 (Int32.toNatClampNeg 8) 4) := FV.put fv_13 (8 : Int32) (4 : Int32) (by have lq1 : (8 : Int32).toInt = 8 := (by decide); have lq2 : (4 : Int32).toInt = 4 := (by decide); omega) (by have lq1 : (8 : Int32).toInt = 8 := (by decide); have lq2 : (4 : Int32).toInt = 4 := (by decide); omega) (by have lq1 : (8 : Int32).toInt = 8 := (by decide); have lq2 : (4 : Int32).toInt = 4 := (by decide); omega) (by have lq1 : (8 : Int32).toInt = 8 := (by decide); have lq2 : (4 : Int32).toInt = 4 := (by decide); omega) (by have lq1 : (8 : Int32).toInt = 8 := (by decide); have lq2 : (4 : Int32).toInt = 4 := (by decide); omega)
    have hr_18 : DV (upd fn_12 (Int32.toNatClampNeg 8) 4) := DV.put hr_14 (8 : Int32) (4 : Int32) (by have lq1 : (8 : Int32).toInt = 8 := (by decide); have lq2 : (4 : Int32).toInt = 4 := (by decide); omega) (by have lq1 : (8 : Int32).toInt = 8 := (by decide); have lq2 : (4 : Int32).toInt = 4 := (by decide); omega) (by have lq1 : (8 : Int32).toInt = 8 := (by decide); have lq2 : (4 : Int32).toInt = 4 := (by decide); omega) (by have lq1 : (8 : Int32).toInt = 8 := (by decide); have lq2 : (4 : Int32).toInt = 4 := (by decide); omega)
    generalize upd fn_12 (Int32.toNatClampNeg 8) 4 = fn_16 at hP hD fv_17 hr_18
    have hP : va_P D vwCl [(o, .inr (3, [.ref od])), (od, .inr (1, [.ref od_c])), (od_c, .inl (cy 0, 63, .inl fn_16))] H := hP
    have hD : va_D A [(o, .inr (3, [.ref od])), (od, .inr (1, [.ref od_c])), (od_c, .inl (cy 0, 63, .inl fn_16))] := hD
    obtain ⟨⟨b_19a, b_19b⟩, ⟨b_19c, b_19d⟩, ⟨b_19e, b_19f⟩⟩ := DV.bounds hr_18
    refine lv_iconst (v := 0) hx hb dX3_complete_23 (by decide) ?_
    refine lv_istore_n (lv' := [(2, .int 0), (1, .ref od_c), (0, .ref o)]) hx hb dX3_complete_24 rfl hl (by decide) rfl (fun ls hl => ?_)
    have lp25 : ∀ (fu : Nat) (v2_25 : Int32) (god_c_25 : Nat → Int32) (H : Heap) (locs : List Loc) (ls : Array Slot), DV god_c_25 → (0 ≤ v2_25.toInt) → (v2_25.toInt ≤ 5) → (FV god_c_25) → 5 - v2_25.toInt < (fu : Int) → va_P D vwCl [(o, .inr (3, [.ref od])), (od, .inr (1, [.ref od_c])), (od_c, .inl (cy 0, 63, .inl god_c_25))] H → va_D A [(o, .inr (3, [.ref od])), (od, .inr (1, [.ref od_c])), (od_c, .inl (cy 0, 63, .inl god_c_25))] → va_S A s.heap H locs → lv_has ls 3 [(2, .int v2_25), (1, .ref od_c), (0, .ref o)] → W p l e (kRm 0 0 0 0) s m ([.ref o] : List Value).toArray below meth c H locs 0 0 (MQ below (va_Qv (S := (Nat → Int32)) (fun u => DV u ∧ (FV u)) (kBw D A (fun u => [(o, .inr (3, [.ref od])), (od, .inr (1, [.ref od_c])), (od_c, .inl (cy 0, 63, .inl u))])) A) ([.ref o] : List Value).toArray s 0 0 A) (F0 m 25 ls []) := by
      intro fu25
      induction fu25 with
      | zero =>
        intro v2_25 god_c_25 H locs ls hgod_c_25 j0_25 j1_25 j2_25 hm25 hP hD hS hl
        exact absurd hm25 (by omega)
      | succ fu25 ih25 =>
        intro v2_25 god_c_25 H locs ls hgod_c_25 j0_25 j1_25 j2_25 hm25 hP hD hS hl
        obtain ⟨⟨b_20a, b_20b⟩, ⟨b_20c, b_20d⟩, ⟨b_20e, b_20f⟩⟩ := DV.bounds hgod_c_25
        refine lv_iload_n hx hb dX3_complete_25 rfl (lv_at hl 0 rfl) ?_
        refine lv_aload_n hx hb dX3_complete_26 rfl (lv_at hl 1 rfl) ?_
        refine lv_iconst (v := 4) hx hb dX3_complete_27 (by decide) ?_
        refine va_iald hx hb hE.1 hP 2 0 rfl rfl (by unfold vp_in; decide) dX3_complete_28 ?_
        refine k_top (z := (god_c_25 4)) rfl ?_
        refine lv_icmp_ge (tgt := 47) hx hb dX3_complete_29 (by decide) (fun c_21 => ?_) (fun c_21 => ?_)
        · have ic_21 : (god_c_25 4).toInt ≤ v2_25.toInt := k_le c_21 rfl rfl
          exact KV.rt god_c_25 F (hP.sub [0, 1, 2] rfl) (hD.sub [0, 1, 2] (by decide) rfl) hS (show DV god_c_25 ∧ (FV god_c_25) from ⟨hgod_c_25, j2_25⟩) (Nat.le_of_ble_eq_true rfl) (Nat.le_of_ble_eq_true rfl) dX3_complete_47
        · have ic_21 : v2_25.toInt < (god_c_25 4).toInt := k_nle c_21 rfl rfl
          refine lv_aload_n hx hb dX3_complete_32 rfl (lv_at hl 1 rfl) ?_
          refine lv_bipush (v := 58) hx hb dX3_complete_33 (by decide) ?_
          refine lv_iload_n hx hb dX3_complete_35 rfl (lv_at hl 0 rfl) ?_
          refine lv_iadd hx hb dX3_complete_36 ?_
          refine lv_topi (fun z_22 ez_22 => ?_)
          have iz_22 : z_22.toInt = 58 + v2_25.toInt := k_addI ez_22 (by decide) rfl (by omega)
          refine lv_aload_n hx hb dX3_complete_37 rfl (lv_at hl 1 rfl) ?_
          refine lv_iconst (v := 1) hx hb dX3_complete_38 (by decide) ?_
          refine va_iald hx hb hE.1 hP 2 0 rfl rfl (by unfold vp_in; decide) dX3_complete_39 ?_
          refine k_top (z := (god_c_25 1)) rfl ?_
          refine va_iast hx hb hE.1 hP hD hS 2 0 rfl rfl (k_in (by omega)) dX3_complete_40 (fun H locs hP hD hS => ?_)
          have fv_24 : FV (upd god_c_25 (Int32.toNatClampNeg z_22) (god_c_25 1)) := FV.put j2_25 z_22 (god_c_25 1) (by omega) (by omega) (by omega) (by omega) (by omega)
          have hr_25 : DV (upd god_c_25 (Int32.toNatClampNeg z_22) (god_c_25 1)) := DV.put hgod_c_25 z_22 (god_c_25 1) (by omega) (by omega) (by omega) (by omega)
          generalize upd god_c_25 (Int32.toNatClampNeg z_22) (god_c_25 1) = fn_23 at hP hD fv_24 hr_25
          have hP : va_P D vwCl [(o, .inr (3, [.ref od])), (od, .inr (1, [.ref od_c])), (od_c, .inl (cy 0, 63, .inl fn_23))] H := hP
          have hD : va_D A [(o, .inr (3, [.ref od])), (od, .inr (1, [.ref od_c])), (od_c, .inl (cy 0, 63, .inl fn_23))] := hD
          obtain ⟨⟨b_26a, b_26b⟩, ⟨b_26c, b_26d⟩, ⟨b_26e, b_26f⟩⟩ := DV.bounds hr_25
          obtain ⟨z_27, ez_27⟩ : ∃ y : Int32, y = v2_25 + Int32.ofInt 1 := ⟨_, rfl⟩
          have iz_27 : z_27.toInt = v2_25.toInt + 1 := k_addI ez_27 rfl (by decide) (by omega)
          refine lv_iinc (v := z_27) (lv' := [(2, .int z_27), (1, .ref od_c), (0, .ref o)]) hx hb dX3_complete_41 hl (k := 0) rfl ez_27.symm (by decide) rfl (fun ls hl => ?_)
          refine lv_goto (tgt := 25) hx hb dX3_complete_44 (by decide) ?_
          exact ih25 z_27 fn_23 _ _ ls hr_25 (by first | omega | assumption) (by first | omega | assumption) fv_24 (by omega) hP hD hS (lv_sub hl [0, 1, 2] rfl)
    have lt_28 : (0 : Int32).toInt = 0 := by decide
    exact lp25 100000 0 fn_16 _ _ ls hr_18 (by first | omega | assumption) (by first | omega | assumption) fv_17 (by omega) hP hD hS hl
