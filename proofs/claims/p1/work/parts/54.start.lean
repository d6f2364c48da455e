theorem k_short {L : Nat} (h : L < 6) : Int32.ofNat L - 6 < 0 := by
  rcases (show L = 0 ∨ L = 1 ∨ L = 2 ∨ L = 3 ∨ L = 4 ∨ L = 5 by omega) with rfl | rfl | rfl | rfl | rfl | rfl <;> decide

set_option maxHeartbeats 4000000 in
set_option maxRecDepth 100000 in
theorem law_short {p : Program} {l : Launch} {e : Env} {s : State} {m : MethodId} {below : List Frame} {meth : Method} {c : Code} {b L : Nat} {xs : Nat → Int32} {D : va_G} {cy : Nat → ClassId} {A : Nat → Prop} (F : kF p s m meth c code 4 ret #[Value.ref b] RL) (hE : kE D (kTY cy) s) (hX : va_X b L xs s s.heap) (hbl : b < s.heap.size) (hAA : ∀ q : Nat, A q → s.heap.size ≤ q) (hA : ∀ q : Nat, s.heap.size ≤ q → A q) (hL : L < 6) (u v : Nat → Nat) (h0 m0 : Nat) {H : Heap} {locs : List Loc} (hP : va_P D vwCl (k_lw cy u v h0 m0) H) (hD : va_D A (k_lw cy u v h0 m0)) (hS : va_S A s.heap H locs) {ls : Array Slot} (hl : lv_has ls 4 [(3, .int 0), (2, .ref m0), (1, .ref h0), (0, .ref b)]) : W p l e room_1 s m #[Value.ref b] below meth c H locs 123 9571 (lw_Z below #[Value.ref b] s) (F0 m 18 ls []) := by
  obtain ⟨hx, hb, hr, hml, hown, hG, hlk⟩ := id F
  have hbA : ¬ A b := fun h => absurd (hAA b h) (Nat.not_le.mpr hbl)
  refine lv_iload_n hx hb dL_law_18 rfl (lv_at hl 0 rfl) ?_
  refine lv_aload_n hx hb dL_law_19 rfl (lv_at hl 3 rfl) ?_
  refine va_slen hx hb hX hbl hbA hS dL_law_20 ?_
  refine lv_bipush (v := 6) hx hb dL_law_21 (by decide) ?_
  refine lv_isub hx hb dL_law_23 ?_
  refine lv_icmp_gt (tgt := 1266) hx hb dL_law_24 (by decide) (fun _ => ?_) (fun q => absurd (k_short hL) q)
  refine lv_iconst (v := 1) hx hb dL_law_1266 (by decide) ?_
  refine va_forget (fun q hq => hAA _ (hS.2.2 q hq)) ?_
  refine W.widen (k := 600000) (n := 7302250) (Nat.le_of_ble_eq_true rfl) (Nat.le_of_ble_eq_true rfl) ?_
  exact lw_ret hx hb hr hlk dL_law_1267

set_option maxHeartbeats 4000000 in
set_option maxRecDepth 100000 in
theorem law_main {p : Program} {l : Launch} {e : Env} {s : State} {m : MethodId} {below : List Frame} {meth : Method} {c : Code} {b : Nat} {xs : Nat → Int32} {D : va_G} {cy : Nat → ClassId} {A : Nat → Prop} (F : kF p s m meth c code 4 ret #[Value.ref b] RL) (hE : kE D (kTY cy) s) (hX : va_X b 6 xs s s.heap) (hbl : b < s.heap.size) (hAA : ∀ q : Nat, A q → s.heap.size ≤ q) (hA : ∀ q : Nat, s.heap.size ≤ q → A q) (u v : Nat → Nat) (h0 m0 : Nat) {H : Heap} {locs : List Loc} (hP : va_P D vwCl (k_lw cy u v h0 m0) H) (hD : va_D A (k_lw cy u v h0 m0)) (hS : va_S A s.heap H locs) {ls : Array Slot} (hl : lv_has ls 4 [(3, .int 0), (2, .ref m0), (1, .ref h0), (0, .ref b)]) : W p l e room_1 s m #[Value.ref b] below meth c H locs 123 9571 (lw_Z below #[Value.ref b] s) (F0 m 18 ls []) := by
  obtain ⟨hx, hb, hr, hml, hown, hG, hlk⟩ := id F
  have hbA : ¬ A b := fun h => absurd (hAA b h) (Nat.not_le.mpr hbl)
  refine lv_iload_n hx hb dL_law_18 rfl (lv_at hl 0 rfl) ?_
  refine lv_aload_n hx hb dL_law_19 rfl (lv_at hl 3 rfl) ?_
  refine va_slen hx hb hX hbl hbA hS dL_law_20 ?_
  refine k_top (z := 6) rfl ?_
  refine lv_bipush (v := 6) hx hb dL_law_21 (by decide) ?_
  refine lv_isub hx hb dL_law_23 ?_
  refine k_top (z := 0) (by decide) ?_
  refine lv_icmp_gt (tgt := 1266) hx hb dL_law_24 (by decide) (fun q => absurd q (by decide)) (fun _ => ?_)
  refine lv_aload_n hx hb dL_law_27 rfl (lv_at hl 3 rfl) ?_
  refine lv_iload_n hx hb dL_law_28 rfl (lv_at hl 0 rfl) ?_
  refine va_sld hx hb hX hbl hbA hS (by unfold vp_in; decide) dL_law_29 ?_
  refine k_top (z := (xs 0)) rfl ?_
  refine lv_bipush (v := 63) hx hb dL_law_30 (by decide) ?_
  refine lv_iand hx hb dL_law_32 ?_
  refine lv_topi (fun z_1 ez_1 => ?_)
  by_cases c_2 : z_1 = 0
  · subst c_2
    refine lv_tableIn (off := 159) (tgt := 192) hx hb dL_law_33 (by decide) (by decide) rfl (by decide) ?_
    exact law_feed F hE hX hbl hAA hA u v h0 m0 hP hD hS (lv_sub hl [0, 1, 2, 3] rfl)
  by_cases c_3 : z_1 = 1
  · subst c_3
    refine lv_tableIn (off := 222) (tgt := 255) hx hb dL_law_33 (by decide) (by decide) rfl (by decide) ?_
    exact law_end F hE hX hbl hAA hA u v h0 m0 hP hD hS (lv_sub hl [0, 1, 2, 3] rfl)
  by_cases c_4 : z_1 = 2
  · subst c_4
    refine lv_tableIn (off := 245) (tgt := 278) hx hb dL_law_33 (by decide) (by decide) rfl (by decide) ?_
    exact law_green F hE hX hbl hAA hA u v h0 m0 hP hD hS (lv_sub hl [0, 1, 2, 3] rfl)
  by_cases c_5 : z_1 = 3
  · subst c_5
    refine lv_tableIn (off := 258) (tgt := 291) hx hb dL_law_33 (by decide) (by decide) rfl (by decide) ?_
    exact law_rule F hE hX hbl hAA hA u v h0 m0 hP hD hS (lv_sub hl [0, 1, 2, 3] rfl)
  by_cases c_6 : z_1 = 4
  · subst c_6
    refine lv_tableIn (off := 271) (tgt := 304) hx hb dL_law_33 (by decide) (by decide) rfl (by decide) ?_
    exact law_force F hE hX hbl hAA hA u v h0 m0 hP hD hS (lv_sub hl [0, 1, 2, 3] rfl)
  by_cases c_7 : z_1 = 5
  · subst c_7
    refine lv_tableIn (off := 294) (tgt := 327) hx hb dL_law_33 (by decide) (by decide) rfl (by decide) ?_
    exact law_ring F hE hX hbl hAA hA u v h0 m0 hP hD hS (lv_sub hl [0, 1, 2, 3] rfl)
  by_cases c_8 : z_1 = 6
  · subst c_8
    refine lv_tableIn (off := 327) (tgt := 360) hx hb dL_law_33 (by decide) (by decide) rfl (by decide) ?_
    exact law_archer F hE hX hbl hAA hA u v h0 m0 hP hD hS (lv_sub hl [0, 1, 2, 3] rfl)
  by_cases c_9 : z_1 = 7
  · subst c_9
    refine lv_tableIn (off := 360) (tgt := 393) hx hb dL_law_33 (by decide) (by decide) rfl (by decide) ?_
    exact law_wind F hE hX hbl hAA hA u v h0 m0 hP hD hS (lv_sub hl [0, 1, 2, 3] rfl)
  by_cases c_10 : z_1 = 8
  · subst c_10
    refine lv_tableIn (off := 383) (tgt := 416) hx hb dL_law_33 (by decide) (by decide) rfl (by decide) ?_
    exact law_round F hE hX hbl hAA hA u v h0 m0 hP hD hS (lv_sub hl [0, 1, 2, 3] rfl)
  by_cases c_11 : z_1 = 9
  · subst c_11
    refine lv_tableIn (off := 396) (tgt := 429) hx hb dL_law_33 (by decide) (by decide) rfl (by decide) ?_
    exact law_shoot F hE hX hbl hAA hA u v h0 m0 hP hD hS (lv_sub hl [0, 1, 2, 3] rfl)
  by_cases c_12 : z_1 = 10
  · subst c_12
    refine lv_tableIn (off := 429) (tgt := 462) hx hb dL_law_33 (by decide) (by decide) rfl (by decide) ?_
    exact law_pull F hE hX hbl hAA hA u v h0 m0 hP hD hS (lv_sub hl [0, 1, 2, 3] rfl)
  by_cases c_13 : z_1 = 11
  · subst c_13
    refine lv_tableIn (off := 462) (tgt := 495) hx hb dL_law_33 (by decide) (by decide) rfl (by decide) ?_
    exact law_breath F hE hX hbl hAA hA u v h0 m0 hP hD hS (lv_sub hl [0, 1, 2, 3] rfl)
  by_cases c_14 : z_1 = 12
  · subst c_14
    refine lv_tableIn (off := 485) (tgt := 518) hx hb dL_law_33 (by decide) (by decide) rfl (by decide) ?_
    exact law_teach F hE hX hbl hAA hA u v h0 m0 hP hD hS (lv_sub hl [0, 1, 2, 3] rfl)
  by_cases c_15 : z_1 = 13
  · subst c_15
    refine lv_tableIn (off := 518) (tgt := 551) hx hb dL_law_33 (by decide) (by decide) rfl (by decide) ?_
    exact law_undo F hE hX hbl hAA hA u v h0 m0 hP hD hS (lv_sub hl [0, 1, 2, 3] rfl)
  by_cases c_16 : z_1 = 14
  · subst c_16
    refine lv_tableIn (off := 531) (tgt := 564) hx hb dL_law_33 (by decide) (by decide) rfl (by decide) ?_
    exact law_ahead F hE hX hbl hAA hA u v h0 m0 hP hD hS (lv_sub hl [0, 1, 2, 3] rfl)
  by_cases c_17 : z_1 = 15
  · subst c_17
    refine lv_tableIn (off := 574) (tgt := 607) hx hb dL_law_33 (by decide) (by decide) rfl (by decide) ?_
    exact law_eased F hE hX hbl hAA hA u v h0 m0 hP hD hS (lv_sub hl [0, 1, 2, 3] rfl)
  by_cases c_18 : z_1 = 16
  · subst c_18
    refine lv_tableIn (off := 597) (tgt := 630) hx hb dL_law_33 (by decide) (by decide) rfl (by decide) ?_
    exact law_allEased F hE hX hbl hAA hA u v h0 m0 hP hD hS (lv_sub hl [0, 1, 2, 3] rfl)
  by_cases c_19 : z_1 = 17
  · subst c_19
    refine lv_tableIn (off := 610) (tgt := 643) hx hb dL_law_33 (by decide) (by decide) rfl (by decide) ?_
    exact law_down F hE hX hbl hAA hA u v h0 m0 hP hD hS (lv_sub hl [0, 1, 2, 3] rfl)
  by_cases c_20 : z_1 = 18
  · subst c_20
    refine lv_tableIn (off := 643) (tgt := 676) hx hb dL_law_33 (by decide) (by decide) rfl (by decide) ?_
    exact law_bestAim F hE hX hbl hAA hA u v h0 m0 hP hD hS (lv_sub hl [0, 1, 2, 3] rfl)
  by_cases c_21 : z_1 = 19
  · subst c_21
    refine lv_tableIn (off := 676) (tgt := 709) hx hb dL_law_33 (by decide) (by decide) rfl (by decide) ?_
    exact law_row F hE hX hbl hAA hA u v h0 m0 hP hD hS (lv_sub hl [0, 1, 2, 3] rfl)
  by_cases c_22 : z_1 = 20
  · subst c_22
    refine lv_tableIn (off := 719) (tgt := 752) hx hb dL_law_33 (by decide) (by decide) rfl (by decide) ?_
    exact law_hold F hE hX hbl hAA hA u v h0 m0 hP hD hS (lv_sub hl [0, 1, 2, 3] rfl)
  by_cases c_23 : z_1 = 21
  · subst c_23
    refine lv_tableIn (off := 742) (tgt := 775) hx hb dL_law_33 (by decide) (by decide) rfl (by decide) ?_
    exact law_leastSkill F hE hX hbl hAA hA u v h0 m0 hP hD hS (lv_sub hl [0, 1, 2, 3] rfl)
  by_cases c_24 : z_1 = 22
  · subst c_24
    refine lv_tableIn (off := 775) (tgt := 808) hx hb dL_law_33 (by decide) (by decide) rfl (by decide) ?_
    exact law_set F hE hX hbl hAA hA u v h0 m0 hP hD hS (lv_sub hl [0, 1, 2, 3] rfl)
  by_cases c_25 : z_1 = 23
  · subst c_25
    refine lv_tableIn (off := 818) (tgt := 851) hx hb dL_law_33 (by decide) (by decide) rfl (by decide) ?_
    exact law_given F hE hX hbl hAA hA u v h0 m0 hP hD hS (lv_sub hl [0, 1, 2, 3] rfl)
  by_cases c_26 : z_1 = 24
  · subst c_26
    refine lv_tableIn (off := 851) (tgt := 884) hx hb dL_law_33 (by decide) (by decide) rfl (by decide) ?_
    exact law_skilled F hE hX hbl hAA hA u v h0 m0 hP hD hS (lv_sub hl [0, 1, 2, 3] rfl)
  by_cases c_27 : z_1 = 25
  · subst c_27
    refine lv_tableIn (off := 874) (tgt := 907) hx hb dL_law_33 (by decide) (by decide) rfl (by decide) ?_
    exact law_ails F hE hX hbl hAA hA u v h0 m0 hP hD hS (lv_sub hl [0, 1, 2, 3] rfl)
  by_cases c_28 : z_1 = 26
  · subst c_28
    refine lv_tableIn (off := 897) (tgt := 930) hx hb dL_law_33 (by decide) (by decide) rfl (by decide) ?_
    exact law_rests F hE hX hbl hAA hA u v h0 m0 hP hD hS (lv_sub hl [0, 1, 2, 3] rfl)
  by_cases c_29 : z_1 = 27
  · subst c_29
    refine lv_tableIn (off := 950) (tgt := 983) hx hb dL_law_33 (by decide) (by decide) rfl (by decide) ?_
    exact law_pence F hE hX hbl hAA hA u v h0 m0 hP hD hS (lv_sub hl [0, 1, 2, 3] rfl)
  by_cases c_30 : z_1 = 28
  · subst c_30
    refine lv_tableIn (off := 983) (tgt := 1016) hx hb dL_law_33 (by decide) (by decide) rfl (by decide) ?_
    exact law_note F hE hX hbl hAA hA u v h0 m0 hP hD hS (lv_sub hl [0, 1, 2, 3] rfl)
  by_cases c_31 : z_1 = 29
  · subst c_31
    refine lv_tableIn (off := 1026) (tgt := 1059) hx hb dL_law_33 (by decide) (by decide) rfl (by decide) ?_
    exact law_ruled F hE hX hbl hAA hA u v h0 m0 hP hD hS (lv_sub hl [0, 1, 2, 3] rfl)
  by_cases c_32 : z_1 = 30
  · subst c_32
    refine lv_tableIn (off := 1049) (tgt := 1082) hx hb dL_law_33 (by decide) (by decide) rfl (by decide) ?_
    exact law_look F hE hX hbl hAA hA u v h0 m0 hP hD hS (lv_sub hl [0, 1, 2, 3] rfl)
  by_cases c_33 : z_1 = 31
  · subst c_33
    refine lv_tableIn (off := 1082) (tgt := 1115) hx hb dL_law_33 (by decide) (by decide) rfl (by decide) ?_
    exact law_seed F hE hX hbl hAA hA u v h0 m0 hP hD hS (lv_sub hl [0, 1, 2, 3] rfl)
  by_cases c_34 : z_1 = 32
  · subst c_34
    refine lv_tableIn (off := 1105) (tgt := 1138) hx hb dL_law_33 (by decide) (by decide) rfl (by decide) ?_
    exact law_gusts F hE hX hbl hAA hA u v h0 m0 hP hD hS (lv_sub hl [0, 1, 2, 3] rfl)
  by_cases c_35 : z_1 = 33
  · subst c_35
    refine lv_tableIn (off := 1158) (tgt := 1191) hx hb dL_law_33 (by decide) (by decide) rfl (by decide) ?_
    exact law_count F hE hX hbl hAA hA u v h0 m0 hP hD hS (lv_sub hl [0, 1, 2, 3] rfl)
  by_cases c_36 : z_1 = 34
  · subst c_36
    refine lv_tableIn (off := 1181) (tgt := 1214) hx hb dL_law_33 (by decide) (by decide) rfl (by decide) ?_
    exact law_image F hE hX hbl hAA hA u v h0 m0 hP hD hS (lv_sub hl [0, 1, 2, 3] rfl)
  by_cases c_37 : z_1 = 35
  · subst c_37
    refine lv_tableIn (off := 1204) (tgt := 1237) hx hb dL_law_33 (by decide) (by decide) rfl (by decide) ?_
    exact law_back F hE hX hbl hAA hA u v h0 m0 hP hD hS (lv_sub hl [0, 1, 2, 3] rfl)
  have nc_2 := lv_neT (a := 0) c_2 rfl
  have nc_3 := lv_neT (a := 1) c_3 rfl
  have nc_4 := lv_neT (a := 2) c_4 rfl
  have nc_5 := lv_neT (a := 3) c_5 rfl
  have nc_6 := lv_neT (a := 4) c_6 rfl
  have nc_7 := lv_neT (a := 5) c_7 rfl
  have nc_8 := lv_neT (a := 6) c_8 rfl
  have nc_9 := lv_neT (a := 7) c_9 rfl
  have nc_10 := lv_neT (a := 8) c_10 rfl
  have nc_11 := lv_neT (a := 9) c_11 rfl
  have nc_12 := lv_neT (a := 10) c_12 rfl
  have nc_13 := lv_neT (a := 11) c_13 rfl
  have nc_14 := lv_neT (a := 12) c_14 rfl
  have nc_15 := lv_neT (a := 13) c_15 rfl
  have nc_16 := lv_neT (a := 14) c_16 rfl
  have nc_17 := lv_neT (a := 15) c_17 rfl
  have nc_18 := lv_neT (a := 16) c_18 rfl
  have nc_19 := lv_neT (a := 17) c_19 rfl
  have nc_20 := lv_neT (a := 18) c_20 rfl
  have nc_21 := lv_neT (a := 19) c_21 rfl
  have nc_22 := lv_neT (a := 20) c_22 rfl
  have nc_23 := lv_neT (a := 21) c_23 rfl
  have nc_24 := lv_neT (a := 22) c_24 rfl
  have nc_25 := lv_neT (a := 23) c_25 rfl
  have nc_26 := lv_neT (a := 24) c_26 rfl
  have nc_27 := lv_neT (a := 25) c_27 rfl
  have nc_28 := lv_neT (a := 26) c_28 rfl
  have nc_29 := lv_neT (a := 27) c_29 rfl
  have nc_30 := lv_neT (a := 28) c_30 rfl
  have nc_31 := lv_neT (a := 29) c_31 rfl
  have nc_32 := lv_neT (a := 30) c_32 rfl
  have nc_33 := lv_neT (a := 31) c_33 rfl
  have nc_34 := lv_neT (a := 32) c_34 rfl
  have nc_35 := lv_neT (a := 33) c_35 rfl
  have nc_36 := lv_neT (a := 34) c_36 rfl
  have nc_37 := lv_neT (a := 35) c_37 rfl
  refine lv_tableOut (tgt := 1260) hx hb dL_law_33 (by omega) (by decide) ?_
  exact law_tail F hE hX hbl hAA hA _ _ (Nat.le_of_ble_eq_true rfl) (Nat.le_of_ble_eq_true rfl) hS (lv_sub hl [0, 1, 2, 3] rfl)

set_option maxHeartbeats 4000000 in
set_option maxRecDepth 100000 in
theorem whole_start {p : Program} {e : Env} {s : State} {m : MethodId} {below : List Frame} {meth : Method} {c : Code} (l : Launch) (hflags : l.flags = flags0) {b L : Nat} {xs : Nat → Int32} (hL : L ≤ 6) (C0 : lw_At p s m meth c b L xs) : W p l e room_1 s m #[Value.ref b] below meth c s.heap [] 0 0 (lw_Z below #[Value.ref b] s) (entryFrame m ([Value.ref b] : List Value).toArray 4) := by
  obtain ⟨hx, hb, hr, hml, hown, hts, hX, hbl, hlk, hgv⟩ := id C0
  obtain ⟨D, cy, hE⟩ := k_env hts
  have hG : ∀ w ∈ kGW, w.before #[Value.ref b] s = true := fun w h => hts w (List.mem_filter.mp h).1
  have F : kF p s m meth c code 4 ret #[Value.ref b] RL := ⟨hx, hb, hr, hml, hown, hG, hlk⟩
  have hown : s.vm.findClass RL = some m.cls := hown
  obtain ⟨A, eA⟩ : ∃ A : Nat → Prop, A = fun q => s.heap.size ≤ q := ⟨_, rfl⟩
  have hA : ∀ q : Nat, s.heap.size ≤ q → A q := fun q h => by rw [eA]; exact h
  have hAA : ∀ q : Nat, A q → s.heap.size ≤ q := fun q h => by rw [eA] at h; exact h
  have hS : va_S A s.heap s.heap [] := va_S.rf
  have hP : va_P D vwCl [] s.heap := fun k q h => by simp at h
  have hD : va_D A [] := ⟨fun i j p q h => by simp at h, fun k q h => by simp at h⟩
  have hl := lv_entry ([.ref b]) (n := 4) (Nat.le_of_ble_eq_true rfl)
  rw [lg_entry_eq]
  generalize (lg_sl ([.ref b]) ++ List.replicate (4 - (lg_sl ([.ref b])).length) Slot.unset).toArray = ls at hl ⊢
  have hl : lv_has ls 4 [(0, .ref b)] := hl
  refine va_new (ci := 11) (fs := [.null, .null, .null, .null, .int 0, .null, .null, .null, .null, .null, .null]) (C := RX11) (T := TX11) (N := 11) hx hb hG inG_X11 tyX11 tyX11_ok hown (hG _ q_k_L_7) (hG _ q_n_X11) (hG _ q_z_X11) hE.1 hP hD hS hA rfl dfX11 (Nat.le_of_ble_eq_true rfl) (Nat.le_of_ble_eq_true rfl) dL_law_0 (fun q_1 H hP hD hS => ?_)
  have hP : va_P D vwCl [(q_1, .inr (11, [.null, .null, .null, .null, .int 0, .null, .null, .null, .null, .null, .null]))] H := hP
  have hD : va_D A [(q_1, .inr (11, [.null, .null, .null, .null, .int 0, .null, .null, .null, .null, .null, .null]))] := hD
  refine lv_dup hx hb dL_law_3 rfl ?_
  refine kwII (wr := []) (As := []) (rest := [.ref q_1]) F hE hP hD hS hA hl.1 (n_StrawButts l D cy (h0 := q_1)) q_m_L_9 mi_X11_init ⟨(Nat.le_of_ble_eq_true rfl), (Nat.le_of_ble_eq_true rfl)⟩ [0] [] (by decide) rfl rfl (by decide) (by decide) rfl rfl (Nat.le_of_ble_eq_true rfl) ⟨(Nat.le_of_ble_eq_true rfl), (Nat.le_of_ble_eq_true rfl)⟩ dL_law_4 (fun u_2 H locs eu_2 hP hD hS => ?_)
  have hP : va_P D vwCl [(q_1, .inr (11, [.ref (u_2 0), .ref (u_2 1), .ref (u_2 2), .ref (u_2 3), .int 0, .ref (u_2 4), .ref (u_2 5), .ref (u_2 6), .ref (u_2 7), .ref (u_2 8), .ref (u_2 9)])), ((u_2 0), .inr (10, [.ref (u_2 10), .int 0, .ref (u_2 11), .ref (u_2 12), .ref (u_2 13), .int 0, .int 0, .int 0, .int 0, .int 0, .int 0])), ((u_2 10), .inl (cy 0, 400, .inl (fun _ => 0))), ((u_2 11), .inl (cy 0, 401, .inl (fun _ => 0))), ((u_2 12), .inl (cy 0, 401, .inl (fun _ => 0))), ((u_2 13), .inl (cy 0, 401, .inl (fun _ => 0))), ((u_2 1), .inr (3, [.ref (u_2 14)])), ((u_2 14), .inr (1, [.ref (u_2 15)])), ((u_2 15), .inl (cy 0, 63, .inl (fun _ => 0))), ((u_2 2), .inr (8, [.ref (u_2 16), .int 0, .int 0])), ((u_2 4), .inr (4, [.ref (u_2 17), .ref (u_2 18), .ref (u_2 19), .int (-1), .int 0, .int 0])), ((u_2 17), .inr (1, [.ref (u_2 20)])), ((u_2 20), .inl (cy 0, 63, .inl (fun _ => 0))), ((u_2 18), .inr (1, [.ref (u_2 21)])), ((u_2 21), .inl (cy 0, 63, .inl (fun _ => 0))), ((u_2 19), .inr (5, [.ref (u_2 22), .ref (u_2 23), .ref (u_2 24), .int 0])), ((u_2 22), .inl (cy 0, 10, .inl (fun _ => 0))), ((u_2 23), .inl (cy 0, 10, .inl (fun _ => 0))), ((u_2 24), .inl (cy 0, 10, .inl (fun _ => 0))), ((u_2 6), .inr (0, [.ref (u_2 25), .int 0, .int 0])), ((u_2 5), .inl (cy 4, 4, .inr (.inr (.inr (.inr (va_up (va_up (va_up (va_up (fun _ => none) (Int32.toNatClampNeg 0) (some (u_2 30))) (Int32.toNatClampNeg 1) (some (u_2 39))) (Int32.toNatClampNeg 2) (some (u_2 48))) (Int32.toNatClampNeg 3) (some (u_2 57)))))))), ((u_2 30), .inr (4, [.ref (u_2 31), .ref (u_2 32), .ref (u_2 33), .int (-1), .int 0, .int 0])), ((u_2 31), .inr (1, [.ref (u_2 34)])), ((u_2 34), .inl (cy 0, 63, .inl (fun _ => 0))), ((u_2 32), .inr (1, [.ref (u_2 35)])), ((u_2 35), .inl (cy 0, 63, .inl (fun _ => 0))), ((u_2 33), .inr (5, [.ref (u_2 36), .ref (u_2 37), .ref (u_2 38), .int 0])), ((u_2 36), .inl (cy 0, 10, .inl (fun _ => 0))), ((u_2 37), .inl (cy 0, 10, .inl (fun _ => 0))), ((u_2 38), .inl (cy 0, 10, .inl (fun _ => 0))), ((u_2 39), .inr (4, [.ref (u_2 40), .ref (u_2 41), .ref (u_2 42), .int (-1), .int 0, .int 0])), ((u_2 40), .inr (1, [.ref (u_2 43)])), ((u_2 43), .inl (cy 0, 63, .inl (fun _ => 0))), ((u_2 41), .inr (1, [.ref (u_2 44)])), ((u_2 44), .inl (cy 0, 63, .inl (fun _ => 0))), ((u_2 42), .inr (5, [.ref (u_2 45), .ref (u_2 46), .ref (u_2 47), .int 0])), ((u_2 45), .inl (cy 0, 10, .inl (fun _ => 0))), ((u_2 46), .inl (cy 0, 10, .inl (fun _ => 0))), ((u_2 47), .inl (cy 0, 10, .inl (fun _ => 0))), ((u_2 48), .inr (4, [.ref (u_2 49), .ref (u_2 50), .ref (u_2 51), .int (-1), .int 0, .int 0])), ((u_2 49), .inr (1, [.ref (u_2 52)])), ((u_2 52), .inl (cy 0, 63, .inl (fun _ => 0))), ((u_2 50), .inr (1, [.ref (u_2 53)])), ((u_2 53), .inl (cy 0, 63, .inl (fun _ => 0))), ((u_2 51), .inr (5, [.ref (u_2 54), .ref (u_2 55), .ref (u_2 56), .int 0])), ((u_2 54), .inl (cy 0, 10, .inl (fun _ => 0))), ((u_2 55), .inl (cy 0, 10, .inl (fun _ => 0))), ((u_2 56), .inl (cy 0, 10, .inl (fun _ => 0))), ((u_2 57), .inr (4, [.ref (u_2 58), .ref (u_2 59), .ref (u_2 60), .int (-1), .int 0, .int 0])), ((u_2 58), .inr (1, [.ref (u_2 61)])), ((u_2 61), .inl (cy 0, 63, .inl (fun _ => 0))), ((u_2 59), .inr (1, [.ref (u_2 62)])), ((u_2 62), .inl (cy 0, 63, .inl (fun _ => 0))), ((u_2 60), .inr (5, [.ref (u_2 63), .ref (u_2 64), .ref (u_2 65), .int 0])), ((u_2 63), .inl (cy 0, 10, .inl (fun _ => 0))), ((u_2 64), .inl (cy 0, 10, .inl (fun _ => 0))), ((u_2 65), .inl (cy 0, 10, .inl (fun _ => 0)))] H := hP
  have hD : va_D A [(q_1, .inr (11, [.ref (u_2 0), .ref (u_2 1), .ref (u_2 2), .ref (u_2 3), .int 0, .ref (u_2 4), .ref (u_2 5), .ref (u_2 6), .ref (u_2 7), .ref (u_2 8), .ref (u_2 9)])), ((u_2 0), .inr (10, [.ref (u_2 10), .int 0, .ref (u_2 11), .ref (u_2 12), .ref (u_2 13), .int 0, .int 0, .int 0, .int 0, .int 0, .int 0])), ((u_2 10), .inl (cy 0, 400, .inl (fun _ => 0))), ((u_2 11), .inl (cy 0, 401, .inl (fun _ => 0))), ((u_2 12), .inl (cy 0, 401, .inl (fun _ => 0))), ((u_2 13), .inl (cy 0, 401, .inl (fun _ => 0))), ((u_2 1), .inr (3, [.ref (u_2 14)])), ((u_2 14), .inr (1, [.ref (u_2 15)])), ((u_2 15), .inl (cy 0, 63, .inl (fun _ => 0))), ((u_2 2), .inr (8, [.ref (u_2 16), .int 0, .int 0])), ((u_2 4), .inr (4, [.ref (u_2 17), .ref (u_2 18), .ref (u_2 19), .int (-1), .int 0, .int 0])), ((u_2 17), .inr (1, [.ref (u_2 20)])), ((u_2 20), .inl (cy 0, 63, .inl (fun _ => 0))), ((u_2 18), .inr (1, [.ref (u_2 21)])), ((u_2 21), .inl (cy 0, 63, .inl (fun _ => 0))), ((u_2 19), .inr (5, [.ref (u_2 22), .ref (u_2 23), .ref (u_2 24), .int 0])), ((u_2 22), .inl (cy 0, 10, .inl (fun _ => 0))), ((u_2 23), .inl (cy 0, 10, .inl (fun _ => 0))), ((u_2 24), .inl (cy 0, 10, .inl (fun _ => 0))), ((u_2 6), .inr (0, [.ref (u_2 25), .int 0, .int 0])), ((u_2 5), .inl (cy 4, 4, .inr (.inr (.inr (.inr (va_up (va_up (va_up (va_up (fun _ => none) (Int32.toNatClampNeg 0) (some (u_2 30))) (Int32.toNatClampNeg 1) (some (u_2 39))) (Int32.toNatClampNeg 2) (some (u_2 48))) (Int32.toNatClampNeg 3) (some (u_2 57)))))))), ((u_2 30), .inr (4, [.ref (u_2 31), .ref (u_2 32), .ref (u_2 33), .int (-1), .int 0, .int 0])), ((u_2 31), .inr (1, [.ref (u_2 34)])), ((u_2 34), .inl (cy 0, 63, .inl (fun _ => 0))), ((u_2 32), .inr (1, [.ref (u_2 35)])), ((u_2 35), .inl (cy 0, 63, .inl (fun _ => 0))), ((u_2 33), .inr (5, [.ref (u_2 36), .ref (u_2 37), .ref (u_2 38), .int 0])), ((u_2 36), .inl (cy 0, 10, .inl (fun _ => 0))), ((u_2 37), .inl (cy 0, 10, .inl (fun _ => 0))), ((u_2 38), .inl (cy 0, 10, .inl (fun _ => 0))), ((u_2 39), .inr (4, [.ref (u_2 40), .ref (u_2 41), .ref (u_2 42), .int (-1), .int 0, .int 0])), ((u_2 40), .inr (1, [.ref (u_2 43)])), ((u_2 43), .inl (cy 0, 63, .inl (fun _ => 0))), ((u_2 41), .inr (1, [.ref (u_2 44)])), ((u_2 44), .inl (cy 0, 63, .inl (fun _ => 0))), ((u_2 42), .inr (5, [.ref (u_2 45), .ref (u_2 46), .ref (u_2 47), .int 0])), ((u_2 45), .inl (cy 0, 10, .inl (fun _ => 0))), ((u_2 46), .inl (cy 0, 10, .inl (fun _ => 0))), ((u_2 47), .inl (cy 0, 10, .inl (fun _ => 0))), ((u_2 48), .inr (4, [.ref (u_2 49), .ref (u_2 50), .ref (u_2 51), .int (-1), .int 0, .int 0])), ((u_2 49), .inr (1, [.ref (u_2 52)])), ((u_2 52), .inl (cy 0, 63, .inl (fun _ => 0))), ((u_2 50), .inr (1, [.ref (u_2 53)])), ((u_2 53), .inl (cy 0, 63, .inl (fun _ => 0))), ((u_2 51), .inr (5, [.ref (u_2 54), .ref (u_2 55), .ref (u_2 56), .int 0])), ((u_2 54), .inl (cy 0, 10, .inl (fun _ => 0))), ((u_2 55), .inl (cy 0, 10, .inl (fun _ => 0))), ((u_2 56), .inl (cy 0, 10, .inl (fun _ => 0))), ((u_2 57), .inr (4, [.ref (u_2 58), .ref (u_2 59), .ref (u_2 60), .int (-1), .int 0, .int 0])), ((u_2 58), .inr (1, [.ref (u_2 61)])), ((u_2 61), .inl (cy 0, 63, .inl (fun _ => 0))), ((u_2 59), .inr (1, [.ref (u_2 62)])), ((u_2 62), .inl (cy 0, 63, .inl (fun _ => 0))), ((u_2 60), .inr (5, [.ref (u_2 63), .ref (u_2 64), .ref (u_2 65), .int 0])), ((u_2 63), .inl (cy 0, 10, .inl (fun _ => 0))), ((u_2 64), .inl (cy 0, 10, .inl (fun _ => 0))), ((u_2 65), .inl (cy 0, 10, .inl (fun _ => 0)))] := hD
  refine lv_astore_n (lv' := [(1, .ref q_1), (0, .ref b)]) hx hb dL_law_7 rfl hl (by decide) rfl (fun ls hl => ?_)
  refine va_new (ci := 12) (fs := [.null, .int 0, .int 0, .null, .null, .null, .null, .null, .int 0, .int 0, .int 0, .int 0, .int 0, .int 0, .int 0, .null, .int 0, .null, .int 0, .null, .null, .int 0, .int 0, .int 0, .null, .null, .null, .int 0, .null, .null, .null, .null, .null, .null, .long 0, .null, .null, .null, .null]) (C := RX12) (T := TX12) (N := 39) hx hb hG inG_X12 tyX12 tyX12_ok hown (hG _ q_k_L_10) (hG _ q_n_X12) (hG _ q_z_X12) hE.1 hP hD hS hA rfl dfX12 (Nat.le_of_ble_eq_true rfl) (Nat.le_of_ble_eq_true rfl) dL_law_8 (fun q_3 H hP hD hS => ?_)
  have hP : va_P D vwCl [(q_1, .inr (11, [.ref (u_2 0), .ref (u_2 1), .ref (u_2 2), .ref (u_2 3), .int 0, .ref (u_2 4), .ref (u_2 5), .ref (u_2 6), .ref (u_2 7), .ref (u_2 8), .ref (u_2 9)])), ((u_2 0), .inr (10, [.ref (u_2 10), .int 0, .ref (u_2 11), .ref (u_2 12), .ref (u_2 13), .int 0, .int 0, .int 0, .int 0, .int 0, .int 0])), ((u_2 10), .inl (cy 0, 400, .inl (fun _ => 0))), ((u_2 11), .inl (cy 0, 401, .inl (fun _ => 0))), ((u_2 12), .inl (cy 0, 401, .inl (fun _ => 0))), ((u_2 13), .inl (cy 0, 401, .inl (fun _ => 0))), ((u_2 1), .inr (3, [.ref (u_2 14)])), ((u_2 14), .inr (1, [.ref (u_2 15)])), ((u_2 15), .inl (cy 0, 63, .inl (fun _ => 0))), ((u_2 2), .inr (8, [.ref (u_2 16), .int 0, .int 0])), ((u_2 4), .inr (4, [.ref (u_2 17), .ref (u_2 18), .ref (u_2 19), .int (-1), .int 0, .int 0])), ((u_2 17), .inr (1, [.ref (u_2 20)])), ((u_2 20), .inl (cy 0, 63, .inl (fun _ => 0))), ((u_2 18), .inr (1, [.ref (u_2 21)])), ((u_2 21), .inl (cy 0, 63, .inl (fun _ => 0))), ((u_2 19), .inr (5, [.ref (u_2 22), .ref (u_2 23), .ref (u_2 24), .int 0])), ((u_2 22), .inl (cy 0, 10, .inl (fun _ => 0))), ((u_2 23), .inl (cy 0, 10, .inl (fun _ => 0))), ((u_2 24), .inl (cy 0, 10, .inl (fun _ => 0))), ((u_2 6), .inr (0, [.ref (u_2 25), .int 0, .int 0])), ((u_2 5), .inl (cy 4, 4, .inr (.inr (.inr (.inr (va_up (va_up (va_up (va_up (fun _ => none) (Int32.toNatClampNeg 0) (some (u_2 30))) (Int32.toNatClampNeg 1) (some (u_2 39))) (Int32.toNatClampNeg 2) (some (u_2 48))) (Int32.toNatClampNeg 3) (some (u_2 57)))))))), ((u_2 30), .inr (4, [.ref (u_2 31), .ref (u_2 32), .ref (u_2 33), .int (-1), .int 0, .int 0])), ((u_2 31), .inr (1, [.ref (u_2 34)])), ((u_2 34), .inl (cy 0, 63, .inl (fun _ => 0))), ((u_2 32), .inr (1, [.ref (u_2 35)])), ((u_2 35), .inl (cy 0, 63, .inl (fun _ => 0))), ((u_2 33), .inr (5, [.ref (u_2 36), .ref (u_2 37), .ref (u_2 38), .int 0])), ((u_2 36), .inl (cy 0, 10, .inl (fun _ => 0))), ((u_2 37), .inl (cy 0, 10, .inl (fun _ => 0))), ((u_2 38), .inl (cy 0, 10, .inl (fun _ => 0))), ((u_2 39), .inr (4, [.ref (u_2 40), .ref (u_2 41), .ref (u_2 42), .int (-1), .int 0, .int 0])), ((u_2 40), .inr (1, [.ref (u_2 43)])), ((u_2 43), .inl (cy 0, 63, .inl (fun _ => 0))), ((u_2 41), .inr (1, [.ref (u_2 44)])), ((u_2 44), .inl (cy 0, 63, .inl (fun _ => 0))), ((u_2 42), .inr (5, [.ref (u_2 45), .ref (u_2 46), .ref (u_2 47), .int 0])), ((u_2 45), .inl (cy 0, 10, .inl (fun _ => 0))), ((u_2 46), .inl (cy 0, 10, .inl (fun _ => 0))), ((u_2 47), .inl (cy 0, 10, .inl (fun _ => 0))), ((u_2 48), .inr (4, [.ref (u_2 49), .ref (u_2 50), .ref (u_2 51), .int (-1), .int 0, .int 0])), ((u_2 49), .inr (1, [.ref (u_2 52)])), ((u_2 52), .inl (cy 0, 63, .inl (fun _ => 0))), ((u_2 50), .inr (1, [.ref (u_2 53)])), ((u_2 53), .inl (cy 0, 63, .inl (fun _ => 0))), ((u_2 51), .inr (5, [.ref (u_2 54), .ref (u_2 55), .ref (u_2 56), .int 0])), ((u_2 54), .inl (cy 0, 10, .inl (fun _ => 0))), ((u_2 55), .inl (cy 0, 10, .inl (fun _ => 0))), ((u_2 56), .inl (cy 0, 10, .inl (fun _ => 0))), ((u_2 57), .inr (4, [.ref (u_2 58), .ref (u_2 59), .ref (u_2 60), .int (-1), .int 0, .int 0])), ((u_2 58), .inr (1, [.ref (u_2 61)])), ((u_2 61), .inl (cy 0, 63, .inl (fun _ => 0))), ((u_2 59), .inr (1, [.ref (u_2 62)])), ((u_2 62), .inl (cy 0, 63, .inl (fun _ => 0))), ((u_2 60), .inr (5, [.ref (u_2 63), .ref (u_2 64), .ref (u_2 65), .int 0])), ((u_2 63), .inl (cy 0, 10, .inl (fun _ => 0))), ((u_2 64), .inl (cy 0, 10, .inl (fun _ => 0))), ((u_2 65), .inl (cy 0, 10, .inl (fun _ => 0))), (q_3, .inr (12, [.null, .int 0, .int 0, .null, .null, .null, .null, .null, .int 0, .int 0, .int 0, .int 0, .int 0, .int 0, .int 0, .null, .int 0, .null, .int 0, .null, .null, .int 0, .int 0, .int 0, .null, .null, .null, .int 0, .null, .null, .null, .null, .null, .null, .long 0, .null, .null, .null, .null]))] H := hP
  have hD : va_D A [(q_1, .inr (11, [.ref (u_2 0), .ref (u_2 1), .ref (u_2 2), .ref (u_2 3), .int 0, .ref (u_2 4), .ref (u_2 5), .ref (u_2 6), .ref (u_2 7), .ref (u_2 8), .ref (u_2 9)])), ((u_2 0), .inr (10, [.ref (u_2 10), .int 0, .ref (u_2 11), .ref (u_2 12), .ref (u_2 13), .int 0, .int 0, .int 0, .int 0, .int 0, .int 0])), ((u_2 10), .inl (cy 0, 400, .inl (fun _ => 0))), ((u_2 11), .inl (cy 0, 401, .inl (fun _ => 0))), ((u_2 12), .inl (cy 0, 401, .inl (fun _ => 0))), ((u_2 13), .inl (cy 0, 401, .inl (fun _ => 0))), ((u_2 1), .inr (3, [.ref (u_2 14)])), ((u_2 14), .inr (1, [.ref (u_2 15)])), ((u_2 15), .inl (cy 0, 63, .inl (fun _ => 0))), ((u_2 2), .inr (8, [.ref (u_2 16), .int 0, .int 0])), ((u_2 4), .inr (4, [.ref (u_2 17), .ref (u_2 18), .ref (u_2 19), .int (-1), .int 0, .int 0])), ((u_2 17), .inr (1, [.ref (u_2 20)])), ((u_2 20), .inl (cy 0, 63, .inl (fun _ => 0))), ((u_2 18), .inr (1, [.ref (u_2 21)])), ((u_2 21), .inl (cy 0, 63, .inl (fun _ => 0))), ((u_2 19), .inr (5, [.ref (u_2 22), .ref (u_2 23), .ref (u_2 24), .int 0])), ((u_2 22), .inl (cy 0, 10, .inl (fun _ => 0))), ((u_2 23), .inl (cy 0, 10, .inl (fun _ => 0))), ((u_2 24), .inl (cy 0, 10, .inl (fun _ => 0))), ((u_2 6), .inr (0, [.ref (u_2 25), .int 0, .int 0])), ((u_2 5), .inl (cy 4, 4, .inr (.inr (.inr (.inr (va_up (va_up (va_up (va_up (fun _ => none) (Int32.toNatClampNeg 0) (some (u_2 30))) (Int32.toNatClampNeg 1) (some (u_2 39))) (Int32.toNatClampNeg 2) (some (u_2 48))) (Int32.toNatClampNeg 3) (some (u_2 57)))))))), ((u_2 30), .inr (4, [.ref (u_2 31), .ref (u_2 32), .ref (u_2 33), .int (-1), .int 0, .int 0])), ((u_2 31), .inr (1, [.ref (u_2 34)])), ((u_2 34), .inl (cy 0, 63, .inl (fun _ => 0))), ((u_2 32), .inr (1, [.ref (u_2 35)])), ((u_2 35), .inl (cy 0, 63, .inl (fun _ => 0))), ((u_2 33), .inr (5, [.ref (u_2 36), .ref (u_2 37), .ref (u_2 38), .int 0])), ((u_2 36), .inl (cy 0, 10, .inl (fun _ => 0))), ((u_2 37), .inl (cy 0, 10, .inl (fun _ => 0))), ((u_2 38), .inl (cy 0, 10, .inl (fun _ => 0))), ((u_2 39), .inr (4, [.ref (u_2 40), .ref (u_2 41), .ref (u_2 42), .int (-1), .int 0, .int 0])), ((u_2 40), .inr (1, [.ref (u_2 43)])), ((u_2 43), .inl (cy 0, 63, .inl (fun _ => 0))), ((u_2 41), .inr (1, [.ref (u_2 44)])), ((u_2 44), .inl (cy 0, 63, .inl (fun _ => 0))), ((u_2 42), .inr (5, [.ref (u_2 45), .ref (u_2 46), .ref (u_2 47), .int 0])), ((u_2 45), .inl (cy 0, 10, .inl (fun _ => 0))), ((u_2 46), .inl (cy 0, 10, .inl (fun _ => 0))), ((u_2 47), .inl (cy 0, 10, .inl (fun _ => 0))), ((u_2 48), .inr (4, [.ref (u_2 49), .ref (u_2 50), .ref (u_2 51), .int (-1), .int 0, .int 0])), ((u_2 49), .inr (1, [.ref (u_2 52)])), ((u_2 52), .inl (cy 0, 63, .inl (fun _ => 0))), ((u_2 50), .inr (1, [.ref (u_2 53)])), ((u_2 53), .inl (cy 0, 63, .inl (fun _ => 0))), ((u_2 51), .inr (5, [.ref (u_2 54), .ref (u_2 55), .ref (u_2 56), .int 0])), ((u_2 54), .inl (cy 0, 10, .inl (fun _ => 0))), ((u_2 55), .inl (cy 0, 10, .inl (fun _ => 0))), ((u_2 56), .inl (cy 0, 10, .inl (fun _ => 0))), ((u_2 57), .inr (4, [.ref (u_2 58), .ref (u_2 59), .ref (u_2 60), .int (-1), .int 0, .int 0])), ((u_2 58), .inr (1, [.ref (u_2 61)])), ((u_2 61), .inl (cy 0, 63, .inl (fun _ => 0))), ((u_2 59), .inr (1, [.ref (u_2 62)])), ((u_2 62), .inl (cy 0, 63, .inl (fun _ => 0))), ((u_2 60), .inr (5, [.ref (u_2 63), .ref (u_2 64), .ref (u_2 65), .int 0])), ((u_2 63), .inl (cy 0, 10, .inl (fun _ => 0))), ((u_2 64), .inl (cy 0, 10, .inl (fun _ => 0))), ((u_2 65), .inl (cy 0, 10, .inl (fun _ => 0))), (q_3, .inr (12, [.null, .int 0, .int 0, .null, .null, .null, .null, .null, .int 0, .int 0, .int 0, .int 0, .int 0, .int 0, .int 0, .null, .int 0, .null, .int 0, .null, .null, .int 0, .int 0, .int 0, .null, .null, .null, .int 0, .null, .null, .null, .null, .null, .null, .long 0, .null, .null, .null, .null]))] := hD
  refine lv_dup hx hb dL_law_11 rfl ?_
  refine kwII (wr := [(q_1, .inr (11, [.ref (u_2 0), .ref (u_2 1), .ref (u_2 2), .ref (u_2 3), .int 0, .ref (u_2 4), .ref (u_2 5), .ref (u_2 6), .ref (u_2 7), .ref (u_2 8), .ref (u_2 9)])), ((u_2 0), .inr (10, [.ref (u_2 10), .int 0, .ref (u_2 11), .ref (u_2 12), .ref (u_2 13), .int 0, .int 0, .int 0, .int 0, .int 0, .int 0])), ((u_2 10), .inl (cy 0, 400, .inl (fun _ => 0))), ((u_2 11), .inl (cy 0, 401, .inl (fun _ => 0))), ((u_2 12), .inl (cy 0, 401, .inl (fun _ => 0))), ((u_2 13), .inl (cy 0, 401, .inl (fun _ => 0))), ((u_2 1), .inr (3, [.ref (u_2 14)])), ((u_2 14), .inr (1, [.ref (u_2 15)])), ((u_2 15), .inl (cy 0, 63, .inl (fun _ => 0))), ((u_2 2), .inr (8, [.ref (u_2 16), .int 0, .int 0])), ((u_2 4), .inr (4, [.ref (u_2 17), .ref (u_2 18), .ref (u_2 19), .int (-1), .int 0, .int 0])), ((u_2 17), .inr (1, [.ref (u_2 20)])), ((u_2 20), .inl (cy 0, 63, .inl (fun _ => 0))), ((u_2 18), .inr (1, [.ref (u_2 21)])), ((u_2 21), .inl (cy 0, 63, .inl (fun _ => 0))), ((u_2 19), .inr (5, [.ref (u_2 22), .ref (u_2 23), .ref (u_2 24), .int 0])), ((u_2 22), .inl (cy 0, 10, .inl (fun _ => 0))), ((u_2 23), .inl (cy 0, 10, .inl (fun _ => 0))), ((u_2 24), .inl (cy 0, 10, .inl (fun _ => 0))), ((u_2 6), .inr (0, [.ref (u_2 25), .int 0, .int 0])), ((u_2 5), .inl (cy 4, 4, .inr (.inr (.inr (.inr (va_up (va_up (va_up (va_up (fun _ => none) (Int32.toNatClampNeg 0) (some (u_2 30))) (Int32.toNatClampNeg 1) (some (u_2 39))) (Int32.toNatClampNeg 2) (some (u_2 48))) (Int32.toNatClampNeg 3) (some (u_2 57)))))))), ((u_2 30), .inr (4, [.ref (u_2 31), .ref (u_2 32), .ref (u_2 33), .int (-1), .int 0, .int 0])), ((u_2 31), .inr (1, [.ref (u_2 34)])), ((u_2 34), .inl (cy 0, 63, .inl (fun _ => 0))), ((u_2 32), .inr (1, [.ref (u_2 35)])), ((u_2 35), .inl (cy 0, 63, .inl (fun _ => 0))), ((u_2 33), .inr (5, [.ref (u_2 36), .ref (u_2 37), .ref (u_2 38), .int 0])), ((u_2 36), .inl (cy 0, 10, .inl (fun _ => 0))), ((u_2 37), .inl (cy 0, 10, .inl (fun _ => 0))), ((u_2 38), .inl (cy 0, 10, .inl (fun _ => 0))), ((u_2 39), .inr (4, [.ref (u_2 40), .ref (u_2 41), .ref (u_2 42), .int (-1), .int 0, .int 0])), ((u_2 40), .inr (1, [.ref (u_2 43)])), ((u_2 43), .inl (cy 0, 63, .inl (fun _ => 0))), ((u_2 41), .inr (1, [.ref (u_2 44)])), ((u_2 44), .inl (cy 0, 63, .inl (fun _ => 0))), ((u_2 42), .inr (5, [.ref (u_2 45), .ref (u_2 46), .ref (u_2 47), .int 0])), ((u_2 45), .inl (cy 0, 10, .inl (fun _ => 0))), ((u_2 46), .inl (cy 0, 10, .inl (fun _ => 0))), ((u_2 47), .inl (cy 0, 10, .inl (fun _ => 0))), ((u_2 48), .inr (4, [.ref (u_2 49), .ref (u_2 50), .ref (u_2 51), .int (-1), .int 0, .int 0])), ((u_2 49), .inr (1, [.ref (u_2 52)])), ((u_2 52), .inl (cy 0, 63, .inl (fun _ => 0))), ((u_2 50), .inr (1, [.ref (u_2 53)])), ((u_2 53), .inl (cy 0, 63, .inl (fun _ => 0))), ((u_2 51), .inr (5, [.ref (u_2 54), .ref (u_2 55), .ref (u_2 56), .int 0])), ((u_2 54), .inl (cy 0, 10, .inl (fun _ => 0))), ((u_2 55), .inl (cy 0, 10, .inl (fun _ => 0))), ((u_2 56), .inl (cy 0, 10, .inl (fun _ => 0))), ((u_2 57), .inr (4, [.ref (u_2 58), .ref (u_2 59), .ref (u_2 60), .int (-1), .int 0, .int 0])), ((u_2 58), .inr (1, [.ref (u_2 61)])), ((u_2 61), .inl (cy 0, 63, .inl (fun _ => 0))), ((u_2 59), .inr (1, [.ref (u_2 62)])), ((u_2 62), .inl (cy 0, 63, .inl (fun _ => 0))), ((u_2 60), .inr (5, [.ref (u_2 63), .ref (u_2 64), .ref (u_2 65), .int 0])), ((u_2 63), .inl (cy 0, 10, .inl (fun _ => 0))), ((u_2 64), .inl (cy 0, 10, .inl (fun _ => 0))), ((u_2 65), .inl (cy 0, 10, .inl (fun _ => 0)))]) (As := []) (rest := [.ref q_3]) F hE hP hD hS hA hl.1 (n_Model l D cy (h0 := q_3)) q_m_L_12 mi_X12_init ⟨(Nat.le_of_ble_eq_true rfl), (Nat.le_of_ble_eq_true rfl)⟩ [57] [0, 1, 2, 3, 4, 5, 6, 7, 8, 9, 10, 11, 12, 13, 14, 15, 16, 17, 18, 19, 20, 21, 22, 23, 24, 25, 26, 27, 28, 29, 30, 31, 32, 33, 34, 35, 36, 37, 38, 39, 40, 41, 42, 43, 44, 45, 46, 47, 48, 49, 50, 51, 52, 53, 54, 55, 56] (by decide) rfl rfl (by decide) (by decide) rfl rfl (Nat.le_of_ble_eq_true rfl) ⟨(Nat.le_of_ble_eq_true rfl), (Nat.le_of_ble_eq_true rfl)⟩ dL_law_12 (fun u_4 H locs eu_4 hP hD hS => ?_)
  have hP : va_P D vwCl [(q_1, .inr (11, [.ref (u_2 0), .ref (u_2 1), .ref (u_2 2), .ref (u_2 3), .int 0, .ref (u_2 4), .ref (u_2 5), .ref (u_2 6), .ref (u_2 7), .ref (u_2 8), .ref (u_2 9)])), ((u_2 0), .inr (10, [.ref (u_2 10), .int 0, .ref (u_2 11), .ref (u_2 12), .ref (u_2 13), .int 0, .int 0, .int 0, .int 0, .int 0, .int 0])), ((u_2 10), .inl (cy 0, 400, .inl (fun _ => 0))), ((u_2 11), .inl (cy 0, 401, .inl (fun _ => 0))), ((u_2 12), .inl (cy 0, 401, .inl (fun _ => 0))), ((u_2 13), .inl (cy 0, 401, .inl (fun _ => 0))), ((u_2 1), .inr (3, [.ref (u_2 14)])), ((u_2 14), .inr (1, [.ref (u_2 15)])), ((u_2 15), .inl (cy 0, 63, .inl (fun _ => 0))), ((u_2 2), .inr (8, [.ref (u_2 16), .int 0, .int 0])), ((u_2 4), .inr (4, [.ref (u_2 17), .ref (u_2 18), .ref (u_2 19), .int (-1), .int 0, .int 0])), ((u_2 17), .inr (1, [.ref (u_2 20)])), ((u_2 20), .inl (cy 0, 63, .inl (fun _ => 0))), ((u_2 18), .inr (1, [.ref (u_2 21)])), ((u_2 21), .inl (cy 0, 63, .inl (fun _ => 0))), ((u_2 19), .inr (5, [.ref (u_2 22), .ref (u_2 23), .ref (u_2 24), .int 0])), ((u_2 22), .inl (cy 0, 10, .inl (fun _ => 0))), ((u_2 23), .inl (cy 0, 10, .inl (fun _ => 0))), ((u_2 24), .inl (cy 0, 10, .inl (fun _ => 0))), ((u_2 6), .inr (0, [.ref (u_2 25), .int 0, .int 0])), ((u_2 5), .inl (cy 4, 4, .inr (.inr (.inr (.inr (va_up (va_up (va_up (va_up (fun _ => none) (Int32.toNatClampNeg 0) (some (u_2 30))) (Int32.toNatClampNeg 1) (some (u_2 39))) (Int32.toNatClampNeg 2) (some (u_2 48))) (Int32.toNatClampNeg 3) (some (u_2 57)))))))), ((u_2 30), .inr (4, [.ref (u_2 31), .ref (u_2 32), .ref (u_2 33), .int (-1), .int 0, .int 0])), ((u_2 31), .inr (1, [.ref (u_2 34)])), ((u_2 34), .inl (cy 0, 63, .inl (fun _ => 0))), ((u_2 32), .inr (1, [.ref (u_2 35)])), ((u_2 35), .inl (cy 0, 63, .inl (fun _ => 0))), ((u_2 33), .inr (5, [.ref (u_2 36), .ref (u_2 37), .ref (u_2 38), .int 0])), ((u_2 36), .inl (cy 0, 10, .inl (fun _ => 0))), ((u_2 37), .inl (cy 0, 10, .inl (fun _ => 0))), ((u_2 38), .inl (cy 0, 10, .inl (fun _ => 0))), ((u_2 39), .inr (4, [.ref (u_2 40), .ref (u_2 41), .ref (u_2 42), .int (-1), .int 0, .int 0])), ((u_2 40), .inr (1, [.ref (u_2 43)])), ((u_2 43), .inl (cy 0, 63, .inl (fun _ => 0))), ((u_2 41), .inr (1, [.ref (u_2 44)])), ((u_2 44), .inl (cy 0, 63, .inl (fun _ => 0))), ((u_2 42), .inr (5, [.ref (u_2 45), .ref (u_2 46), .ref (u_2 47), .int 0])), ((u_2 45), .inl (cy 0, 10, .inl (fun _ => 0))), ((u_2 46), .inl (cy 0, 10, .inl (fun _ => 0))), ((u_2 47), .inl (cy 0, 10, .inl (fun _ => 0))), ((u_2 48), .inr (4, [.ref (u_2 49), .ref (u_2 50), .ref (u_2 51), .int (-1), .int 0, .int 0])), ((u_2 49), .inr (1, [.ref (u_2 52)])), ((u_2 52), .inl (cy 0, 63, .inl (fun _ => 0))), ((u_2 50), .inr (1, [.ref (u_2 53)])), ((u_2 53), .inl (cy 0, 63, .inl (fun _ => 0))), ((u_2 51), .inr (5, [.ref (u_2 54), .ref (u_2 55), .ref (u_2 56), .int 0])), ((u_2 54), .inl (cy 0, 10, .inl (fun _ => 0))), ((u_2 55), .inl (cy 0, 10, .inl (fun _ => 0))), ((u_2 56), .inl (cy 0, 10, .inl (fun _ => 0))), ((u_2 57), .inr (4, [.ref (u_2 58), .ref (u_2 59), .ref (u_2 60), .int (-1), .int 0, .int 0])), ((u_2 58), .inr (1, [.ref (u_2 61)])), ((u_2 61), .inl (cy 0, 63, .inl (fun _ => 0))), ((u_2 59), .inr (1, [.ref (u_2 62)])), ((u_2 62), .inl (cy 0, 63, .inl (fun _ => 0))), ((u_2 60), .inr (5, [.ref (u_2 63), .ref (u_2 64), .ref (u_2 65), .int 0])), ((u_2 63), .inl (cy 0, 10, .inl (fun _ => 0))), ((u_2 64), .inl (cy 0, 10, .inl (fun _ => 0))), ((u_2 65), .inl (cy 0, 10, .inl (fun _ => 0))), (q_3, .inr (12, [.ref (u_4 0), .int 0, .int 0, .ref (u_4 1), .ref (u_4 2), .ref (u_4 3), .ref (u_4 4), .ref (u_4 5), .int 0, .int 0, .int 0, .int 0, .int 0, .int 0, .int 0, .ref (u_4 6), .int 0, .ref (u_4 7), .int 0, .ref (u_4 8), .ref (u_4 9), .int (-1), .int 0, .int (-1), .ref (u_4 10), .ref (u_4 11), .ref (u_4 12), .int 0, .ref (u_4 13), .ref (u_4 14), .ref (u_4 15), .ref (u_4 16), .ref (u_4 17), .ref (u_4 18), .long 0, .ref (u_4 19), .ref (u_4 20), .ref (u_4 21), .ref (u_4 22)])), ((u_4 0), .inl (cy 2, 400, .inl (fun _ => 0))), ((u_4 1), .inl (cy 0, 2400, .inl (fun _ => 0))), ((u_4 2), .inl (cy 0, 7, .inl (fun _ => 0))), ((u_4 3), .inl (cy 0, 288, .inl (fun _ => 0))), ((u_4 4), .inl (cy 0, 6, .inl (fun _ => 0))), ((u_4 5), .inl (cy 0, 84, .inl (fun _ => 0))), ((u_4 6), .inl (cy 0, 400, .inl (fun _ => 0))), ((u_4 7), .inl (cy 1, 64, .inr (.inl (fun _ => 0)))), ((u_4 8), .inl (cy 1, 13, .inr (.inl (fun _ => 0)))), ((u_4 9), .inl (cy 0, 115, .inl (fun _ => 0))), ((u_4 11), .inl (cy 0, 5, .inl (fun _ => 0))), ((u_4 12), .inl (cy 0, 600, .inl (fun _ => 0))), ((u_4 13), .inl (cy 0, 30, .inl (fun _ => 0))), ((u_4 14), .inl (cy 0, 5, .inl (fun _ => 0))), ((u_4 15), .inl (cy 0, 5, .inl (fun _ => 0))), ((u_4 16), .inl (cy 0, 72, .inl (fun _ => 0))), ((u_4 17), .inl (cy 3, 7, .inl (fun _ => 0))), ((u_4 18), .inl (cy 0, 35, .inl (fun _ => 0))), ((u_4 19), .inl (cy 0, 460, .inl (fun _ => 0))), ((u_4 20), .inl (cy 0, 4, .inl (fun _ => 0))), ((u_4 21), .inl (cy 0, 4, .inl (fun _ => 0))), ((u_4 22), .inl (cy 3, 4, .inl (fun _ => 0)))] H := hP
  have hD : va_D A [(q_1, .inr (11, [.ref (u_2 0), .ref (u_2 1), .ref (u_2 2), .ref (u_2 3), .int 0, .ref (u_2 4), .ref (u_2 5), .ref (u_2 6), .ref (u_2 7), .ref (u_2 8), .ref (u_2 9)])), ((u_2 0), .inr (10, [.ref (u_2 10), .int 0, .ref (u_2 11), .ref (u_2 12), .ref (u_2 13), .int 0, .int 0, .int 0, .int 0, .int 0, .int 0])), ((u_2 10), .inl (cy 0, 400, .inl (fun _ => 0))), ((u_2 11), .inl (cy 0, 401, .inl (fun _ => 0))), ((u_2 12), .inl (cy 0, 401, .inl (fun _ => 0))), ((u_2 13), .inl (cy 0, 401, .inl (fun _ => 0))), ((u_2 1), .inr (3, [.ref (u_2 14)])), ((u_2 14), .inr (1, [.ref (u_2 15)])), ((u_2 15), .inl (cy 0, 63, .inl (fun _ => 0))), ((u_2 2), .inr (8, [.ref (u_2 16), .int 0, .int 0])), ((u_2 4), .inr (4, [.ref (u_2 17), .ref (u_2 18), .ref (u_2 19), .int (-1), .int 0, .int 0])), ((u_2 17), .inr (1, [.ref (u_2 20)])), ((u_2 20), .inl (cy 0, 63, .inl (fun _ => 0))), ((u_2 18), .inr (1, [.ref (u_2 21)])), ((u_2 21), .inl (cy 0, 63, .inl (fun _ => 0))), ((u_2 19), .inr (5, [.ref (u_2 22), .ref (u_2 23), .ref (u_2 24), .int 0])), ((u_2 22), .inl (cy 0, 10, .inl (fun _ => 0))), ((u_2 23), .inl (cy 0, 10, .inl (fun _ => 0))), ((u_2 24), .inl (cy 0, 10, .inl (fun _ => 0))), ((u_2 6), .inr (0, [.ref (u_2 25), .int 0, .int 0])), ((u_2 5), .inl (cy 4, 4, .inr (.inr (.inr (.inr (va_up (va_up (va_up (va_up (fun _ => none) (Int32.toNatClampNeg 0) (some (u_2 30))) (Int32.toNatClampNeg 1) (some (u_2 39))) (Int32.toNatClampNeg 2) (some (u_2 48))) (Int32.toNatClampNeg 3) (some (u_2 57)))))))), ((u_2 30), .inr (4, [.ref (u_2 31), .ref (u_2 32), .ref (u_2 33), .int (-1), .int 0, .int 0])), ((u_2 31), .inr (1, [.ref (u_2 34)])), ((u_2 34), .inl (cy 0, 63, .inl (fun _ => 0))), ((u_2 32), .inr (1, [.ref (u_2 35)])), ((u_2 35), .inl (cy 0, 63, .inl (fun _ => 0))), ((u_2 33), .inr (5, [.ref (u_2 36), .ref (u_2 37), .ref (u_2 38), .int 0])), ((u_2 36), .inl (cy 0, 10, .inl (fun _ => 0))), ((u_2 37), .inl (cy 0, 10, .inl (fun _ => 0))), ((u_2 38), .inl (cy 0, 10, .inl (fun _ => 0))), ((u_2 39), .inr (4, [.ref (u_2 40), .ref (u_2 41), .ref (u_2 42), .int (-1), .int 0, .int 0])), ((u_2 40), .inr (1, [.ref (u_2 43)])), ((u_2 43), .inl (cy 0, 63, .inl (fun _ => 0))), ((u_2 41), .inr (1, [.ref (u_2 44)])), ((u_2 44), .inl (cy 0, 63, .inl (fun _ => 0))), ((u_2 42), .inr (5, [.ref (u_2 45), .ref (u_2 46), .ref (u_2 47), .int 0])), ((u_2 45), .inl (cy 0, 10, .inl (fun _ => 0))), ((u_2 46), .inl (cy 0, 10, .inl (fun _ => 0))), ((u_2 47), .inl (cy 0, 10, .inl (fun _ => 0))), ((u_2 48), .inr (4, [.ref (u_2 49), .ref (u_2 50), .ref (u_2 51), .int (-1), .int 0, .int 0])), ((u_2 49), .inr (1, [.ref (u_2 52)])), ((u_2 52), .inl (cy 0, 63, .inl (fun _ => 0))), ((u_2 50), .inr (1, [.ref (u_2 53)])), ((u_2 53), .inl (cy 0, 63, .inl (fun _ => 0))), ((u_2 51), .inr (5, [.ref (u_2 54), .ref (u_2 55), .ref (u_2 56), .int 0])), ((u_2 54), .inl (cy 0, 10, .inl (fun _ => 0))), ((u_2 55), .inl (cy 0, 10, .inl (fun _ => 0))), ((u_2 56), .inl (cy 0, 10, .inl (fun _ => 0))), ((u_2 57), .inr (4, [.ref (u_2 58), .ref (u_2 59), .ref (u_2 60), .int (-1), .int 0, .int 0])), ((u_2 58), .inr (1, [.ref (u_2 61)])), ((u_2 61), .inl (cy 0, 63, .inl (fun _ => 0))), ((u_2 59), .inr (1, [.ref (u_2 62)])), ((u_2 62), .inl (cy 0, 63, .inl (fun _ => 0))), ((u_2 60), .inr (5, [.ref (u_2 63), .ref (u_2 64), .ref (u_2 65), .int 0])), ((u_2 63), .inl (cy 0, 10, .inl (fun _ => 0))), ((u_2 64), .inl (cy 0, 10, .inl (fun _ => 0))), ((u_2 65), .inl (cy 0, 10, .inl (fun _ => 0))), (q_3, .inr (12, [.ref (u_4 0), .int 0, .int 0, .ref (u_4 1), .ref (u_4 2), .ref (u_4 3), .ref (u_4 4), .ref (u_4 5), .int 0, .int 0, .int 0, .int 0, .int 0, .int 0, .int 0, .ref (u_4 6), .int 0, .ref (u_4 7), .int 0, .ref (u_4 8), .ref (u_4 9), .int (-1), .int 0, .int (-1), .ref (u_4 10), .ref (u_4 11), .ref (u_4 12), .int 0, .ref (u_4 13), .ref (u_4 14), .ref (u_4 15), .ref (u_4 16), .ref (u_4 17), .ref (u_4 18), .long 0, .ref (u_4 19), .ref (u_4 20), .ref (u_4 21), .ref (u_4 22)])), ((u_4 0), .inl (cy 2, 400, .inl (fun _ => 0))), ((u_4 1), .inl (cy 0, 2400, .inl (fun _ => 0))), ((u_4 2), .inl (cy 0, 7, .inl (fun _ => 0))), ((u_4 3), .inl (cy 0, 288, .inl (fun _ => 0))), ((u_4 4), .inl (cy 0, 6, .inl (fun _ => 0))), ((u_4 5), .inl (cy 0, 84, .inl (fun _ => 0))), ((u_4 6), .inl (cy 0, 400, .inl (fun _ => 0))), ((u_4 7), .inl (cy 1, 64, .inr (.inl (fun _ => 0)))), ((u_4 8), .inl (cy 1, 13, .inr (.inl (fun _ => 0)))), ((u_4 9), .inl (cy 0, 115, .inl (fun _ => 0))), ((u_4 11), .inl (cy 0, 5, .inl (fun _ => 0))), ((u_4 12), .inl (cy 0, 600, .inl (fun _ => 0))), ((u_4 13), .inl (cy 0, 30, .inl (fun _ => 0))), ((u_4 14), .inl (cy 0, 5, .inl (fun _ => 0))), ((u_4 15), .inl (cy 0, 5, .inl (fun _ => 0))), ((u_4 16), .inl (cy 0, 72, .inl (fun _ => 0))), ((u_4 17), .inl (cy 3, 7, .inl (fun _ => 0))), ((u_4 18), .inl (cy 0, 35, .inl (fun _ => 0))), ((u_4 19), .inl (cy 0, 460, .inl (fun _ => 0))), ((u_4 20), .inl (cy 0, 4, .inl (fun _ => 0))), ((u_4 21), .inl (cy 0, 4, .inl (fun _ => 0))), ((u_4 22), .inl (cy 3, 4, .inl (fun _ => 0)))] := hD
  refine lv_astore_n (lv' := [(2, .ref q_3), (1, .ref q_1), (0, .ref b)]) hx hb dL_law_15 rfl hl (by decide) rfl (fun ls hl => ?_)
  refine lv_iconst (v := 0) hx hb dL_law_16 (by decide) ?_
  refine lv_istore_n (lv' := [(3, .int 0), (2, .ref q_3), (1, .ref q_1), (0, .ref b)]) hx hb dL_law_17 rfl hl (by decide) rfl (fun ls hl => ?_)
  refine W.widen (k := 123) (n := 9571) (Nat.le_of_ble_eq_true rfl) (Nat.le_of_ble_eq_true rfl) ?_
  rcases Nat.lt_or_ge L 6 with hlt | hge
  · exact law_short F hE hX hbl hAA hA hlt u_2 u_4 q_1 q_3 hP hD hS (lv_sub hl [0, 1, 2, 3] rfl)
  · obtain rfl : L = 6 := Nat.le_antisymm hL hge
    exact law_main F hE hX hbl hAA hA u_2 u_4 q_1 q_3 hP hD hS (lv_sub hl [0, 1, 2, 3] rfl)
