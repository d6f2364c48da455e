set_option maxHeartbeats 4000000 in
set_option maxRecDepth 100000 in
theorem law_loop {p : Program} {l : Launch} {e : Env} {s : State} {m : MethodId} {below : List Frame} {meth : Method} {c : Code} {b L : Nat} {xs : Nat → Int32} {D : va_G} {cy : Nat → ClassId} {A : Nat → Prop} {kt vt : Nat} (F : kF p s m meth c code 4 ret #[Value.ref b] RL) (hE : kE D (kTY cy) s) (hX : va_X b L xs s s.heap) (hbl : b < s.heap.size) (hAA : ∀ q : Nat, A q → s.heap.size ≤ q) (hA : ∀ q : Nat, s.heap.size ≤ q → A q) (hZ : ZT kt vt A s s.heap) (hL : L ≤ 3072) (fu : Nat) (i : Int32) (hi0 : 0 ≤ i.toInt) (hm : (L : Int) - i.toInt < (fu : Int)) (o m0 : Nat) {cw rw T : va_W} {x : Int32} {ix md : Nat → Int32} (hcb : LCB cy T o x ix md cw) (hrb : LRB cy m0 x ix md rw) {H : Heap} {locs : List Loc} (hP : va_P D vwCl (cw ++ (rw ++ T)) H) (hD : va_D A (cw ++ (rw ++ T))) (hS : va_S A s.heap H locs) {ls : Array Slot} (hl : lv_has ls 4 [(3, .int i), (2, .ref m0), (1, .ref o), (0, .ref b)]) {C S : Nat} (hC : C + 2 * fu ≤ 600000) (hSl : S + 414 * fu ≤ 7302250) (hiL : i.toInt ≤ (L : Int)) : W p l e room_1 s m #[Value.ref b] below meth c H locs C S (lw_Z below #[Value.ref b] s) (F0 m 18 ls []) := by
  obtain ⟨hx, hb, hr, hml, hown, hG, hlk⟩ := id F
  have hbA : ¬ A b := fun h => absurd (hAA b h) (Nat.not_le.mpr hbl)
  have lenI : (Int32.ofNat L).toInt = (L : Int) := nI_toInt (by omega)
  induction fu generalizing i cw rw T x ix md H locs ls C S with
  | zero => exact absurd hm (by omega)
  | succ fu ih =>
    refine lv_iload_n hx hb dL_law_18 rfl (lv_at hl 0 rfl) ?_
    refine lv_aload_n hx hb dL_law_19 rfl (lv_at hl 3 rfl) ?_
    refine va_slen hx hb hX hbl hbA hS dL_law_20 ?_
    refine lv_bipush (v := 6) hx hb dL_law_21 (by decide) ?_
    refine lv_isub hx hb dL_law_23 ?_
    refine lv_topi (fun z ez => ?_)
    have iz : z.toInt = (L : Int) - 6 := k_subI ez lenI (by decide) (by omega)
    refine lv_icmp_gt (tgt := 1266) hx hb dL_law_24 (by decide) (fun c1 => ?_) (fun c1 => ?_)
    · refine lv_iconst (v := 1) hx hb dL_law_1266 (by decide) ?_
      refine va_forget (fun q hq => hAA _ (hS.2.2 q hq)) ?_
      refine W.widen (k := 600000) (n := 7302250) (by omega) (by omega) ?_
      exact lw_ret hx hb hr hlk dL_law_1267
    · have ic : i.toInt ≤ z.toInt := k_nlt c1 rfl rfl
      have kk : ∀ (cw rw T : va_W) (x : Int32) (ix md : Nat → Int32) (H : Heap) (locs : List Loc) (ls : Array Slot) (C1 S1 : Nat), C1 ≤ C + 2 → S1 ≤ S + 414 → LCB cy T o x ix md cw → LRB cy m0 x ix md rw → va_P D vwCl (cw ++ (rw ++ T)) H → va_D A (cw ++ (rw ++ T)) → va_S A s.heap H locs → lv_has ls 4 [(3, .int i), (2, .ref m0), (1, .ref o), (0, .ref b)] → W p l e room_1 s m #[Value.ref b] below meth c H locs C1 S1 (lw_Z below #[Value.ref b] s) (F0 m 1260 ls []) := by
        intro cw rw T x ix md H locs ls C1 S1 hC1 hS1 hcb hrb hP hD hS hl
        refine lv_iinc (v := i + 6) (lv' := [(3, .int (i + 6)), (2, .ref m0), (1, .ref o), (0, .ref b)]) hx hb dL_law_1260 hl (k := 0) rfl rfl (by decide) rfl (fun ls hl => ?_)
        refine lv_goto (tgt := 18) hx hb dL_law_1263 (by decide) ?_
        have j6 : (i + 6).toInt = i.toInt + 6 := k_addI rfl rfl (by decide) (by omega)
        exact ih (i + 6) (by omega) (by omega) hcb hrb hP hD hS (lv_sub hl [0, 1, 2, 3] rfl) (by omega) (by omega) (by omega)
      refine lv_aload_n hx hb dL_law_27 rfl (lv_at hl 3 rfl) ?_
      refine lv_iload_n hx hb dL_law_28 rfl (lv_at hl 0 rfl) ?_
      refine va_sld hx hb hX hbl hbA hS (k_in (by omega)) dL_law_29 ?_
      refine lv_bipush (v := 63) hx hb dL_law_30 (by decide) ?_
      refine lv_iand hx hb dL_law_32 ?_
      refine lv_topi (fun y ey => ?_)
      by_cases c_0 : y.toInt = 0
      · refine lv_tableIn (off := 159) (tgt := 192) hx hb dL_law_33 (by omega) (by omega) (by rw [c_0]; rfl) (by decide) ?_
        exact lc_feed F hE hX hbl hAA hA hZ hL i hi0 (by omega) o m0 hcb hrb hP hD hS (lv_sub hl [0, 1, 2, 3] rfl) (by omega) (by omega) kk
      by_cases c_1 : y.toInt = 1
      · refine lv_tableIn (off := 222) (tgt := 255) hx hb dL_law_33 (by omega) (by omega) (by rw [c_1]; rfl) (by decide) ?_
        exact lc_end F hE hX hbl hAA hA hZ hL i hi0 (by omega) o m0 hcb hrb hP hD hS (lv_sub hl [0, 1, 2, 3] rfl) (by omega) (by omega) kk
      by_cases c_2 : y.toInt = 2
      · refine lv_tableIn (off := 245) (tgt := 278) hx hb dL_law_33 (by omega) (by omega) (by rw [c_2]; rfl) (by decide) ?_
        exact lc_green F hE hX hbl hAA hA hZ hL i hi0 (by omega) o m0 hcb hrb hP hD hS (lv_sub hl [0, 1, 2, 3] rfl) (by omega) (by omega) kk
      by_cases c_3 : y.toInt = 3
      · refine lv_tableIn (off := 258) (tgt := 291) hx hb dL_law_33 (by omega) (by omega) (by rw [c_3]; rfl) (by decide) ?_
        exact lc_rule F hE hX hbl hAA hA hZ hL i hi0 (by omega) o m0 hcb hrb hP hD hS (lv_sub hl [0, 1, 2, 3] rfl) (by omega) (by omega) kk
      by_cases c_4 : y.toInt = 4
      · refine lv_tableIn (off := 271) (tgt := 304) hx hb dL_law_33 (by omega) (by omega) (by rw [c_4]; rfl) (by decide) ?_
        exact lc_force F hE hX hbl hAA hA hZ hL i hi0 (by omega) o m0 hcb hrb hP hD hS (lv_sub hl [0, 1, 2, 3] rfl) (by omega) (by omega) kk
      by_cases c_5 : y.toInt = 5
      · refine lv_tableIn (off := 294) (tgt := 327) hx hb dL_law_33 (by omega) (by omega) (by rw [c_5]; rfl) (by decide) ?_
        exact lc_ring F hE hX hbl hAA hA hZ hL i hi0 (by omega) o m0 hcb hrb hP hD hS (lv_sub hl [0, 1, 2, 3] rfl) (by omega) (by omega) kk
      by_cases c_6 : y.toInt = 6
      · refine lv_tableIn (off := 327) (tgt := 360) hx hb dL_law_33 (by omega) (by omega) (by rw [c_6]; rfl) (by decide) ?_
        exact lc_archer F hE hX hbl hAA hA hZ hL i hi0 (by omega) o m0 hcb hrb hP hD hS (lv_sub hl [0, 1, 2, 3] rfl) (by omega) (by omega) kk
      by_cases c_7 : y.toInt = 7
      · refine lv_tableIn (off := 360) (tgt := 393) hx hb dL_law_33 (by omega) (by omega) (by rw [c_7]; rfl) (by decide) ?_
        exact lc_wind F hE hX hbl hAA hA hZ hL i hi0 (by omega) o m0 hcb hrb hP hD hS (lv_sub hl [0, 1, 2, 3] rfl) (by omega) (by omega) kk
      by_cases c_8 : y.toInt = 8
      · refine lv_tableIn (off := 383) (tgt := 416) hx hb dL_law_33 (by omega) (by omega) (by rw [c_8]; rfl) (by decide) ?_
        exact lc_round F hE hX hbl hAA hA hZ hL i hi0 (by omega) o m0 hcb hrb hP hD hS (lv_sub hl [0, 1, 2, 3] rfl) (by omega) (by omega) kk
      by_cases c_9 : y.toInt = 9
      · refine lv_tableIn (off := 396) (tgt := 429) hx hb dL_law_33 (by omega) (by omega) (by rw [c_9]; rfl) (by decide) ?_
        exact lc_shoot F hE hX hbl hAA hA hZ hL i hi0 (by omega) o m0 hcb hrb hP hD hS (lv_sub hl [0, 1, 2, 3] rfl) (by omega) (by omega) kk
      by_cases c_10 : y.toInt = 10
      · refine lv_tableIn (off := 429) (tgt := 462) hx hb dL_law_33 (by omega) (by omega) (by rw [c_10]; rfl) (by decide) ?_
        exact lc_pull F hE hX hbl hAA hA hZ hL i hi0 (by omega) o m0 hcb hrb hP hD hS (lv_sub hl [0, 1, 2, 3] rfl) (by omega) (by omega) kk
      by_cases c_11 : y.toInt = 11
      · refine lv_tableIn (off := 462) (tgt := 495) hx hb dL_law_33 (by omega) (by omega) (by rw [c_11]; rfl) (by decide) ?_
        exact lc_breath F hE hX hbl hAA hA hZ hL i hi0 (by omega) o m0 hcb hrb hP hD hS (lv_sub hl [0, 1, 2, 3] rfl) (by omega) (by omega) kk
      by_cases c_12 : y.toInt = 12
      · refine lv_tableIn (off := 485) (tgt := 518) hx hb dL_law_33 (by omega) (by omega) (by rw [c_12]; rfl) (by decide) ?_
        exact lc_teach F hE hX hbl hAA hA hZ hL i hi0 (by omega) o m0 hcb hrb hP hD hS (lv_sub hl [0, 1, 2, 3] rfl) (by omega) (by omega) kk
      by_cases c_13 : y.toInt = 13
      · refine lv_tableIn (off := 518) (tgt := 551) hx hb dL_law_33 (by omega) (by omega) (by rw [c_13]; rfl) (by decide) ?_
        exact lc_undo F hE hX hbl hAA hA hZ hL i hi0 (by omega) o m0 hcb hrb hP hD hS (lv_sub hl [0, 1, 2, 3] rfl) (by omega) (by omega) kk
      by_cases c_14 : y.toInt = 14
      · refine lv_tableIn (off := 531) (tgt := 564) hx hb dL_law_33 (by omega) (by omega) (by rw [c_14]; rfl) (by decide) ?_
        exact lc_ahead F hE hX hbl hAA hA hZ hL i hi0 (by omega) o m0 hcb hrb hP hD hS (lv_sub hl [0, 1, 2, 3] rfl) (by omega) (by omega) kk
      by_cases c_15 : y.toInt = 15
      · refine lv_tableIn (off := 574) (tgt := 607) hx hb dL_law_33 (by omega) (by omega) (by rw [c_15]; rfl) (by decide) ?_
        exact lc_eased F hE hX hbl hAA hA hZ hL i hi0 (by omega) o m0 hcb hrb hP hD hS (lv_sub hl [0, 1, 2, 3] rfl) (by omega) (by omega) kk
      by_cases c_16 : y.toInt = 16
      · refine lv_tableIn (off := 597) (tgt := 630) hx hb dL_law_33 (by omega) (by omega) (by rw [c_16]; rfl) (by decide) ?_
        exact lc_allEased F hE hX hbl hAA hA hZ hL i hi0 (by omega) o m0 hcb hrb hP hD hS (lv_sub hl [0, 1, 2, 3] rfl) (by omega) (by omega) kk
      by_cases c_17 : y.toInt = 17
      · refine lv_tableIn (off := 610) (tgt := 643) hx hb dL_law_33 (by omega) (by omega) (by rw [c_17]; rfl) (by decide) ?_
        exact lc_down F hE hX hbl hAA hA hZ hL i hi0 (by omega) o m0 hcb hrb hP hD hS (lv_sub hl [0, 1, 2, 3] rfl) (by omega) (by omega) kk
      by_cases c_18 : y.toInt = 18
      · refine lv_tableIn (off := 643) (tgt := 676) hx hb dL_law_33 (by omega) (by omega) (by rw [c_18]; rfl) (by decide) ?_
        exact lc_bestAim F hE hX hbl hAA hA hZ hL i hi0 (by omega) o m0 hcb hrb hP hD hS (lv_sub hl [0, 1, 2, 3] rfl) (by omega) (by omega) kk
      by_cases c_19 : y.toInt = 19
      · refine lv_tableIn (off := 676) (tgt := 709) hx hb dL_law_33 (by omega) (by omega) (by rw [c_19]; rfl) (by decide) ?_
        exact lc_row F hE hX hbl hAA hA hZ hL i hi0 (by omega) o m0 hcb hrb hP hD hS (lv_sub hl [0, 1, 2, 3] rfl) (by omega) (by omega) kk
      by_cases c_20 : y.toInt = 20
      · refine lv_tableIn (off := 719) (tgt := 752) hx hb dL_law_33 (by omega) (by omega) (by rw [c_20]; rfl) (by decide) ?_
        exact lc_hold F hE hX hbl hAA hA hZ hL i hi0 (by omega) o m0 hcb hrb hP hD hS (lv_sub hl [0, 1, 2, 3] rfl) (by omega) (by omega) kk
      by_cases c_21 : y.toInt = 21
      · refine lv_tableIn (off := 742) (tgt := 775) hx hb dL_law_33 (by omega) (by omega) (by rw [c_21]; rfl) (by decide) ?_
        exact lc_leastSkill F hE hX hbl hAA hA hZ hL i hi0 (by omega) o m0 hcb hrb hP hD hS (lv_sub hl [0, 1, 2, 3] rfl) (by omega) (by omega) kk
      by_cases c_22 : y.toInt = 22
      · refine lv_tableIn (off := 775) (tgt := 808) hx hb dL_law_33 (by omega) (by omega) (by rw [c_22]; rfl) (by decide) ?_
        exact lc_set F hE hX hbl hAA hA hZ hL i hi0 (by omega) o m0 hcb hrb hP hD hS (lv_sub hl [0, 1, 2, 3] rfl) (by omega) (by omega) kk
      by_cases c_23 : y.toInt = 23
      · refine lv_tableIn (off := 818) (tgt := 851) hx hb dL_law_33 (by omega) (by omega) (by rw [c_23]; rfl) (by decide) ?_
        exact lc_given F hE hX hbl hAA hA hZ hL i hi0 (by omega) o m0 hcb hrb hP hD hS (lv_sub hl [0, 1, 2, 3] rfl) (by omega) (by omega) kk
      by_cases c_24 : y.toInt = 24
      · refine lv_tableIn (off := 851) (tgt := 884) hx hb dL_law_33 (by omega) (by omega) (by rw [c_24]; rfl) (by decide) ?_
        exact lc_skilled F hE hX hbl hAA hA hZ hL i hi0 (by omega) o m0 hcb hrb hP hD hS (lv_sub hl [0, 1, 2, 3] rfl) (by omega) (by omega) kk
      by_cases c_25 : y.toInt = 25
      · refine lv_tableIn (off := 874) (tgt := 907) hx hb dL_law_33 (by omega) (by omega) (by rw [c_25]; rfl) (by decide) ?_
        exact lc_ails F hE hX hbl hAA hA hZ hL i hi0 (by omega) o m0 hcb hrb hP hD hS (lv_sub hl [0, 1, 2, 3] rfl) (by omega) (by omega) kk
      by_cases c_26 : y.toInt = 26
      · refine lv_tableIn (off := 897) (tgt := 930) hx hb dL_law_33 (by omega) (by omega) (by rw [c_26]; rfl) (by decide) ?_
        exact lc_rests F hE hX hbl hAA hA hZ hL i hi0 (by omega) o m0 hcb hrb hP hD hS (lv_sub hl [0, 1, 2, 3] rfl) (by omega) (by omega) kk
      by_cases c_27 : y.toInt = 27
      · refine lv_tableIn (off := 950) (tgt := 983) hx hb dL_law_33 (by omega) (by omega) (by rw [c_27]; rfl) (by decide) ?_
        exact lc_pence F hE hX hbl hAA hA hZ hL i hi0 (by omega) o m0 hcb hrb hP hD hS (lv_sub hl [0, 1, 2, 3] rfl) (by omega) (by omega) kk
      by_cases c_28 : y.toInt = 28
      · refine lv_tableIn (off := 983) (tgt := 1016) hx hb dL_law_33 (by omega) (by omega) (by rw [c_28]; rfl) (by decide) ?_
        exact lc_note F hE hX hbl hAA hA hZ hL i hi0 (by omega) o m0 hcb hrb hP hD hS (lv_sub hl [0, 1, 2, 3] rfl) (by omega) (by omega) kk
      by_cases c_29 : y.toInt = 29
      · refine lv_tableIn (off := 1026) (tgt := 1059) hx hb dL_law_33 (by omega) (by omega) (by rw [c_29]; rfl) (by decide) ?_
        exact lc_ruled F hE hX hbl hAA hA hZ hL i hi0 (by omega) o m0 hcb hrb hP hD hS (lv_sub hl [0, 1, 2, 3] rfl) (by omega) (by omega) kk
      by_cases c_30 : y.toInt = 30
      · refine lv_tableIn (off := 1049) (tgt := 1082) hx hb dL_law_33 (by omega) (by omega) (by rw [c_30]; rfl) (by decide) ?_
        exact lc_look F hE hX hbl hAA hA hZ hL i hi0 (by omega) o m0 hcb hrb hP hD hS (lv_sub hl [0, 1, 2, 3] rfl) (by omega) (by omega) kk
      by_cases c_31 : y.toInt = 31
      · refine lv_tableIn (off := 1082) (tgt := 1115) hx hb dL_law_33 (by omega) (by omega) (by rw [c_31]; rfl) (by decide) ?_
        exact lc_seed F hE hX hbl hAA hA hZ hL i hi0 (by omega) o m0 hcb hrb hP hD hS (lv_sub hl [0, 1, 2, 3] rfl) (by omega) (by omega) kk
      by_cases c_32 : y.toInt = 32
      · refine lv_tableIn (off := 1105) (tgt := 1138) hx hb dL_law_33 (by omega) (by omega) (by rw [c_32]; rfl) (by decide) ?_
        exact lc_gusts F hE hX hbl hAA hA hZ hL i hi0 (by omega) o m0 hcb hrb hP hD hS (lv_sub hl [0, 1, 2, 3] rfl) (by omega) (by omega) kk
      by_cases c_33 : y.toInt = 33
      · refine lv_tableIn (off := 1158) (tgt := 1191) hx hb dL_law_33 (by omega) (by omega) (by rw [c_33]; rfl) (by decide) ?_
        exact lc_count F hE hX hbl hAA hA hZ hL i hi0 (by omega) o m0 hcb hrb hP hD hS (lv_sub hl [0, 1, 2, 3] rfl) (by omega) (by omega) kk
      by_cases c_34 : y.toInt = 34
      · refine lv_tableIn (off := 1181) (tgt := 1214) hx hb dL_law_33 (by omega) (by omega) (by rw [c_34]; rfl) (by decide) ?_
        exact lc_image F hE hX hbl hAA hA hZ hL i hi0 (by omega) o m0 hcb hrb hP hD hS (lv_sub hl [0, 1, 2, 3] rfl) (by omega) (by omega) kk
      by_cases c_35 : y.toInt = 35
      · refine lv_tableIn (off := 1204) (tgt := 1237) hx hb dL_law_33 (by omega) (by omega) (by rw [c_35]; rfl) (by decide) ?_
        exact lc_back F hE hX hbl hAA hA hZ hL i hi0 (by omega) o m0 hcb hrb hP hD hS (lv_sub hl [0, 1, 2, 3] rfl) (by omega) (by omega) kk
      refine lv_tableOut (tgt := 1260) hx hb dL_law_33 (by omega) (by decide) ?_
      exact kk cw rw T x ix md H locs ls _ _ (by omega) (by omega) hcb hrb hP hD hS (lv_sub hl [0, 1, 2, 3] rfl)
