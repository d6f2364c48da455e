set_option maxHeartbeats 4000000 in
set_option maxRecDepth 100000 in
/-- Arrays.fill(a, v) -/
theorem c_fill (l : Launch) (D : va_G) (cy : Nat → ClassId) (q n : Nat) (hn : n < 2 ^ 31) (f : Nat → Int32) (v : Int32) : KV l yJ7_fill_53178 cJ7_fill_53178 4 0 0 D (kTY cy) [.ref q, .int v] [(q, .inl (cy 0, n, .inl f))] (S := Nat → Int32) (fun h => ∀ j, j < n → h j = v) (fun h => [(q, .inl (cy 0, n, .inl h))]) 0 0 := by
  refine KV.of (by decide) (Nat.le_of_ble_eq_true rfl) (fun p e s m below meth c ls A F hin hE hP hD hA hS hl => ?_)
  have F : kF p s m meth c cJ7_fill_53178 4 none _ RJ7 := F
  obtain ⟨hx, hb, hr, hml, hown, hG, hlk⟩ := id F
  have hl : lv_has ls 4 [(0, .ref q), (1, .int v)] := hl
  have lp : ∀ (fu k : Nat) (h : Nat → Int32) (H : Heap) (locs : List Loc) (ls : Array Slot), k + fu = n → (∀ j, j < k → h j = v) → va_P D vwCl [(q, .inl (cy 0, n, .inl h))] H → va_D A [(q, .inl (cy 0, n, .inl h))] → va_S A s.heap H locs → lv_has ls 4 [(2, .int (nI k)), (3, .int (nI n)), (0, .ref q), (1, .int v)] → W p l e (kRm 0 0 0 0) s m ([.ref q, .int v] : List Value).toArray below meth c H locs 0 0 (MQ below (va_Qv (fun h : Nat → Int32 => ∀ j, j < n → h j = v) (kBw D A (fun h => [(q, .inl (cy 0, n, .inl h))])) A) ([.ref q, .int v] : List Value).toArray s 0 0 A) (F0 m 5 ls []) := by
    intro fu
    induction fu with
    | zero =>
      intro k h H locs ls hk hv hP hD hS hl
      have e0 : k = n := by omega
      subst e0
      refine lv_iload_n hx hb dJ7_fill_53178_5 rfl (lv_at hl 0 rfl) ?_
      refine lv_iload_n hx hb dJ7_fill_53178_6 rfl (lv_at hl 1 rfl) ?_
      refine lv_icmp_ge (tgt := 20) hx hb dJ7_fill_53178_7 (by decide) (fun _ => ?_) (fun q => absurd (Int32.le_refl _) q)
      exact KV.rt h F hP hD hS hv (Nat.le_refl 0) (Nat.le_refl 0) dJ7_fill_53178_20
    | succ fu ih =>
      intro k h H locs ls hk hv hP hD hS hl
      have hlt : k < n := by omega
      refine lv_iload_n hx hb dJ7_fill_53178_5 rfl (lv_at hl 0 rfl) ?_
      refine lv_iload_n hx hb dJ7_fill_53178_6 rfl (lv_at hl 1 rfl) ?_
      refine lv_icmp_ge (tgt := 20) hx hb dJ7_fill_53178_7 (by decide) (fun q => absurd q (nI_ge hlt hn)) (fun _ => ?_)
      refine lv_aload_n hx hb dJ7_fill_53178_10 rfl (lv_at hl 2 rfl) ?_
      refine lv_iload_n hx hb dJ7_fill_53178_11 rfl (lv_at hl 0 rfl) ?_
      refine lv_iload_n hx hb dJ7_fill_53178_12 rfl (lv_at hl 3 rfl) ?_
      refine va_iast hx hb hE.1 hP hD hS 0 0 rfl rfl (vp_in_nI hlt hn) dJ7_fill_53178_13 (fun H locs hP hD hS => ?_)
      refine lv_iinc (v := nI (k + 1)) (lv' := [(2, .int (nI (k + 1))), (3, .int (nI n)), (0, .ref q), (1, .int v)]) hx hb dJ7_fill_53178_14 hl (k := 0) rfl (nI_1 k) (by decide) rfl (fun ls hl => ?_)
      refine lv_goto (tgt := 5) hx hb dJ7_fill_53178_17 (by decide) ?_
      refine ih (k + 1) (upd h (nI k).toNatClampNeg v) H locs ls (by omega) (fun j hj => ?_) hP hD hS hl
      rw [nI_clamp (by omega)]
      by_cases e1 : j = k
      · subst e1; simp [upd]
      · simp [upd, e1]; exact hv j (by omega)
  refine lv_iconst (v := 0) hx hb dJ7_fill_53178_0 (by decide) ?_
  refine lv_istore_n (lv' := [(2, .int 0), (0, .ref q), (1, .int v)]) hx hb dJ7_fill_53178_1 rfl hl (by decide) rfl (fun ls hl => ?_)
  refine lv_aload_n hx hb dJ7_fill_53178_2 rfl (lv_at hl 1 rfl) ?_
  refine va_alen (v := nI n) hx hb hE.1 hP 0 0 rfl rfl rfl dJ7_fill_53178_3 ?_
  refine lv_istore_n (lv' := [(3, .int (nI n)), (2, .int 0), (0, .ref q), (1, .int v)]) hx hb dJ7_fill_53178_4 rfl hl (by decide) rfl (fun ls hl => ?_)
  exact lp n 0 f s.heap [] ls (by omega) (fun j hj => absurd hj (Nat.not_lt_zero j)) hP hD hS (lv_sub hl [1, 0, 2, 3] rfl)


set_option maxHeartbeats 4000000 in
set_option maxRecDepth 100000 in
theorem cc_X1_clear (l : Launch) (D : va_G) (cy : Nat → ClassId) (o : Nat) (o_c : Nat) (g_o : Nat → Int32) (h_g_o : FV g_o) : KV l yX1_clear cX1_clear 1 1 23 D (kTY cy) [.ref o] [(o, .inr (1, [.ref o_c])), (o_c, .inl (cy 0, 63, .inl g_o))] (S := (Nat → Int32)) (fun u => FV u) (fun u => [(o, .inr (1, [.ref o_c])), (o_c, .inl (cy 0, 63, .inl u))]) 0 0 := by
  refine KV.of (by decide) (Nat.le_of_ble_eq_true rfl) (fun p e s m below meth c ls A F hin hE hP hD hA hS hl => ?_)
  have F : kF p s m meth c cX1_clear 1 none _ RX1 := F
  obtain ⟨hx, hb, hr, hml, hown, hG, hlk⟩ := id F
  have hl : lv_has ls 1 [(0, .ref o)] := hl
  obtain ⟨⟨b_1a, b_1b⟩, ⟨b_1c, b_1d⟩, ⟨b_1e, b_1f⟩⟩ := FV.bounds h_g_o
  refine lv_aload_n hx hb dX1_clear_0 rfl (lv_at hl 0 rfl) ?_
  refine va_get (D := D) (ci := 1) (v := .ref o_c) (C := RX1) (T := TX1) (N := 1) hx hb hG inG_X1 hown hE.1 hP 0 rfl rfl 0 (by decide) (hG _ q_f_X1_11) (fun _ h9 => h9) rfl dX1_clear_1 ?_
  refine lv_iconst (v := 0) hx hb dX1_clear_4 (by decide) ?_
  refine kwSV (wr := [(o, .inr (1, [.ref o_c]))]) (As := [.ref o_c, .int 0]) (rest := []) F hE hP hD hS hA hl.1 (c_fill l D cy (q := o_c) (n := 63) (hn := by decide) (f := g_o) (v := 0)) q_m_X1_21 ms_J7_fill_53178 ⟨(Nat.le_of_ble_eq_true rfl), (Nat.le_of_ble_eq_true rfl)⟩ [1] [0] (by decide) rfl rfl (by decide) (by decide) rfl rfl (Nat.le_of_ble_eq_true rfl) ⟨(Nat.le_of_ble_eq_true rfl), (Nat.le_of_ble_eq_true rfl)⟩ dX1_clear_5 (fun u_2 H locs eu_2 hP hD hS => ?_)
  have hP : va_P D vwCl [(o, .inr (1, [.ref o_c])), (o_c, .inl (cy 0, 63, .inl u_2))] H := hP
  have hD : va_D A [(o, .inr (1, [.ref o_c])), (o_c, .inl (cy 0, 63, .inl u_2))] := hD
  have hu_2 : FV u_2 := FV.zero eu_2
  obtain ⟨⟨b_3a, b_3b⟩, ⟨b_3c, b_3d⟩, ⟨b_3e, b_3f⟩⟩ := FV.bounds hu_2
  exact KV.rt u_2 F (hP.sub [0, 1] rfl) (hD.sub [0, 1] (by decide) rfl) hS (show FV u_2 from hu_2) (Nat.le_of_ble_eq_true rfl) (Nat.le_of_ble_eq_true rfl) dX1_clear_8

set_option maxHeartbeats 4000000 in
set_option maxRecDepth 100000 in
theorem cc_X6_aimOf (l : Launch) (D : va_G) (cy : Nat → ClassId) {Z : (Nat → Prop) → State → Heap → Prop} (hz : zOK Z) {TT : va_W} (zt : ∀ (A : Nat → Prop) (U : State) (H : Heap), Z A U H → va_P D vwCl TT H) (o : Nat) (of : Nat) (of_c : Nat) (g_of : Nat → Int32) (o_ca : Nat) (o_bo : Nat) (o_wd : Nat) (o_sk : Nat) (o_gust : Int32) (o_still : Int32) (g_oca : Nat → Int32) (g_obo : Nat → Int32) (g_owd : Nat → Int64) (g_osk : Nat → Int64) (x0 : Int32) (x1 : Int32) (r : Nat) (st : Nat) (ra : Int32) (rn : Nat) (rg : Nat → Int32) (ri : Nat) (rj : Nat) (h_g_of : FV g_of) (h_g_obo : PLV g_obo) (hTi : TT[ri]? = some (r, .inr (7, [.ref st, .int ra]))) (hTj : TT[rj]? = some (st, .inl (cy 0, rn, .inl rg))) (hn4 : rn ≤ 412) (hg : ∀ k : Nat, k < rn → 0 ≤ (rg k).toInt) (p0 : 0 ≤ x0.toInt) (p1 : x0.toInt ≤ 4) : JI l yX6_aimOf cX6_aimOf 10 (some .int) 2 50 D (kTY cy) [.ref o, .int x0, .int x1] [(o, .inr (6, [.ref of, .ref o_ca, .ref o_bo, .int o_gust, .int o_still, .ref r, .ref o_wd, .ref o_sk])), (of, .inr (1, [.ref of_c])), (of_c, .inl (cy 0, 63, .inl g_of)), (o_ca, .inl (cy 0, 5, .inl g_oca)), (o_bo, .inl (cy 0, 5, .inl g_obo)), (o_wd, .inl (cy 1, 13, .inr (.inl g_owd))), (o_sk, .inl (cy 1, 64, .inr (.inl g_osk)))] Z (S := (Nat → Int64) × (Nat → Int64)) (fun r u => (-1 ≤ r.toInt) ∧ (r.toInt ≤ 5)) (fun u => [(o, .inr (6, [.ref of, .ref o_ca, .ref o_bo, .int o_gust, .int o_still, .ref r, .ref o_wd, .ref o_sk])), (of, .inr (1, [.ref of_c])), (of_c, .inl (cy 0, 63, .inl g_of)), (o_ca, .inl (cy 0, 5, .inl g_oca)), (o_bo, .inl (cy 0, 5, .inl g_obo)), (o_wd, .inl (cy 1, 13, .inr (.inl (u.1)))), (o_sk, .inl (cy 1, 64, .inr (.inl (u.2))))]) 0 0 := by
  refine JI.of (by decide) (Nat.le_of_ble_eq_true rfl) (fun p e s m below meth c ls A F hE hP hD hA hS hl hZ => ?_)
  have F : kF p s m meth c cX6_aimOf 10 (some .int) _ RX6 := F
  obtain ⟨hx, hb, hr, hml, hown, hG, hlk⟩ := id F
  have hl : lv_has ls 10 [(0, .ref o), (1, .int x0), (2, .int x1)] := hl
  obtain ⟨⟨b_1a, b_1b⟩, ⟨b_1c, b_1d⟩, ⟨b_1e, b_1f⟩⟩ := FV.bounds h_g_of
  refine lv_aload_n hx hb dX6_aimOf_0 rfl (lv_at hl 0 rfl) ?_
  refine va_get (D := D) (ci := 6) (v := .ref of) (C := RX6) (T := TX6) (N := 8) hx hb hG inG_X6 hown hE.1 hP 0 rfl rfl 0 (by decide) (hG _ q_f_X6_12) (fun _ h9 => h9) rfl dX6_aimOf_1 ?_
  refine va_get (D := D) (ci := 1) (v := .ref of_c) (C := RX1) (T := TX1) (N := 1) hx hb hG inG_X1 hown hE.1 hP 1 rfl rfl 0 (by decide) (hG _ q_f_X6_56) (fun _ h9 => h9) rfl dX6_aimOf_4 ?_
  refine lv_astore_n (lv' := [(3, .ref of_c), (0, .ref o), (1, .int x0), (2, .int x1)]) hx hb dX6_aimOf_7 rfl hl (by decide) rfl (fun ls hl => ?_)
  refine lv_aload_n hx hb dX6_aimOf_8 rfl (lv_at hl 1 rfl) ?_
  refine va_get (D := D) (ci := 6) (v := .ref o_wd) (C := RX6) (T := TX6) (N := 8) hx hb hG inG_X6 hown hE.1 hP 0 rfl rfl 6 (by decide) (hG _ q_f_X6_39) (fun _ h9 => h9) rfl dX6_aimOf_9 ?_
  refine lv_iconst (v := 0) hx hb dX6_aimOf_12 (by decide) ?_
  refine lv_iload_n hx hb dX6_aimOf_13 rfl (lv_at hl 2 rfl) ?_
  refine lv_i2l hx hb dX6_aimOf_14 rfl ?_
  refine va_last hx hb hE.1 hP hD hS 5 1 rfl rfl (by unfold vp_in; decide) dX6_aimOf_15 (fun H locs hP hD hS => ?_)
  generalize vp_updL g_owd (Int32.toNatClampNeg 0) ((x0).toInt64) = fn_2 at hP hD
  have hP : va_P D vwCl [(o, .inr (6, [.ref of, .ref o_ca, .ref o_bo, .int o_gust, .int o_still, .ref r, .ref o_wd, .ref o_sk])), (of, .inr (1, [.ref of_c])), (of_c, .inl (cy 0, 63, .inl g_of)), (o_ca, .inl (cy 0, 5, .inl g_oca)), (o_bo, .inl (cy 0, 5, .inl g_obo)), (o_wd, .inl (cy 1, 13, .inr (.inl fn_2))), (o_sk, .inl (cy 1, 64, .inr (.inl g_osk)))] H := hP
  have hD : va_D A [(o, .inr (6, [.ref of, .ref o_ca, .ref o_bo, .int o_gust, .int o_still, .ref r, .ref o_wd, .ref o_sk])), (of, .inr (1, [.ref of_c])), (of_c, .inl (cy 0, 63, .inl g_of)), (o_ca, .inl (cy 0, 5, .inl g_oca)), (o_bo, .inl (cy 0, 5, .inl g_obo)), (o_wd, .inl (cy 1, 13, .inr (.inl fn_2))), (o_sk, .inl (cy 1, 64, .inr (.inl g_osk)))] := hD
  refine lv_aload_n hx hb dX6_aimOf_16 rfl (lv_at hl 1 rfl) ?_
  refine va_get (D := D) (ci := 6) (v := .ref o_wd) (C := RX6) (T := TX6) (N := 8) hx hb hG inG_X6 hown hE.1 hP 0 rfl rfl 6 (by decide) (hG _ q_f_X6_39) (fun _ h9 => h9) rfl dX6_aimOf_17 ?_
  refine lv_bipush (v := 6) hx hb dX6_aimOf_20 (by decide) ?_
  refine lv_aload_n hx hb dX6_aimOf_22 rfl (lv_at hl 0 rfl) ?_
  refine lv_bipush (v := 43) hx hb dX6_aimOf_23 (by decide) ?_
  refine lv_iload_n hx hb dX6_aimOf_25 rfl (lv_at hl 2 rfl) ?_
  refine lv_iadd hx hb dX6_aimOf_26 ?_
  refine lv_topi (fun z_3 ez_3 => ?_)
  have iz_3 : z_3.toInt = 43 + x0.toInt := k_addI ez_3 (by decide) rfl (by omega)
  refine va_iald hx hb hE.1 hP 2 0 rfl rfl (k_in (by omega)) dX6_aimOf_27 ?_
  refine k_top (z := (g_of (Int32.toNatClampNeg z_3))) rfl ?_
  refine lv_i2l hx hb dX6_aimOf_28 rfl ?_
  refine va_last hx hb hE.1 hP hD hS 5 1 rfl rfl (by unfold vp_in; decide) dX6_aimOf_29 (fun H locs hP hD hS => ?_)
  generalize vp_updL fn_2 (Int32.toNatClampNeg 6) (((g_of (Int32.toNatClampNeg z_3))).toInt64) = fn_4 at hP hD
  have hP : va_P D vwCl [(o, .inr (6, [.ref of, .ref o_ca, .ref o_bo, .int o_gust, .int o_still, .ref r, .ref o_wd, .ref o_sk])), (of, .inr (1, [.ref of_c])), (of_c, .inl (cy 0, 63, .inl g_of)), (o_ca, .inl (cy 0, 5, .inl g_oca)), (o_bo, .inl (cy 0, 5, .inl g_obo)), (o_wd, .inl (cy 1, 13, .inr (.inl fn_4))), (o_sk, .inl (cy 1, 64, .inr (.inl g_osk)))] H := hP
  have hD : va_D A [(o, .inr (6, [.ref of, .ref o_ca, .ref o_bo, .int o_gust, .int o_still, .ref r, .ref o_wd, .ref o_sk])), (of, .inr (1, [.ref of_c])), (of_c, .inl (cy 0, 63, .inl g_of)), (o_ca, .inl (cy 0, 5, .inl g_oca)), (o_bo, .inl (cy 0, 5, .inl g_obo)), (o_wd, .inl (cy 1, 13, .inr (.inl fn_4))), (o_sk, .inl (cy 1, 64, .inr (.inl g_osk)))] := hD
  refine lv_aload_n hx hb dX6_aimOf_30 rfl (lv_at hl 1 rfl) ?_
  refine va_get (D := D) (ci := 6) (v := .ref o_wd) (C := RX6) (T := TX6) (N := 8) hx hb hG inG_X6 hown hE.1 hP 0 rfl rfl 6 (by decide) (hG _ q_f_X6_39) (fun _ h9 => h9) rfl dX6_aimOf_31 ?_
  refine lv_bipush (v := 7) hx hb dX6_aimOf_34 (by decide) ?_
  refine lv_aload_n hx hb dX6_aimOf_36 rfl (lv_at hl 0 rfl) ?_
  refine lv_bipush (v := 48) hx hb dX6_aimOf_37 (by decide) ?_
  refine lv_iload_n hx hb dX6_aimOf_39 rfl (lv_at hl 2 rfl) ?_
  refine lv_iadd hx hb dX6_aimOf_40 ?_
  refine lv_topi (fun z_5 ez_5 => ?_)
  have iz_5 : z_5.toInt = 48 + x0.toInt := k_addI ez_5 (by decide) rfl (by omega)
  refine va_iald hx hb hE.1 hP 2 0 rfl rfl (k_in (by omega)) dX6_aimOf_41 ?_
  refine k_top (z := (g_of (Int32.toNatClampNeg z_5))) rfl ?_
  refine lv_i2l hx hb dX6_aimOf_42 rfl ?_
  refine va_last hx hb hE.1 hP hD hS 5 1 rfl rfl (by unfold vp_in; decide) dX6_aimOf_43 (fun H locs hP hD hS => ?_)
  generalize vp_updL fn_4 (Int32.toNatClampNeg 7) (((g_of (Int32.toNatClampNeg z_5))).toInt64) = fn_6 at hP hD
  have hP : va_P D vwCl [(o, .inr (6, [.ref of, .ref o_ca, .ref o_bo, .int o_gust, .int o_still, .ref r, .ref o_wd, .ref o_sk])), (of, .inr (1, [.ref of_c])), (of_c, .inl (cy 0, 63, .inl g_of)), (o_ca, .inl (cy 0, 5, .inl g_oca)), (o_bo, .inl (cy 0, 5, .inl g_obo)), (o_wd, .inl (cy 1, 13, .inr (.inl fn_6))), (o_sk, .inl (cy 1, 64, .inr (.inl g_osk)))] H := hP
  have hD : va_D A [(o, .inr (6, [.ref of, .ref o_ca, .ref o_bo, .int o_gust, .int o_still, .ref r, .ref o_wd, .ref o_sk])), (of, .inr (1, [.ref of_c])), (of_c, .inl (cy 0, 63, .inl g_of)), (o_ca, .inl (cy 0, 5, .inl g_oca)), (o_bo, .inl (cy 0, 5, .inl g_obo)), (o_wd, .inl (cy 1, 13, .inr (.inl fn_6))), (o_sk, .inl (cy 1, 64, .inr (.inl g_osk)))] := hD
  refine lv_aload_n hx hb dX6_aimOf_44 rfl (lv_at hl 1 rfl) ?_
  refine va_get (D := D) (ci := 6) (v := .ref o_wd) (C := RX6) (T := TX6) (N := 8) hx hb hG inG_X6 hown hE.1 hP 0 rfl rfl 6 (by decide) (hG _ q_f_X6_39) (fun _ h9 => h9) rfl dX6_aimOf_45 ?_
  refine lv_bipush (v := 8) hx hb dX6_aimOf_48 (by decide) ?_
  refine lv_aload_n hx hb dX6_aimOf_50 rfl (lv_at hl 0 rfl) ?_
  refine lv_bipush (v := 53) hx hb dX6_aimOf_51 (by decide) ?_
  refine lv_iload_n hx hb dX6_aimOf_53 rfl (lv_at hl 2 rfl) ?_
  refine lv_iadd hx hb dX6_aimOf_54 ?_
  refine lv_topi (fun z_7 ez_7 => ?_)
  have iz_7 : z_7.toInt = 53 + x0.toInt := k_addI ez_7 (by decide) rfl (by omega)
  refine va_iald hx hb hE.1 hP 2 0 rfl rfl (k_in (by omega)) dX6_aimOf_55 ?_
  refine k_top (z := (g_of (Int32.toNatClampNeg z_7))) rfl ?_
  refine lv_i2l hx hb dX6_aimOf_56 rfl ?_
  refine va_last hx hb hE.1 hP hD hS 5 1 rfl rfl (by unfold vp_in; decide) dX6_aimOf_57 (fun H locs hP hD hS => ?_)
  generalize vp_updL fn_6 (Int32.toNatClampNeg 8) (((g_of (Int32.toNatClampNeg z_7))).toInt64) = fn_8 at hP hD
  have hP : va_P D vwCl [(o, .inr (6, [.ref of, .ref o_ca, .ref o_bo, .int o_gust, .int o_still, .ref r, .ref o_wd, .ref o_sk])), (of, .inr (1, [.ref of_c])), (of_c, .inl (cy 0, 63, .inl g_of)), (o_ca, .inl (cy 0, 5, .inl g_oca)), (o_bo, .inl (cy 0, 5, .inl g_obo)), (o_wd, .inl (cy 1, 13, .inr (.inl fn_8))), (o_sk, .inl (cy 1, 64, .inr (.inl g_osk)))] H := hP
  have hD : va_D A [(o, .inr (6, [.ref of, .ref o_ca, .ref o_bo, .int o_gust, .int o_still, .ref r, .ref o_wd, .ref o_sk])), (of, .inr (1, [.ref of_c])), (of_c, .inl (cy 0, 63, .inl g_of)), (o_ca, .inl (cy 0, 5, .inl g_oca)), (o_bo, .inl (cy 0, 5, .inl g_obo)), (o_wd, .inl (cy 1, 13, .inr (.inl fn_8))), (o_sk, .inl (cy 1, 64, .inr (.inl g_osk)))] := hD
  refine lv_aload_n hx hb dX6_aimOf_58 rfl (lv_at hl 1 rfl) ?_
  refine va_get (D := D) (ci := 6) (v := .ref o_wd) (C := RX6) (T := TX6) (N := 8) hx hb hG inG_X6 hown hE.1 hP 0 rfl rfl 6 (by decide) (hG _ q_f_X6_39) (fun _ h9 => h9) rfl dX6_aimOf_59 ?_
  refine lv_bipush (v := 9) hx hb dX6_aimOf_62 (by decide) ?_
  refine lv_aload_n hx hb dX6_aimOf_64 rfl (lv_at hl 0 rfl) ?_
  refine lv_bipush (v := 58) hx hb dX6_aimOf_65 (by decide) ?_
  refine lv_iload_n hx hb dX6_aimOf_67 rfl (lv_at hl 2 rfl) ?_
  refine lv_iadd hx hb dX6_aimOf_68 ?_
  refine lv_topi (fun z_9 ez_9 => ?_)
  have iz_9 : z_9.toInt = 58 + x0.toInt := k_addI ez_9 (by decide) rfl (by omega)
  refine va_iald hx hb hE.1 hP 2 0 rfl rfl (k_in (by omega)) dX6_aimOf_69 ?_
  refine k_top (z := (g_of (Int32.toNatClampNeg z_9))) rfl ?_
  refine lv_i2l hx hb dX6_aimOf_70 rfl ?_
  refine va_last hx hb hE.1 hP hD hS 5 1 rfl rfl (by unfold vp_in; decide) dX6_aimOf_71 (fun H locs hP hD hS => ?_)
  generalize vp_updL fn_8 (Int32.toNatClampNeg 9) (((g_of (Int32.toNatClampNeg z_9))).toInt64) = fn_10 at hP hD
  have hP : va_P D vwCl [(o, .inr (6, [.ref of, .ref o_ca, .ref o_bo, .int o_gust, .int o_still, .ref r, .ref o_wd, .ref o_sk])), (of, .inr (1, [.ref of_c])), (of_c, .inl (cy 0, 63, .inl g_of)), (o_ca, .inl (cy 0, 5, .inl g_oca)), (o_bo, .inl (cy 0, 5, .inl g_obo)), (o_wd, .inl (cy 1, 13, .inr (.inl fn_10))), (o_sk, .inl (cy 1, 64, .inr (.inl g_osk)))] H := hP
  have hD : va_D A [(o, .inr (6, [.ref of, .ref o_ca, .ref o_bo, .int o_gust, .int o_still, .ref r, .ref o_wd, .ref o_sk])), (of, .inr (1, [.ref of_c])), (of_c, .inl (cy 0, 63, .inl g_of)), (o_ca, .inl (cy 0, 5, .inl g_oca)), (o_bo, .inl (cy 0, 5, .inl g_obo)), (o_wd, .inl (cy 1, 13, .inr (.inl fn_10))), (o_sk, .inl (cy 1, 64, .inr (.inl g_osk)))] := hD
  refine lv_aload_n hx hb dX6_aimOf_72 rfl (lv_at hl 1 rfl) ?_
  refine va_get (D := D) (ci := 6) (v := .ref o_wd) (C := RX6) (T := TX6) (N := 8) hx hb hG inG_X6 hown hE.1 hP 0 rfl rfl 6 (by decide) (hG _ q_f_X6_39) (fun _ h9 => h9) rfl dX6_aimOf_73 ?_
  refine lv_bipush (v := 10) hx hb dX6_aimOf_76 (by decide) ?_
  refine lv_iload_n hx hb dX6_aimOf_78 rfl (lv_at hl 3 rfl) ?_
  refine lv_i2l hx hb dX6_aimOf_79 rfl ?_
  refine va_last hx hb hE.1 hP hD hS 5 1 rfl rfl (by unfold vp_in; decide) dX6_aimOf_80 (fun H locs hP hD hS => ?_)
  generalize vp_updL fn_10 (Int32.toNatClampNeg 10) ((x1).toInt64) = fn_11 at hP hD
  have hP : va_P D vwCl [(o, .inr (6, [.ref of, .ref o_ca, .ref o_bo, .int o_gust, .int o_still, .ref r, .ref o_wd, .ref o_sk])), (of, .inr (1, [.ref of_c])), (of_c, .inl (cy 0, 63, .inl g_of)), (o_ca, .inl (cy 0, 5, .inl g_oca)), (o_bo, .inl (cy 0, 5, .inl g_obo)), (o_wd, .inl (cy 1, 13, .inr (.inl fn_11))), (o_sk, .inl (cy 1, 64, .inr (.inl g_osk)))] H := hP
  have hD : va_D A [(o, .inr (6, [.ref of, .ref o_ca, .ref o_bo, .int o_gust, .int o_still, .ref r, .ref o_wd, .ref o_sk])), (of, .inr (1, [.ref of_c])), (of_c, .inl (cy 0, 63, .inl g_of)), (o_ca, .inl (cy 0, 5, .inl g_oca)), (o_bo, .inl (cy 0, 5, .inl g_obo)), (o_wd, .inl (cy 1, 13, .inr (.inl fn_11))), (o_sk, .inl (cy 1, 64, .inr (.inl g_osk)))] := hD
  refine lv_aload_n hx hb dX6_aimOf_81 rfl (lv_at hl 1 rfl) ?_
  refine va_get (D := D) (ci := 6) (v := .ref o_wd) (C := RX6) (T := TX6) (N := 8) hx hb hG inG_X6 hown hE.1 hP 0 rfl rfl 6 (by decide) (hG _ q_f_X6_39) (fun _ h9 => h9) rfl dX6_aimOf_82 ?_
  refine lv_bipush (v := 11) hx hb dX6_aimOf_85 (by decide) ?_
  refine lv_aload_n hx hb dX6_aimOf_87 rfl (lv_at hl 1 rfl) ?_
  refine va_get (D := D) (ci := 6) (v := .ref of) (C := RX6) (T := TX6) (N := 8) hx hb hG inG_X6 hown hE.1 hP 0 rfl rfl 0 (by decide) (hG _ q_f_X6_12) (fun _ h9 => h9) rfl dX6_aimOf_88 ?_
  refine lv_iload_n hx hb dX6_aimOf_91 rfl (lv_at hl 2 rfl) ?_
  refine lv_iload_n hx hb dX6_aimOf_92 rfl (lv_at hl 3 rfl) ?_
  refine kcV (As := [.int x0, .int x1]) (rest := [.int 11, .ref o_wd]) F hE hP hl.1 (cc_X1_drift l D cy (o := of) (x0 := x0) (x1 := x1) (o_c := of_c) (g_o := g_of) (h_g_o := h_g_of) (p0 := (by first | omega | assumption)) (p1 := (by first | omega | assumption))) q_m_X6_84 mv_X1_drift ⟨(Nat.le_of_ble_eq_true rfl), (Nat.le_of_ble_eq_true rfl)⟩ [1, 2] rfl rfl rfl rfl rfl rfl (Nat.le_of_ble_eq_true rfl) ⟨(Nat.le_of_ble_eq_true rfl), (Nat.le_of_ble_eq_true rfl)⟩ dX6_aimOf_93 (fun r_12 er_12 => ?_)
  refine lv_i2l hx hb dX6_aimOf_96 rfl ?_
  refine va_last hx hb hE.1 hP hD hS 5 1 rfl rfl (by unfold vp_in; decide) dX6_aimOf_97 (fun H locs hP hD hS => ?_)
  generalize vp_updL fn_11 (Int32.toNatClampNeg 11) ((r_12).toInt64) = fn_13 at hP hD
  have hP : va_P D vwCl [(o, .inr (6, [.ref of, .ref o_ca, .ref o_bo, .int o_gust, .int o_still, .ref r, .ref o_wd, .ref o_sk])), (of, .inr (1, [.ref of_c])), (of_c, .inl (cy 0, 63, .inl g_of)), (o_ca, .inl (cy 0, 5, .inl g_oca)), (o_bo, .inl (cy 0, 5, .inl g_obo)), (o_wd, .inl (cy 1, 13, .inr (.inl fn_13))), (o_sk, .inl (cy 1, 64, .inr (.inl g_osk)))] H := hP
  have hD : va_D A [(o, .inr (6, [.ref of, .ref o_ca, .ref o_bo, .int o_gust, .int o_still, .ref r, .ref o_wd, .ref o_sk])), (of, .inr (1, [.ref of_c])), (of_c, .inl (cy 0, 63, .inl g_of)), (o_ca, .inl (cy 0, 5, .inl g_oca)), (o_bo, .inl (cy 0, 5, .inl g_obo)), (o_wd, .inl (cy 1, 13, .inr (.inl fn_13))), (o_sk, .inl (cy 1, 64, .inr (.inl g_osk)))] := hD
  refine lv_aload_n hx hb dX6_aimOf_98 rfl (lv_at hl 1 rfl) ?_
  refine va_get (D := D) (ci := 6) (v := .ref o_wd) (C := RX6) (T := TX6) (N := 8) hx hb hG inG_X6 hown hE.1 hP 0 rfl rfl 6 (by decide) (hG _ q_f_X6_39) (fun _ h9 => h9) rfl dX6_aimOf_99 ?_
  refine lv_bipush (v := 12) hx hb dX6_aimOf_102 (by decide) ?_
  refine lv_aload_n hx hb dX6_aimOf_104 rfl (lv_at hl 0 rfl) ?_
  refine lv_iconst (v := 5) hx hb dX6_aimOf_105 (by decide) ?_
  refine va_iald hx hb hE.1 hP 2 0 rfl rfl (by unfold vp_in; decide) dX6_aimOf_106 ?_
  refine k_top (z := (g_of 5)) rfl ?_
  refine lv_i2l hx hb dX6_aimOf_107 rfl ?_
  refine va_last hx hb hE.1 hP hD hS 5 1 rfl rfl (by unfold vp_in; decide) dX6_aimOf_108 (fun H locs hP hD hS => ?_)
  generalize vp_updL fn_13 (Int32.toNatClampNeg 12) (((g_of 5)).toInt64) = fn_14 at hP hD
  have hP : va_P D vwCl [(o, .inr (6, [.ref of, .ref o_ca, .ref o_bo, .int o_gust, .int o_still, .ref r, .ref o_wd, .ref o_sk])), (of, .inr (1, [.ref of_c])), (of_c, .inl (cy 0, 63, .inl g_of)), (o_ca, .inl (cy 0, 5, .inl g_oca)), (o_bo, .inl (cy 0, 5, .inl g_obo)), (o_wd, .inl (cy 1, 13, .inr (.inl fn_14))), (o_sk, .inl (cy 1, 64, .inr (.inl g_osk)))] H := hP
  have hD : va_D A [(o, .inr (6, [.ref of, .ref o_ca, .ref o_bo, .int o_gust, .int o_still, .ref r, .ref o_wd, .ref o_sk])), (of, .inr (1, [.ref of_c])), (of_c, .inl (cy 0, 63, .inl g_of)), (o_ca, .inl (cy 0, 5, .inl g_oca)), (o_bo, .inl (cy 0, 5, .inl g_obo)), (o_wd, .inl (cy 1, 13, .inr (.inl fn_14))), (o_sk, .inl (cy 1, 64, .inr (.inl g_osk)))] := hD
  refine lv_iconst (v := (-1)) hx hb dX6_aimOf_109 (by decide) ?_
  refine lv_istore (lv' := [(4, .int (-1)), (3, .ref of_c), (0, .ref o), (1, .int x0), (2, .int x1)]) hx hb dX6_aimOf_110 hl (by decide) rfl (fun ls hl => ?_)
  refine lv_lconst (v := 0) hx hb dX6_aimOf_112 (by decide) ?_
  refine lv_lstore (lv' := [(5, .long 0), (4, .int (-1)), (3, .ref of_c), (0, .ref o), (1, .int x0), (2, .int x1)]) hx hb dX6_aimOf_113 hl (by decide) rfl (fun ls hl => ?_)
  refine lv_iconst (v := 0) hx hb dX6_aimOf_115 (by decide) ?_
  refine lv_istore (lv' := [(7, .int 0), (5, .long 0), (4, .int (-1)), (3, .ref of_c), (0, .ref o), (1, .int x0), (2, .int x1)]) hx hb dX6_aimOf_116 hl (by decide) rfl (fun ls hl => ?_)
  have lp118 : ∀ (fu : Nat) (v7_118 : Int32) (v5_118 : Int64) (v4_118 : Int32) (go_wd_118 : Nat → Int64) (go_sk_118 : Nat → Int64) (H : Heap) (locs : List Loc) (ls : Array Slot), (0 ≤ v7_118.toInt) → (v7_118.toInt ≤ 6) → (-1 ≤ v4_118.toInt) → (v4_118.toInt ≤ 5) → 6 - v7_118.toInt < (fu : Int) → va_P D vwCl [(o, .inr (6, [.ref of, .ref o_ca, .ref o_bo, .int o_gust, .int o_still, .ref r, .ref o_wd, .ref o_sk])), (of, .inr (1, [.ref of_c])), (of_c, .inl (cy 0, 63, .inl g_of)), (o_ca, .inl (cy 0, 5, .inl g_oca)), (o_bo, .inl (cy 0, 5, .inl g_obo)), (o_wd, .inl (cy 1, 13, .inr (.inl go_wd_118))), (o_sk, .inl (cy 1, 64, .inr (.inl go_sk_118)))] H → va_D A [(o, .inr (6, [.ref of, .ref o_ca, .ref o_bo, .int o_gust, .int o_still, .ref r, .ref o_wd, .ref o_sk])), (of, .inr (1, [.ref of_c])), (of_c, .inl (cy 0, 63, .inl g_of)), (o_ca, .inl (cy 0, 5, .inl g_oca)), (o_bo, .inl (cy 0, 5, .inl g_obo)), (o_wd, .inl (cy 1, 13, .inr (.inl go_wd_118))), (o_sk, .inl (cy 1, 64, .inr (.inl go_sk_118)))] → va_S A s.heap H locs → lv_has ls 10 [(7, .int v7_118), (5, .long v5_118), (4, .int v4_118), (3, .ref of_c), (0, .ref o), (1, .int x0), (2, .int x1)] → W p l e (kRm 2 50 0 0) s m ([.ref o, .int x0, .int x1] : List Value).toArray below meth c H locs 0 0 (MQ below (va_Qi (S := (Nat → Int64) × (Nat → Int64)) (fun r u => (-1 ≤ r.toInt) ∧ (r.toInt ≤ 5)) (kBw D A (fun u => [(o, .inr (6, [.ref of, .ref o_ca, .ref o_bo, .int o_gust, .int o_still, .ref r, .ref o_wd, .ref o_sk])), (of, .inr (1, [.ref of_c])), (of_c, .inl (cy 0, 63, .inl g_of)), (o_ca, .inl (cy 0, 5, .inl g_oca)), (o_bo, .inl (cy 0, 5, .inl g_obo)), (o_wd, .inl (cy 1, 13, .inr (.inl (u.1)))), (o_sk, .inl (cy 1, 64, .inr (.inl (u.2))))])) A) ([.ref o, .int x0, .int x1] : List Value).toArray s 0 0 A) (F0 m 118 ls []) := by
    intro fu118
    induction fu118 with
    | zero =>
      intro v7_118 v5_118 v4_118 go_wd_118 go_sk_118 H locs ls j0_118 j1_118 j2_118 j3_118 hm118 hP hD hS hl
      exact absurd hm118 (by omega)
    | succ fu118 ih118 =>
      intro v7_118 v5_118 v4_118 go_wd_118 go_sk_118 H locs ls j0_118 j1_118 j2_118 j3_118 hm118 hP hD hS hl
      refine lv_iload hx hb dX6_aimOf_118 (lv_at hl 0 rfl) ?_
      refine lv_aload_n hx hb dX6_aimOf_120 rfl (lv_at hl 3 rfl) ?_
      refine lv_iconst (v := 3) hx hb dX6_aimOf_121 (by decide) ?_
      refine va_iald hx hb hE.1 hP 2 0 rfl rfl (by unfold vp_in; decide) dX6_aimOf_122 ?_
      refine k_top (z := (g_of 3)) rfl ?_
      refine lv_icmp_ge (tgt := 238) hx hb dX6_aimOf_123 (by decide) (fun c_15 => ?_) (fun c_15 => ?_)
      · have ic_15 : (g_of 3).toInt ≤ v7_118.toInt := k_le c_15 rfl rfl
        refine lv_iload hx hb dX6_aimOf_238 (lv_at hl 2 rfl) ?_
        exact KI.rt ⟨go_wd_118, go_sk_118⟩ F rfl (hP.sub [0, 1, 2, 3, 4, 5, 6] rfl) (hD.sub [0, 1, 2, 3, 4, 5, 6] (by decide) rfl) hS (show (-1 ≤ v4_118.toInt) ∧ (v4_118.toInt ≤ 5) from ⟨(by first | omega | assumption), (by first | omega | assumption)⟩) (Nat.le_of_ble_eq_true rfl) (Nat.le_of_ble_eq_true rfl) dX6_aimOf_240
      · have ic_15 : v7_118.toInt < (g_of 3).toInt := k_nle c_15 rfl rfl
        refine lv_aload_n hx hb dX6_aimOf_126 rfl (lv_at hl 4 rfl) ?_
        refine va_get (D := D) (ci := 6) (v := .ref o_wd) (C := RX6) (T := TX6) (N := 8) hx hb hG inG_X6 hown hE.1 hP 0 rfl rfl 6 (by decide) (hG _ q_f_X6_39) (fun _ h9 => h9) rfl dX6_aimOf_127 ?_
        refine lv_iconst (v := 1) hx hb dX6_aimOf_130 (by decide) ?_
        refine lv_iload hx hb dX6_aimOf_131 (lv_at hl 0 rfl) ?_
        refine lv_i2l hx hb dX6_aimOf_133 rfl ?_
        refine va_last hx hb hE.1 hP hD hS 5 1 rfl rfl (by unfold vp_in; decide) dX6_aimOf_134 (fun H locs hP hD hS => ?_)
        generalize vp_updL go_wd_118 (Int32.toNatClampNeg 1) ((v7_118).toInt64) = fn_16 at hP hD
        have hP : va_P D vwCl [(o, .inr (6, [.ref of, .ref o_ca, .ref o_bo, .int o_gust, .int o_still, .ref r, .ref o_wd, .ref o_sk])), (of, .inr (1, [.ref of_c])), (of_c, .inl (cy 0, 63, .inl g_of)), (o_ca, .inl (cy 0, 5, .inl g_oca)), (o_bo, .inl (cy 0, 5, .inl g_obo)), (o_wd, .inl (cy 1, 13, .inr (.inl fn_16))), (o_sk, .inl (cy 1, 64, .inr (.inl go_sk_118)))] H := hP
        have hD : va_D A [(o, .inr (6, [.ref of, .ref o_ca, .ref o_bo, .int o_gust, .int o_still, .ref r, .ref o_wd, .ref o_sk])), (of, .inr (1, [.ref of_c])), (of_c, .inl (cy 0, 63, .inl g_of)), (o_ca, .inl (cy 0, 5, .inl g_oca)), (o_bo, .inl (cy 0, 5, .inl g_obo)), (o_wd, .inl (cy 1, 13, .inr (.inl fn_16))), (o_sk, .inl (cy 1, 64, .inr (.inl go_sk_118)))] := hD
        refine lv_aload_n hx hb dX6_aimOf_135 rfl (lv_at hl 4 rfl) ?_
        refine va_get (D := D) (ci := 6) (v := .ref o_wd) (C := RX6) (T := TX6) (N := 8) hx hb hG inG_X6 hown hE.1 hP 0 rfl rfl 6 (by decide) (hG _ q_f_X6_39) (fun _ h9 => h9) rfl dX6_aimOf_136 ?_
        refine lv_iconst (v := 2) hx hb dX6_aimOf_139 (by decide) ?_
        refine lv_iload hx hb dX6_aimOf_140 (lv_at hl 0 rfl) ?_
        refine lv_aload_n hx hb dX6_aimOf_142 rfl (lv_at hl 3 rfl) ?_
        refine lv_bipush (v := 38) hx hb dX6_aimOf_143 (by decide) ?_
        refine lv_iload_n hx hb dX6_aimOf_145 rfl (lv_at hl 5 rfl) ?_
        refine lv_iadd hx hb dX6_aimOf_146 ?_
        refine lv_topi (fun z_17 ez_17 => ?_)
        have iz_17 : z_17.toInt = 38 + x0.toInt := k_addI ez_17 (by decide) rfl (by omega)
        refine va_iald hx hb hE.1 hP 2 0 rfl rfl (k_in (by omega)) dX6_aimOf_147 ?_
        refine k_top (z := (g_of (Int32.toNatClampNeg z_17))) rfl ?_
        have ow_18 := FV.own h_g_of z_17 (by omega)
        refine lv_icmp_ne (tgt := 155) hx hb dX6_aimOf_148 (by decide) (fun c_19 => ?_) (fun c_19 => ?_)
        · have ic_19 : v7_118.toInt ≠ (g_of (Int32.toNatClampNeg z_17)).toInt := k_ne c_19 rfl rfl
          refine lv_lconst (v := 0) hx hb dX6_aimOf_155 (by decide) ?_
          refine va_last hx hb hE.1 hP hD hS 5 1 rfl rfl (by unfold vp_in; decide) dX6_aimOf_156 (fun H locs hP hD hS => ?_)
          generalize vp_updL fn_16 (Int32.toNatClampNeg 2) 0 = fn_20 at hP hD
          have hP : va_P D vwCl [(o, .inr (6, [.ref of, .ref o_ca, .ref o_bo, .int o_gust, .int o_still, .ref r, .ref o_wd, .ref o_sk])), (of, .inr (1, [.ref of_c])), (of_c, .inl (cy 0, 63, .inl g_of)), (o_ca, .inl (cy 0, 5, .inl g_oca)), (o_bo, .inl (cy 0, 5, .inl g_obo)), (o_wd, .inl (cy 1, 13, .inr (.inl fn_20))), (o_sk, .inl (cy 1, 64, .inr (.inl go_sk_118)))] H := hP
          have hD : va_D A [(o, .inr (6, [.ref of, .ref o_ca, .ref o_bo, .int o_gust, .int o_still, .ref r, .ref o_wd, .ref o_sk])), (of, .inr (1, [.ref of_c])), (of_c, .inl (cy 0, 63, .inl g_of)), (o_ca, .inl (cy 0, 5, .inl g_oca)), (o_bo, .inl (cy 0, 5, .inl g_obo)), (o_wd, .inl (cy 1, 13, .inr (.inl fn_20))), (o_sk, .inl (cy 1, 64, .inr (.inl go_sk_118)))] := hD
          refine lv_aload_n hx hb dX6_aimOf_157 rfl (lv_at hl 4 rfl) ?_
          refine va_get (D := D) (ci := 6) (v := .ref o_wd) (C := RX6) (T := TX6) (N := 8) hx hb hG inG_X6 hown hE.1 hP 0 rfl rfl 6 (by decide) (hG _ q_f_X6_39) (fun _ h9 => h9) rfl dX6_aimOf_158 ?_
          refine lv_iconst (v := 3) hx hb dX6_aimOf_161 (by decide) ?_
          refine lv_aload_n hx hb dX6_aimOf_162 rfl (lv_at hl 3 rfl) ?_
          refine lv_bipush (v := 20) hx hb dX6_aimOf_163 (by decide) ?_
          refine lv_iload hx hb dX6_aimOf_165 (lv_at hl 0 rfl) ?_
          refine lv_iadd hx hb dX6_aimOf_167 ?_
          refine lv_topi (fun z_21 ez_21 => ?_)
          have iz_21 : z_21.toInt = 20 + v7_118.toInt := k_addI ez_21 (by decide) rfl (by omega)
          refine va_iald hx hb hE.1 hP 2 0 rfl rfl (k_in (by omega)) dX6_aimOf_168 ?_
          refine k_top (z := (g_of (Int32.toNatClampNeg z_21))) rfl ?_
          refine lv_i2l hx hb dX6_aimOf_169 rfl ?_
          refine va_last hx hb hE.1 hP hD hS 5 1 rfl rfl (by unfold vp_in; decide) dX6_aimOf_170 (fun H locs hP hD hS => ?_)
          generalize vp_updL fn_20 (Int32.toNatClampNeg 3) (((g_of (Int32.toNatClampNeg z_21))).toInt64) = fn_22 at hP hD
          have hP : va_P D vwCl [(o, .inr (6, [.ref of, .ref o_ca, .ref o_bo, .int o_gust, .int o_still, .ref r, .ref o_wd, .ref o_sk])), (of, .inr (1, [.ref of_c])), (of_c, .inl (cy 0, 63, .inl g_of)), (o_ca, .inl (cy 0, 5, .inl g_oca)), (o_bo, .inl (cy 0, 5, .inl g_obo)), (o_wd, .inl (cy 1, 13, .inr (.inl fn_22))), (o_sk, .inl (cy 1, 64, .inr (.inl go_sk_118)))] H := hP
          have hD : va_D A [(o, .inr (6, [.ref of, .ref o_ca, .ref o_bo, .int o_gust, .int o_still, .ref r, .ref o_wd, .ref o_sk])), (of, .inr (1, [.ref of_c])), (of_c, .inl (cy 0, 63, .inl g_of)), (o_ca, .inl (cy 0, 5, .inl g_oca)), (o_bo, .inl (cy 0, 5, .inl g_obo)), (o_wd, .inl (cy 1, 13, .inr (.inl fn_22))), (o_sk, .inl (cy 1, 64, .inr (.inl go_sk_118)))] := hD
          refine lv_aload_n hx hb dX6_aimOf_171 rfl (lv_at hl 4 rfl) ?_
          refine va_get (D := D) (ci := 6) (v := .ref o_wd) (C := RX6) (T := TX6) (N := 8) hx hb hG inG_X6 hown hE.1 hP 0 rfl rfl 6 (by decide) (hG _ q_f_X6_39) (fun _ h9 => h9) rfl dX6_aimOf_172 ?_
          refine lv_iconst (v := 4) hx hb dX6_aimOf_175 (by decide) ?_
          refine lv_aload_n hx hb dX6_aimOf_176 rfl (lv_at hl 3 rfl) ?_
          refine lv_bipush (v := 26) hx hb dX6_aimOf_177 (by decide) ?_
          refine lv_iload hx hb dX6_aimOf_179 (lv_at hl 0 rfl) ?_
          refine lv_iadd hx hb dX6_aimOf_181 ?_
          refine lv_topi (fun z_23 ez_23 => ?_)
          have iz_23 : z_23.toInt = 26 + v7_118.toInt := k_addI ez_23 (by decide) rfl (by omega)
          refine va_iald hx hb hE.1 hP 2 0 rfl rfl (k_in (by omega)) dX6_aimOf_182 ?_
          refine k_top (z := (g_of (Int32.toNatClampNeg z_23))) rfl ?_
          refine lv_i2l hx hb dX6_aimOf_183 rfl ?_
          refine va_last hx hb hE.1 hP hD hS 5 1 rfl rfl (by unfold vp_in; decide) dX6_aimOf_184 (fun H locs hP hD hS => ?_)
          generalize vp_updL fn_22 (Int32.toNatClampNeg 4) (((g_of (Int32.toNatClampNeg z_23))).toInt64) = fn_24 at hP hD
          have hP : va_P D vwCl [(o, .inr (6, [.ref of, .ref o_ca, .ref o_bo, .int o_gust, .int o_still, .ref r, .ref o_wd, .ref o_sk])), (of, .inr (1, [.ref of_c])), (of_c, .inl (cy 0, 63, .inl g_of)), (o_ca, .inl (cy 0, 5, .inl g_oca)), (o_bo, .inl (cy 0, 5, .inl g_obo)), (o_wd, .inl (cy 1, 13, .inr (.inl fn_24))), (o_sk, .inl (cy 1, 64, .inr (.inl go_sk_118)))] H := hP
          have hD : va_D A [(o, .inr (6, [.ref of, .ref o_ca, .ref o_bo, .int o_gust, .int o_still, .ref r, .ref o_wd, .ref o_sk])), (of, .inr (1, [.ref of_c])), (of_c, .inl (cy 0, 63, .inl g_of)), (o_ca, .inl (cy 0, 5, .inl g_oca)), (o_bo, .inl (cy 0, 5, .inl g_obo)), (o_wd, .inl (cy 1, 13, .inr (.inl fn_24))), (o_sk, .inl (cy 1, 64, .inr (.inl go_sk_118)))] := hD
          refine lv_aload_n hx hb dX6_aimOf_185 rfl (lv_at hl 4 rfl) ?_
          refine va_get (D := D) (ci := 6) (v := .ref o_wd) (C := RX6) (T := TX6) (N := 8) hx hb hG inG_X6 hown hE.1 hP 0 rfl rfl 6 (by decide) (hG _ q_f_X6_39) (fun _ h9 => h9) rfl dX6_aimOf_186 ?_
          refine lv_iconst (v := 5) hx hb dX6_aimOf_189 (by decide) ?_
          refine lv_aload_n hx hb dX6_aimOf_190 rfl (lv_at hl 3 rfl) ?_
          refine lv_bipush (v := 32) hx hb dX6_aimOf_191 (by decide) ?_
          refine lv_iload hx hb dX6_aimOf_193 (lv_at hl 0 rfl) ?_
          refine lv_iadd hx hb dX6_aimOf_195 ?_
          refine lv_topi (fun z_25 ez_25 => ?_)
          have iz_25 : z_25.toInt = 32 + v7_118.toInt := k_addI ez_25 (by decide) rfl (by omega)
          refine va_iald hx hb hE.1 hP 2 0 rfl rfl (k_in (by omega)) dX6_aimOf_196 ?_
          refine k_top (z := (g_of (Int32.toNatClampNeg z_25))) rfl ?_
          refine lv_i2l hx hb dX6_aimOf_197 rfl ?_
          refine va_last hx hb hE.1 hP hD hS 5 1 rfl rfl (by unfold vp_in; decide) dX6_aimOf_198 (fun H locs hP hD hS => ?_)
          generalize vp_updL fn_24 (Int32.toNatClampNeg 5) (((g_of (Int32.toNatClampNeg z_25))).toInt64) = fn_26 at hP hD
          have hP : va_P D vwCl [(o, .inr (6, [.ref of, .ref o_ca, .ref o_bo, .int o_gust, .int o_still, .ref r, .ref o_wd, .ref o_sk])), (of, .inr (1, [.ref of_c])), (of_c, .inl (cy 0, 63, .inl g_of)), (o_ca, .inl (cy 0, 5, .inl g_oca)), (o_bo, .inl (cy 0, 5, .inl g_obo)), (o_wd, .inl (cy 1, 13, .inr (.inl fn_26))), (o_sk, .inl (cy 1, 64, .inr (.inl go_sk_118)))] H := hP
          have hD : va_D A [(o, .inr (6, [.ref of, .ref o_ca, .ref o_bo, .int o_gust, .int o_still, .ref r, .ref o_wd, .ref o_sk])), (of, .inr (1, [.ref of_c])), (of_c, .inl (cy 0, 63, .inl g_of)), (o_ca, .inl (cy 0, 5, .inl g_oca)), (o_bo, .inl (cy 0, 5, .inl g_obo)), (o_wd, .inl (cy 1, 13, .inr (.inl fn_26))), (o_sk, .inl (cy 1, 64, .inr (.inl go_sk_118)))] := hD
          refine lv_aload_n hx hb dX6_aimOf_199 rfl (lv_at hl 4 rfl) ?_
          refine va_get (D := D) (ci := 6) (v := .ref r) (C := RX6) (T := TX6) (N := 8) hx hb hG inG_X6 hown hE.1 hP 0 rfl rfl 5 (by decide) (hG _ q_f_X6_33) (fun _ h9 => h9) rfl dX6_aimOf_200 ?_
          refine lv_aload_n hx hb dX6_aimOf_203 rfl (lv_at hl 4 rfl) ?_
          refine va_get (D := D) (ci := 6) (v := .ref o_wd) (C := RX6) (T := TX6) (N := 8) hx hb hG inG_X6 hown hE.1 hP 0 rfl rfl 6 (by decide) (hG _ q_f_X6_39) (fun _ h9 => h9) rfl dX6_aimOf_204 ?_
          refine lv_aload_n hx hb dX6_aimOf_207 rfl (lv_at hl 4 rfl) ?_
          refine va_get (D := D) (ci := 6) (v := .ref o_sk) (C := RX6) (T := TX6) (N := 8) hx hb hG inG_X6 hown hE.1 hP 0 rfl rfl 7 (by decide) (hG _ q_f_X6_43) (fun _ h9 => h9) rfl dX6_aimOf_208 ?_
          refine jwTL (wr := [(o, .inr (6, [.ref of, .ref o_ca, .ref o_bo, .int o_gust, .int o_still, .ref r, .ref o_wd, .ref o_sk])), (of, .inr (1, [.ref of_c])), (of_c, .inl (cy 0, 63, .inl g_of)), (o_ca, .inl (cy 0, 5, .inl g_oca)), (o_bo, .inl (cy 0, 5, .inl g_obo))]) (As := [.ref o_wd, .ref o_sk]) (rest := []) F hE hP hD hS hA hl.1 hz hZ (zt _ _ _ (j_at hz hZ hS)) (cc_worth l D cy (Z := Z) (hz := hz) (TT := TT) (zt := zt) (r := r) (wd := o_wd) (sk := o_sk) (g_wd := fn_26) (g_sk := go_sk_118) (st := st) (ra := ra) (rn := rn) (rg := rg) (ri := ri) (rj := rj) (hTi := (by first | omega | assumption)) (hTj := (by first | omega | assumption)) (hn4 := (by first | omega | assumption)) (hg := (by first | omega | assumption))) q_m_X6_87 mv_X7_worth ⟨(Nat.le_of_ble_eq_true rfl), (Nat.le_of_ble_eq_true rfl)⟩ [5, 6] [0, 1, 2, 3, 4] (by decide) rfl rfl (by decide) (by decide) hTi rfl rfl rfl rfl (Nat.le_of_ble_eq_true rfl) ⟨(Nat.le_of_ble_eq_true rfl), (Nat.le_of_ble_eq_true rfl)⟩ dX6_aimOf_211 (fun r_28 u_27 H locs eu_27 hP hD hS => ?_)
          have hP : va_P D vwCl [(o, .inr (6, [.ref of, .ref o_ca, .ref o_bo, .int o_gust, .int o_still, .ref r, .ref o_wd, .ref o_sk])), (of, .inr (1, [.ref of_c])), (of_c, .inl (cy 0, 63, .inl g_of)), (o_ca, .inl (cy 0, 5, .inl g_oca)), (o_bo, .inl (cy 0, 5, .inl g_obo)), (o_wd, .inl (cy 1, 13, .inr (.inl fn_26))), (o_sk, .inl (cy 1, 64, .inr (.inl u_27)))] H := hP
          have hD : va_D A [(o, .inr (6, [.ref of, .ref o_ca, .ref o_bo, .int o_gust, .int o_still, .ref r, .ref o_wd, .ref o_sk])), (of, .inr (1, [.ref of_c])), (of_c, .inl (cy 0, 63, .inl g_of)), (o_ca, .inl (cy 0, 5, .inl g_oca)), (o_bo, .inl (cy 0, 5, .inl g_obo)), (o_wd, .inl (cy 1, 13, .inr (.inl fn_26))), (o_sk, .inl (cy 1, 64, .inr (.inl u_27)))] := hD
          refine lv_lstore (lv' := [(8, .long r_28), (7, .int v7_118), (5, .long v5_118), (4, .int v4_118), (3, .ref of_c), (0, .ref o), (1, .int x0), (2, .int x1)]) hx hb dX6_aimOf_214 hl (by decide) rfl (fun ls hl => ?_)
          refine lv_lload hx hb dX6_aimOf_216 (lv_at hl 0 rfl) ?_
          refine lv_lload hx hb dX6_aimOf_218 (lv_at hl 2 rfl) ?_
          refine W.lcmp hx hb dX6_aimOf_220 ?_
          refine lv_topi (fun z_30 ez_30 => ?_)
          refine lv_if_le (tgt := 232) hx hb dX6_aimOf_221 (by decide) (fun c_31 => ?_) (fun c_31 => ?_)
          · have ic_31 : z_30.toInt ≤ 0 := k_le c_31 rfl (by decide)
            obtain ⟨z_32, ez_32⟩ : ∃ y : Int32, y = v7_118 + Int32.ofInt 1 := ⟨_, rfl⟩
            have iz_32 : z_32.toInt = v7_118.toInt + 1 := k_addI ez_32 rfl (by decide) (by omega)
            refine lv_iinc (v := z_32) (lv' := [(7, .int z_32), (8, .long r_28), (5, .long v5_118), (4, .int v4_118), (3, .ref of_c), (0, .ref o), (1, .int x0), (2, .int x1)]) hx hb dX6_aimOf_232 hl (k := 1) rfl ez_32.symm (by decide) rfl (fun ls hl => ?_)
            refine lv_goto (tgt := 118) hx hb dX6_aimOf_235 (by decide) ?_
            exact ih118 z_32 v5_118 v4_118 fn_26 u_27 _ _ ls (by first | omega | assumption) (by first | omega | assumption) (by first | omega | assumption) (by first | omega | assumption) (by omega) hP hD hS (lv_sub hl [0, 2, 3, 4, 5, 6, 7] rfl)
          · have ic_31 : 0 < z_30.toInt := k_nle c_31 rfl (by decide)
            refine lv_lload hx hb dX6_aimOf_224 (lv_at hl 0 rfl) ?_
            refine lv_lstore (lv' := [(5, .long r_28), (8, .long r_28), (7, .int v7_118), (4, .int v4_118), (3, .ref of_c), (0, .ref o), (1, .int x0), (2, .int x1)]) hx hb dX6_aimOf_226 hl (by decide) rfl (fun ls hl => ?_)
            refine lv_iload hx hb dX6_aimOf_228 (lv_at hl 2 rfl) ?_
            refine lv_istore (lv' := [(4, .int v7_118), (5, .long r_28), (8, .long r_28), (7, .int v7_118), (3, .ref of_c), (0, .ref o), (1, .int x0), (2, .int x1)]) hx hb dX6_aimOf_230 hl (by decide) rfl (fun ls hl => ?_)
            obtain ⟨z_33, ez_33⟩ : ∃ y : Int32, y = v7_118 + Int32.ofInt 1 := ⟨_, rfl⟩
            have iz_33 : z_33.toInt = v7_118.toInt + 1 := k_addI ez_33 rfl (by decide) (by omega)
            refine lv_iinc (v := z_33) (lv' := [(7, .int z_33), (4, .int v7_118), (5, .long r_28), (8, .long r_28), (3, .ref of_c), (0, .ref o), (1, .int x0), (2, .int x1)]) hx hb dX6_aimOf_232 hl (k := 3) rfl ez_33.symm (by decide) rfl (fun ls hl => ?_)
            refine lv_goto (tgt := 118) hx hb dX6_aimOf_235 (by decide) ?_
            exact ih118 z_33 r_28 v7_118 fn_26 u_27 _ _ ls (by first | omega | assumption) (by first | omega | assumption) (by first | omega | assumption) (by first | omega | assumption) (by omega) hP hD hS (lv_sub hl [0, 2, 1, 4, 5, 6, 7] rfl)
        · have ic_19 : v7_118.toInt = (g_of (Int32.toNatClampNeg z_17)).toInt := k_eq c_19 rfl rfl
          refine lv_lconst (v := 1) hx hb dX6_aimOf_151 (by decide) ?_
          refine lv_goto (tgt := 156) hx hb dX6_aimOf_152 (by decide) ?_
          refine va_last hx hb hE.1 hP hD hS 5 1 rfl rfl (by unfold vp_in; decide) dX6_aimOf_156 (fun H locs hP hD hS => ?_)
          generalize vp_updL fn_16 (Int32.toNatClampNeg 2) 1 = fn_34 at hP hD
          have hP : va_P D vwCl [(o, .inr (6, [.ref of, .ref o_ca, .ref o_bo, .int o_gust, .int o_still, .ref r, .ref o_wd, .ref o_sk])), (of, .inr (1, [.ref of_c])), (of_c, .inl (cy 0, 63, .inl g_of)), (o_ca, .inl (cy 0, 5, .inl g_oca)), (o_bo, .inl (cy 0, 5, .inl g_obo)), (o_wd, .inl (cy 1, 13, .inr (.inl fn_34))), (o_sk, .inl (cy 1, 64, .inr (.inl go_sk_118)))] H := hP
          have hD : va_D A [(o, .inr (6, [.ref of, .ref o_ca, .ref o_bo, .int o_gust, .int o_still, .ref r, .ref o_wd, .ref o_sk])), (of, .inr (1, [.ref of_c])), (of_c, .inl (cy 0, 63, .inl g_of)), (o_ca, .inl (cy 0, 5, .inl g_oca)), (o_bo, .inl (cy 0, 5, .inl g_obo)), (o_wd, .inl (cy 1, 13, .inr (.inl fn_34))), (o_sk, .inl (cy 1, 64, .inr (.inl go_sk_118)))] := hD
          refine lv_aload_n hx hb dX6_aimOf_157 rfl (lv_at hl 4 rfl) ?_
          refine va_get (D := D) (ci := 6) (v := .ref o_wd) (C := RX6) (T := TX6) (N := 8) hx hb hG inG_X6 hown hE.1 hP 0 rfl rfl 6 (by decide) (hG _ q_f_X6_39) (fun _ h9 => h9) rfl dX6_aimOf_158 ?_
          refine lv_iconst (v := 3) hx hb dX6_aimOf_161 (by decide) ?_
          refine lv_aload_n hx hb dX6_aimOf_162 rfl (lv_at hl 3 rfl) ?_
          refine lv_bipush (v := 20) hx hb dX6_aimOf_163 (by decide) ?_
          refine lv_iload hx hb dX6_aimOf_165 (lv_at hl 0 rfl) ?_
          refine lv_iadd hx hb dX6_aimOf_167 ?_
          refine lv_topi (fun z_35 ez_35 => ?_)
          have iz_35 : z_35.toInt = 20 + v7_118.toInt := k_addI ez_35 (by decide) rfl (by omega)
          refine va_iald hx hb hE.1 hP 2 0 rfl rfl (k_in (by omega)) dX6_aimOf_168 ?_
          refine k_top (z := (g_of (Int32.toNatClampNeg z_35))) rfl ?_
          refine lv_i2l hx hb dX6_aimOf_169 rfl ?_
          refine va_last hx hb hE.1 hP hD hS 5 1 rfl rfl (by unfold vp_in; decide) dX6_aimOf_170 (fun H locs hP hD hS => ?_)
          generalize vp_updL fn_34 (Int32.toNatClampNeg 3) (((g_of (Int32.toNatClampNeg z_35))).toInt64) = fn_36 at hP hD
          have hP : va_P D vwCl [(o, .inr (6, [.ref of, .ref o_ca, .ref o_bo, .int o_gust, .int o_still, .ref r, .ref o_wd, .ref o_sk])), (of, .inr (1, [.ref of_c])), (of_c, .inl (cy 0, 63, .inl g_of)), (o_ca, .inl (cy 0, 5, .inl g_oca)), (o_bo, .inl (cy 0, 5, .inl g_obo)), (o_wd, .inl (cy 1, 13, .inr (.inl fn_36))), (o_sk, .inl (cy 1, 64, .inr (.inl go_sk_118)))] H := hP
          have hD : va_D A [(o, .inr (6, [.ref of, .ref o_ca, .ref o_bo, .int o_gust, .int o_still, .ref r, .ref o_wd, .ref o_sk])), (of, .inr (1, [.ref of_c])), (of_c, .inl (cy 0, 63, .inl g_of)), (o_ca, .inl (cy 0, 5, .inl g_oca)), (o_bo, .inl (cy 0, 5, .inl g_obo)), (o_wd, .inl (cy 1, 13, .inr (.inl fn_36))), (o_sk, .inl (cy 1, 64, .inr (.inl go_sk_118)))] := hD
          refine lv_aload_n hx hb dX6_aimOf_171 rfl (lv_at hl 4 rfl) ?_
          refine va_get (D := D) (ci := 6) (v := .ref o_wd) (C := RX6) (T := TX6) (N := 8) hx hb hG inG_X6 hown hE.1 hP 0 rfl rfl 6 (by decide) (hG _ q_f_X6_39) (fun _ h9 => h9) rfl dX6_aimOf_172 ?_
          refine lv_iconst (v := 4) hx hb dX6_aimOf_175 (by decide) ?_
          refine lv_aload_n hx hb dX6_aimOf_176 rfl (lv_at hl 3 rfl) ?_
          refine lv_bipush (v := 26) hx hb dX6_aimOf_177 (by decide) ?_
          refine lv_iload hx hb dX6_aimOf_179 (lv_at hl 0 rfl) ?_
          refine lv_iadd hx hb dX6_aimOf_181 ?_
          refine lv_topi (fun z_37 ez_37 => ?_)
          have iz_37 : z_37.toInt = 26 + v7_118.toInt := k_addI ez_37 (by decide) rfl (by omega)
          refine va_iald hx hb hE.1 hP 2 0 rfl rfl (k_in (by omega)) dX6_aimOf_182 ?_
          refine k_top (z := (g_of (Int32.toNatClampNeg z_37))) rfl ?_
          refine lv_i2l hx hb dX6_aimOf_183 rfl ?_
          refine va_last hx hb hE.1 hP hD hS 5 1 rfl rfl (by unfold vp_in; decide) dX6_aimOf_184 (fun H locs hP hD hS => ?_)
          generalize vp_updL fn_36 (Int32.toNatClampNeg 4) (((g_of (Int32.toNatClampNeg z_37))).toInt64) = fn_38 at hP hD
          have hP : va_P D vwCl [(o, .inr (6, [.ref of, .ref o_ca, .ref o_bo, .int o_gust, .int o_still, .ref r, .ref o_wd, .ref o_sk])), (of, .inr (1, [.ref of_c])), (of_c, .inl (cy 0, 63, .inl g_of)), (o_ca, .inl (cy 0, 5, .inl g_oca)), (o_bo, .inl (cy 0, 5, .inl g_obo)), (o_wd, .inl (cy 1, 13, .inr (.inl fn_38))), (o_sk, .inl (cy 1, 64, .inr (.inl go_sk_118)))] H := hP
          have hD : va_D A [(o, .inr (6, [.ref of, .ref o_ca, .ref o_bo, .int o_gust, .int o_still, .ref r, .ref o_wd, .ref o_sk])), (of, .inr (1, [.ref of_c])), (of_c, .inl (cy 0, 63, .inl g_of)), (o_ca, .inl (cy 0, 5, .inl g_oca)), (o_bo, .inl (cy 0, 5, .inl g_obo)), (o_wd, .inl (cy 1, 13, .inr (.inl fn_38))), (o_sk, .inl (cy 1, 64, .inr (.inl go_sk_118)))] := hD
          refine lv_aload_n hx hb dX6_aimOf_185 rfl (lv_at hl 4 rfl) ?_
          refine va_get (D := D) (ci := 6) (v := .ref o_wd) (C := RX6) (T := TX6) (N := 8) hx hb hG inG_X6 hown hE.1 hP 0 rfl rfl 6 (by decide) (hG _ q_f_X6_39) (fun _ h9 => h9) rfl dX6_aimOf_186 ?_
          refine lv_iconst (v := 5) hx hb dX6_aimOf_189 (by decide) ?_
          refine lv_aload_n hx hb dX6_aimOf_190 rfl (lv_at hl 3 rfl) ?_
          refine lv_bipush (v := 32) hx hb dX6_aimOf_191 (by decide) ?_
          refine lv_iload hx hb dX6_aimOf_193 (lv_at hl 0 rfl) ?_
          refine lv_iadd hx hb dX6_aimOf_195 ?_
          refine lv_topi (fun z_39 ez_39 => ?_)
          have iz_39 : z_39.toInt = 32 + v7_118.toInt := k_addI ez_39 (by decide) rfl (by omega)
          refine va_iald hx hb hE.1 hP 2 0 rfl rfl (k_in (by omega)) dX6_aimOf_196 ?_
          refine k_top (z := (g_of (Int32.toNatClampNeg z_39))) rfl ?_
          refine lv_i2l hx hb dX6_aimOf_197 rfl ?_
          refine va_last hx hb hE.1 hP hD hS 5 1 rfl rfl (by unfold vp_in; decide) dX6_aimOf_198 (fun H locs hP hD hS => ?_)
          generalize vp_updL fn_38 (Int32.toNatClampNeg 5) (((g_of (Int32.toNatClampNeg z_39))).toInt64) = fn_40 at hP hD
          have hP : va_P D vwCl [(o, .inr (6, [.ref of, .ref o_ca, .ref o_bo, .int o_gust, .int o_still, .ref r, .ref o_wd, .ref o_sk])), (of, .inr (1, [.ref of_c])), (of_c, .inl (cy 0, 63, .inl g_of)), (o_ca, .inl (cy 0, 5, .inl g_oca)), (o_bo, .inl (cy 0, 5, .inl g_obo)), (o_wd, .inl (cy 1, 13, .inr (.inl fn_40))), (o_sk, .inl (cy 1, 64, .inr (.inl go_sk_118)))] H := hP
          have hD : va_D A [(o, .inr (6, [.ref of, .ref o_ca, .ref o_bo, .int o_gust, .int o_still, .ref r, .ref o_wd, .ref o_sk])), (of, .inr (1, [.ref of_c])), (of_c, .inl (cy 0, 63, .inl g_of)), (o_ca, .inl (cy 0, 5, .inl g_oca)), (o_bo, .inl (cy 0, 5, .inl g_obo)), (o_wd, .inl (cy 1, 13, .inr (.inl fn_40))), (o_sk, .inl (cy 1, 64, .inr (.inl go_sk_118)))] := hD
          refine lv_aload_n hx hb dX6_aimOf_199 rfl (lv_at hl 4 rfl) ?_
          refine va_get (D := D) (ci := 6) (v := .ref r) (C := RX6) (T := TX6) (N := 8) hx hb hG inG_X6 hown hE.1 hP 0 rfl rfl 5 (by decide) (hG _ q_f_X6_33) (fun _ h9 => h9) rfl dX6_aimOf_200 ?_
          refine lv_aload_n hx hb dX6_aimOf_203 rfl (lv_at hl 4 rfl) ?_
          refine va_get (D := D) (ci := 6) (v := .ref o_wd) (C := RX6) (T := TX6) (N := 8) hx hb hG inG_X6 hown hE.1 hP 0 rfl rfl 6 (by decide) (hG _ q_f_X6_39) (fun _ h9 => h9) rfl dX6_aimOf_204 ?_
          refine lv_aload_n hx hb dX6_aimOf_207 rfl (lv_at hl 4 rfl) ?_
          refine va_get (D := D) (ci := 6) (v := .ref o_sk) (C := RX6) (T := TX6) (N := 8) hx hb hG inG_X6 hown hE.1 hP 0 rfl rfl 7 (by decide) (hG _ q_f_X6_43) (fun _ h9 => h9) rfl dX6_aimOf_208 ?_
          refine jwTL (wr := [(o, .inr (6, [.ref of, .ref o_ca, .ref o_bo, .int o_gust, .int o_still, .ref r, .ref o_wd, .ref o_sk])), (of, .inr (1, [.ref of_c])), (of_c, .inl (cy 0, 63, .inl g_of)), (o_ca, .inl (cy 0, 5, .inl g_oca)), (o_bo, .inl (cy 0, 5, .inl g_obo))]) (As := [.ref o_wd, .ref o_sk]) (rest := []) F hE hP hD hS hA hl.1 hz hZ (zt _ _ _ (j_at hz hZ hS)) (cc_worth l D cy (Z := Z) (hz := hz) (TT := TT) (zt := zt) (r := r) (wd := o_wd) (sk := o_sk) (g_wd := fn_40) (g_sk := go_sk_118) (st := st) (ra := ra) (rn := rn) (rg := rg) (ri := ri) (rj := rj) (hTi := (by first | omega | assumption)) (hTj := (by first | omega | assumption)) (hn4 := (by first | omega | assumption)) (hg := (by first | omega | assumption))) q_m_X6_87 mv_X7_worth ⟨(Nat.le_of_ble_eq_true rfl), (Nat.le_of_ble_eq_true rfl)⟩ [5, 6] [0, 1, 2, 3, 4] (by decide) rfl rfl (by decide) (by decide) hTi rfl rfl rfl rfl (Nat.le_of_ble_eq_true rfl) ⟨(Nat.le_of_ble_eq_true rfl), (Nat.le_of_ble_eq_true rfl)⟩ dX6_aimOf_211 (fun r_42 u_41 H locs eu_41 hP hD hS => ?_)
          have hP : va_P D vwCl [(o, .inr (6, [.ref of, .ref o_ca, .ref o_bo, .int o_gust, .int o_still, .ref r, .ref o_wd, .ref o_sk])), (of, .inr (1, [.ref of_c])), (of_c, .inl (cy 0, 63, .inl g_of)), (o_ca, .inl (cy 0, 5, .inl g_oca)), (o_bo, .inl (cy 0, 5, .inl g_obo)), (o_wd, .inl (cy 1, 13, .inr (.inl fn_40))), (o_sk, .inl (cy 1, 64, .inr (.inl u_41)))] H := hP
          have hD : va_D A [(o, .inr (6, [.ref of, .ref o_ca, .ref o_bo, .int o_gust, .int o_still, .ref r, .ref o_wd, .ref o_sk])), (of, .inr (1, [.ref of_c])), (of_c, .inl (cy 0, 63, .inl g_of)), (o_ca, .inl (cy 0, 5, .inl g_oca)), (o_bo, .inl (cy 0, 5, .inl g_obo)), (o_wd, .inl (cy 1, 13, .inr (.inl fn_40))), (o_sk, .inl (cy 1, 64, .inr (.inl u_41)))] := hD
          refine lv_lstore (lv' := [(8, .long r_42), (7, .int v7_118), (5, .long v5_118), (4, .int v4_118), (3, .ref of_c), (0, .ref o), (1, .int x0), (2, .int x1)]) hx hb dX6_aimOf_214 hl (by decide) rfl (fun ls hl => ?_)
          refine lv_lload hx hb dX6_aimOf_216 (lv_at hl 0 rfl) ?_
          refine lv_lload hx hb dX6_aimOf_218 (lv_at hl 2 rfl) ?_
          refine W.lcmp hx hb dX6_aimOf_220 ?_
          refine lv_topi (fun z_44 ez_44 => ?_)
          refine lv_if_le (tgt := 232) hx hb dX6_aimOf_221 (by decide) (fun c_45 => ?_) (fun c_45 => ?_)
          · have ic_45 : z_44.toInt ≤ 0 := k_le c_45 rfl (by decide)
            obtain ⟨z_46, ez_46⟩ : ∃ y : Int32, y = v7_118 + Int32.ofInt 1 := ⟨_, rfl⟩
            have iz_46 : z_46.toInt = v7_118.toInt + 1 := k_addI ez_46 rfl (by decide) (by omega)
            refine lv_iinc (v := z_46) (lv' := [(7, .int z_46), (8, .long r_42), (5, .long v5_118), (4, .int v4_118), (3, .ref of_c), (0, .ref o), (1, .int x0), (2, .int x1)]) hx hb dX6_aimOf_232 hl (k := 1) rfl ez_46.symm (by decide) rfl (fun ls hl => ?_)
            refine lv_goto (tgt := 118) hx hb dX6_aimOf_235 (by decide) ?_
            exact ih118 z_46 v5_118 v4_118 fn_40 u_41 _ _ ls (by first | omega | assumption) (by first | omega | assumption) (by first | omega | assumption) (by first | omega | assumption) (by omega) hP hD hS (lv_sub hl [0, 2, 3, 4, 5, 6, 7] rfl)
          · have ic_45 : 0 < z_44.toInt := k_nle c_45 rfl (by decide)
            refine lv_lload hx hb dX6_aimOf_224 (lv_at hl 0 rfl) ?_
            refine lv_lstore (lv' := [(5, .long r_42), (8, .long r_42), (7, .int v7_118), (4, .int v4_118), (3, .ref of_c), (0, .ref o), (1, .int x0), (2, .int x1)]) hx hb dX6_aimOf_226 hl (by decide) rfl (fun ls hl => ?_)
            refine lv_iload hx hb dX6_aimOf_228 (lv_at hl 2 rfl) ?_
            refine lv_istore (lv' := [(4, .int v7_118), (5, .long r_42), (8, .long r_42), (7, .int v7_118), (3, .ref of_c), (0, .ref o), (1, .int x0), (2, .int x1)]) hx hb dX6_aimOf_230 hl (by decide) rfl (fun ls hl => ?_)
            obtain ⟨z_47, ez_47⟩ : ∃ y : Int32, y = v7_118 + Int32.ofInt 1 := ⟨_, rfl⟩
            have iz_47 : z_47.toInt = v7_118.toInt + 1 := k_addI ez_47 rfl (by decide) (by omega)
            refine lv_iinc (v := z_47) (lv' := [(7, .int z_47), (4, .int v7_118), (5, .long r_42), (8, .long r_42), (3, .ref of_c), (0, .ref o), (1, .int x0), (2, .int x1)]) hx hb dX6_aimOf_232 hl (k := 3) rfl ez_47.symm (by decide) rfl (fun ls hl => ?_)
            refine lv_goto (tgt := 118) hx hb dX6_aimOf_235 (by decide) ?_
            exact ih118 z_47 r_42 v7_118 fn_40 u_41 _ _ ls (by first | omega | assumption) (by first | omega | assumption) (by first | omega | assumption) (by first | omega | assumption) (by omega) hP hD hS (lv_sub hl [0, 2, 1, 4, 5, 6, 7] rfl)
  have lt_48 : ((-1) : Int32).toInt = (-1) := by decide
  have lt_49 : (0 : Int32).toInt = 0 := by decide
  exact lp118 100000 0 0 (-1) fn_14 g_osk _ _ ls (by first | omega | assumption) (by first | omega | assumption) (by first | omega | assumption) (by first | omega | assumption) (by omega) hP hD hS hl

set_option maxHeartbeats 4000000 in
set_option maxRecDepth 100000 in
theorem cc_X6_takeTurn (l : Launch) (D : va_G) (cy : Nat → ClassId) {Z : (Nat → Prop) → State → Heap → Prop} (hz : zOK Z) {TT : va_W} (zt : ∀ (A : Nat → Prop) (U : State) (H : Heap), Z A U H → va_P D vwCl TT H) (o : Nat) (of : Nat) (of_c : Nat) (g_of : Nat → Int32) (o_ca : Nat) (o_bo : Nat) (o_wd : Nat) (o_sk : Nat) (o_gust : Int32) (o_still : Int32) (o_rv : Value) (g_oca : Nat → Int32) (g_obo : Nat → Int32) (g_owd : Nat → Int64) (g_osk : Nat → Int64) (x0 : Int32) (h_g_of : FV g_of) (h_g_obo : PLV g_obo) (hrv : RIn TT (cy 0) o_rv) (p0 : 0 ≤ x0.toInt) (p1 : x0.toInt ≤ 4) : JI l yX6_takeTurn cX6_takeTurn 4 (some .int) 3 79 D (kTY cy) [.ref o, .int x0] [(o, .inr (6, [.ref of, .ref o_ca, .ref o_bo, .int o_gust, .int o_still, o_rv, .ref o_wd, .ref o_sk])), (of, .inr (1, [.ref of_c])), (of_c, .inl (cy 0, 63, .inl g_of)), (o_ca, .inl (cy 0, 5, .inl g_oca)), (o_bo, .inl (cy 0, 5, .inl g_obo)), (o_wd, .inl (cy 1, 13, .inr (.inl g_owd))), (o_sk, .inl (cy 1, 64, .inr (.inl g_osk)))] Z (S := (Nat → Int32) × (Nat → Int64) × (Nat → Int64)) (fun r u => FV (u.1)) (fun u => [(o, .inr (6, [.ref of, .ref o_ca, .ref o_bo, .int o_gust, .int o_still, o_rv, .ref o_wd, .ref o_sk])), (of, .inr (1, [.ref of_c])), (of_c, .inl (cy 0, 63, .inl (u.1))), (o_ca, .inl (cy 0, 5, .inl g_oca)), (o_bo, .inl (cy 0, 5, .inl g_obo)), (o_wd, .inl (cy 1, 13, .inr (.inl (u.2.1)))), (o_sk, .inl (cy 1, 64, .inr (.inl (u.2.2))))]) 0 0 := by
  refine JI.of (by decide) (Nat.le_of_ble_eq_true rfl) (fun p e s m below meth c ls A F hE hP hD hA hS hl hZ => ?_)
  have F : kF p s m meth c cX6_takeTurn 4 (some .int) _ RX6 := F
  obtain ⟨hx, hb, hr, hml, hown, hG, hlk⟩ := id F
  have hl : lv_has ls 4 [(0, .ref o), (1, .int x0)] := hl
  obtain ⟨⟨b_1a, b_1b⟩, ⟨b_1c, b_1d⟩, ⟨b_1e, b_1f⟩⟩ := FV.bounds h_g_of
  refine lv_aload_n hx hb dX6_takeTurn_0 rfl (lv_at hl 0 rfl) ?_
  refine va_get (D := D) (ci := 6) (v := .int o_gust) (C := RX6) (T := TX6) (N := 8) hx hb hG inG_X6 hown hE.1 hP 0 rfl rfl 3 (by decide) (hG _ q_f_X6_25) (fun _ h9 => h9) rfl dX6_takeTurn_1 ?_
  refine lv_iconst (v := (-1)) hx hb dX6_takeTurn_4 (by decide) ?_
  refine lv_icmp_ne (tgt := 28) hx hb dX6_takeTurn_5 (by decide) (fun c_2 => ?_) (fun c_2 => ?_)
  · have ic_2 : o_gust.toInt ≠ (-1) := k_ne c_2 rfl (by decide)
    refine lv_aload_n hx hb dX6_takeTurn_28 rfl (lv_at hl 0 rfl) ?_
    refine va_get (D := D) (ci := 6) (v := .int o_gust) (C := RX6) (T := TX6) (N := 8) hx hb hG inG_X6 hown hE.1 hP 0 rfl rfl 3 (by decide) (hG _ q_f_X6_25) (fun _ h9 => h9) rfl dX6_takeTurn_29 ?_
    refine lv_istore_n (lv' := [(2, .int o_gust), (0, .ref o), (1, .int x0)]) hx hb dX6_takeTurn_32 rfl hl (by decide) rfl (fun ls hl => ?_)
    refine lv_aload_n hx hb dX6_takeTurn_33 rfl (lv_at hl 1 rfl) ?_
    refine va_get (D := D) (ci := 6) (v := .ref o_bo) (C := RX6) (T := TX6) (N := 8) hx hb hG inG_X6 hown hE.1 hP 0 rfl rfl 2 (by decide) (hG _ q_f_X6_22) (fun _ h9 => h9) rfl dX6_takeTurn_34 ?_
    refine lv_iload_n hx hb dX6_takeTurn_37 rfl (lv_at hl 2 rfl) ?_
    refine va_iald hx hb hE.1 hP 4 0 rfl rfl (k_in (by omega)) dX6_takeTurn_38 ?_
    refine k_top (z := (g_obo (Int32.toNatClampNeg x0))) rfl ?_
    have bn_3 := PLV.at h_g_obo x0 (by omega)
    refine lv_istore_n (lv' := [(3, .int (g_obo (Int32.toNatClampNeg x0))), (2, .int o_gust), (0, .ref o), (1, .int x0)]) hx hb dX6_takeTurn_39 rfl hl (by decide) rfl (fun ls hl => ?_)
    refine lv_iload_n hx hb dX6_takeTurn_40 rfl (lv_at hl 0 rfl) ?_
    refine lv_iconst (v := (-1)) hx hb dX6_takeTurn_41 (by decide) ?_
    refine lv_icmp_ne (tgt := 74) hx hb dX6_takeTurn_42 (by decide) (fun c_4 => ?_) (fun c_4 => ?_)
    · have ic_4 : (g_obo (Int32.toNatClampNeg x0)).toInt ≠ (-1) := k_ne c_4 rfl (by decide)
      refine lv_iload_n hx hb dX6_takeTurn_74 rfl (lv_at hl 0 rfl) ?_
      refine lv_iconst (v := (-1)) hx hb dX6_takeTurn_75 (by decide) ?_
      refine lv_icmp_ne (tgt := 84) hx hb dX6_takeTurn_76 (by decide) (fun c_5 => ?_) (fun c_5 => ?_)
      · have ic_5 : (g_obo (Int32.toNatClampNeg x0)).toInt ≠ (-1) := k_ne c_5 rfl (by decide)
        refine lv_aload_n hx hb dX6_takeTurn_84 rfl (lv_at hl 2 rfl) ?_
        refine va_get (D := D) (ci := 6) (v := .ref of) (C := RX6) (T := TX6) (N := 8) hx hb hG inG_X6 hown hE.1 hP 0 rfl rfl 0 (by decide) (hG _ q_f_X6_12) (fun _ h9 => h9) rfl dX6_takeTurn_85 ?_
        refine lv_iload_n hx hb dX6_takeTurn_88 rfl (lv_at hl 3 rfl) ?_
        refine lv_iload_n hx hb dX6_takeTurn_89 rfl (lv_at hl 0 rfl) ?_
        refine lv_iload_n hx hb dX6_takeTurn_90 rfl (lv_at hl 1 rfl) ?_
        refine kwVI (wr := [(o, .inr (6, [.ref of, .ref o_ca, .ref o_bo, .int o_gust, .int o_still, o_rv, .ref o_wd, .ref o_sk])), (o_ca, .inl (cy 0, 5, .inl g_oca)), (o_bo, .inl (cy 0, 5, .inl g_obo)), (o_wd, .inl (cy 1, 13, .inr (.inl g_owd))), (o_sk, .inl (cy 1, 64, .inr (.inl g_osk)))]) (As := [.int x0, .int (g_obo (Int32.toNatClampNeg x0)), .int o_gust]) (rest := []) F hE hP hD hS hA hl.1 (cc_X1_loose l D cy (o := of) (x0 := x0) (x1 := (g_obo (Int32.toNatClampNeg x0))) (x2 := o_gust) (o_c := of_c) (g_o := g_of) (h_g_o := h_g_of) (p0 := (by first | omega | assumption)) (p1 := (by first | omega | assumption)) (p2 := (by first | omega | assumption)) (p3 := (by first | omega | assumption))) q_m_X6_80 mv_X1_loose ⟨(Nat.le_of_ble_eq_true rfl), (Nat.le_of_ble_eq_true rfl)⟩ [1, 2] [0, 3, 4, 5, 6] (by decide) rfl rfl (by decide) (by decide) rfl rfl rfl rfl rfl (Nat.le_of_ble_eq_true rfl) ⟨(Nat.le_of_ble_eq_true rfl), (Nat.le_of_ble_eq_true rfl)⟩ dX6_takeTurn_91 (fun r_7 u_6 H locs eu_6 hP hD hS => ?_)
        have eu_6 : FV u_6 := eu_6
        have hP : va_P D vwCl [(o, .inr (6, [.ref of, .ref o_ca, .ref o_bo, .int o_gust, .int o_still, o_rv, .ref o_wd, .ref o_sk])), (o_ca, .inl (cy 0, 5, .inl g_oca)), (o_bo, .inl (cy 0, 5, .inl g_obo)), (o_wd, .inl (cy 1, 13, .inr (.inl g_owd))), (o_sk, .inl (cy 1, 64, .inr (.inl g_osk))), (of, .inr (1, [.ref of_c])), (of_c, .inl (cy 0, 63, .inl u_6))] H := hP
        have hD : va_D A [(o, .inr (6, [.ref of, .ref o_ca, .ref o_bo, .int o_gust, .int o_still, o_rv, .ref o_wd, .ref o_sk])), (o_ca, .inl (cy 0, 5, .inl g_oca)), (o_bo, .inl (cy 0, 5, .inl g_obo)), (o_wd, .inl (cy 1, 13, .inr (.inl g_owd))), (o_sk, .inl (cy 1, 64, .inr (.inl g_osk))), (of, .inr (1, [.ref of_c])), (of_c, .inl (cy 0, 63, .inl u_6))] := hD
        obtain ⟨⟨b_9a, b_9b⟩, ⟨b_9c, b_9d⟩, ⟨b_9e, b_9f⟩⟩ := FV.bounds eu_6
        exact KI.rt ⟨u_6, g_owd, g_osk⟩ F rfl (hP.sub [0, 5, 6, 1, 2, 3, 4] rfl) (hD.sub [0, 5, 6, 1, 2, 3, 4] (by decide) rfl) hS (show FV u_6 from eu_6) (Nat.le_of_ble_eq_true rfl) (Nat.le_of_ble_eq_true rfl) dX6_takeTurn_94
      · have ic_5 : (g_obo (Int32.toNatClampNeg x0)).toInt = (-1) := k_eq c_5 rfl (by decide)
        refine lv_bipush (v := 99) hx hb dX6_takeTurn_79 (by decide) ?_
        refine lv_goto (tgt := 94) hx hb dX6_takeTurn_81 (by decide) ?_
        have lit0 : (99 : Int32).toInt = 99 := by decide
        exact KI.rt ⟨g_of, g_owd, g_osk⟩ F rfl (hP.sub [0, 1, 2, 3, 4, 5, 6] rfl) (hD.sub [0, 1, 2, 3, 4, 5, 6] (by decide) rfl) hS (show FV g_of from h_g_of) (Nat.le_of_ble_eq_true rfl) (Nat.le_of_ble_eq_true rfl) dX6_takeTurn_94
    · have ic_4 : (g_obo (Int32.toNatClampNeg x0)).toInt = (-1) := k_eq c_4 rfl (by decide)
      refine lv_aload_n hx hb dX6_takeTurn_45 rfl (lv_at hl 2 rfl) ?_
      refine va_get (D := D) (ci := 6) (v := o_rv) (C := RX6) (T := TX6) (N := 8) hx hb hG inG_X6 hown hE.1 hP 0 rfl rfl 5 (by decide) (hG _ q_f_X6_33) (fun _ h9 => h9) rfl dX6_takeTurn_46 ?_
      rcases hrv with rfl | ⟨r, st, ra, rn, rg, ri, rj, rfl, hTi, hTj, hn4, hg⟩
      · refine lv_ifnonnullN hx hb dX6_takeTurn_49 ?_
        refine lv_aload_n hx hb dX6_takeTurn_52 rfl (lv_at hl 2 rfl) ?_
        refine va_get (D := D) (ci := 6) (v := .ref of) (C := RX6) (T := TX6) (N := 8) hx hb hG inG_X6 hown hE.1 hP 0 rfl rfl 0 (by decide) (hG _ q_f_X6_12) (fun _ h9 => h9) rfl dX6_takeTurn_53 ?_
        refine va_get (D := D) (ci := 1) (v := .ref of_c) (C := RX1) (T := TX1) (N := 1) hx hb hG inG_X1 hown hE.1 hP 1 rfl rfl 0 (by decide) (hG _ q_f_X6_56) (fun _ h9 => h9) rfl dX6_takeTurn_56 ?_
        refine lv_bipush (v := 38) hx hb dX6_takeTurn_59 (by decide) ?_
        refine lv_iload_n hx hb dX6_takeTurn_61 rfl (lv_at hl 3 rfl) ?_
        refine lv_iadd hx hb dX6_takeTurn_62 ?_
        refine lv_topi (fun z_10 ez_10 => ?_)
        have iz_10 : z_10.toInt = 38 + x0.toInt := k_addI ez_10 (by decide) rfl (by omega)
        refine va_iald hx hb hE.1 hP 2 0 rfl rfl (k_in (by omega)) dX6_takeTurn_63 ?_
        refine k_top (z := (g_of (Int32.toNatClampNeg z_10))) rfl ?_
        have ow_11 := FV.own h_g_of z_10 (by omega)
        refine lv_goto (tgt := 73) hx hb dX6_takeTurn_64 (by decide) ?_
        refine lv_istore_n (lv' := [(3, .int (g_of (Int32.toNatClampNeg z_10))), (2, .int o_gust), (0, .ref o), (1, .int x0)]) hx hb dX6_takeTurn_73 rfl hl (by decide) rfl (fun ls hl => ?_)
        refine lv_iload_n hx hb dX6_takeTurn_74 rfl (lv_at hl 0 rfl) ?_
        refine lv_iconst (v := (-1)) hx hb dX6_takeTurn_75 (by decide) ?_
        refine lv_icmp_ne (tgt := 84) hx hb dX6_takeTurn_76 (by decide) (fun c_12 => ?_) (fun c_12 => ?_)
        · have ic_12 : (g_of (Int32.toNatClampNeg z_10)).toInt ≠ (-1) := k_ne c_12 rfl (by decide)
          refine lv_aload_n hx hb dX6_takeTurn_84 rfl (lv_at hl 2 rfl) ?_
          refine va_get (D := D) (ci := 6) (v := .ref of) (C := RX6) (T := TX6) (N := 8) hx hb hG inG_X6 hown hE.1 hP 0 rfl rfl 0 (by decide) (hG _ q_f_X6_12) (fun _ h9 => h9) rfl dX6_takeTurn_85 ?_
          refine lv_iload_n hx hb dX6_takeTurn_88 rfl (lv_at hl 3 rfl) ?_
          refine lv_iload_n hx hb dX6_takeTurn_89 rfl (lv_at hl 0 rfl) ?_
          refine lv_iload_n hx hb dX6_takeTurn_90 rfl (lv_at hl 1 rfl) ?_
          refine kwVI (wr := [(o, .inr (6, [.ref of, .ref o_ca, .ref o_bo, .int o_gust, .int o_still, .null, .ref o_wd, .ref o_sk])), (o_ca, .inl (cy 0, 5, .inl g_oca)), (o_bo, .inl (cy 0, 5, .inl g_obo)), (o_wd, .inl (cy 1, 13, .inr (.inl g_owd))), (o_sk, .inl (cy 1, 64, .inr (.inl g_osk)))]) (As := [.int x0, .int (g_of (Int32.toNatClampNeg z_10)), .int o_gust]) (rest := []) F hE hP hD hS hA hl.1 (cc_X1_loose l D cy (o := of) (x0 := x0) (x1 := (g_of (Int32.toNatClampNeg z_10))) (x2 := o_gust) (o_c := of_c) (g_o := g_of) (h_g_o := h_g_of) (p0 := (by first | omega | assumption)) (p1 := (by first | omega | assumption)) (p2 := (by first | omega | assumption)) (p3 := (by first | omega | assumption))) q_m_X6_80 mv_X1_loose ⟨(Nat.le_of_ble_eq_true rfl), (Nat.le_of_ble_eq_true rfl)⟩ [1, 2] [0, 3, 4, 5, 6] (by decide) rfl rfl (by decide) (by decide) rfl rfl rfl rfl rfl (Nat.le_of_ble_eq_true rfl) ⟨(Nat.le_of_ble_eq_true rfl), (Nat.le_of_ble_eq_true rfl)⟩ dX6_takeTurn_91 (fun r_14 u_13 H locs eu_13 hP hD hS => ?_)
          have eu_13 : FV u_13 := eu_13
          have hP : va_P D vwCl [(o, .inr (6, [.ref of, .ref o_ca, .ref o_bo, .int o_gust, .int o_still, .null, .ref o_wd, .ref o_sk])), (o_ca, .inl (cy 0, 5, .inl g_oca)), (o_bo, .inl (cy 0, 5, .inl g_obo)), (o_wd, .inl (cy 1, 13, .inr (.inl g_owd))), (o_sk, .inl (cy 1, 64, .inr (.inl g_osk))), (of, .inr (1, [.ref of_c])), (of_c, .inl (cy 0, 63, .inl u_13))] H := hP
          have hD : va_D A [(o, .inr (6, [.ref of, .ref o_ca, .ref o_bo, .int o_gust, .int o_still, .null, .ref o_wd, .ref o_sk])), (o_ca, .inl (cy 0, 5, .inl g_oca)), (o_bo, .inl (cy 0, 5, .inl g_obo)), (o_wd, .inl (cy 1, 13, .inr (.inl g_owd))), (o_sk, .inl (cy 1, 64, .inr (.inl g_osk))), (of, .inr (1, [.ref of_c])), (of_c, .inl (cy 0, 63, .inl u_13))] := hD
          obtain ⟨⟨b_16a, b_16b⟩, ⟨b_16c, b_16d⟩, ⟨b_16e, b_16f⟩⟩ := FV.bounds eu_13
          exact KI.rt ⟨u_13, g_owd, g_osk⟩ F rfl (hP.sub [0, 5, 6, 1, 2, 3, 4] rfl) (hD.sub [0, 5, 6, 1, 2, 3, 4] (by decide) rfl) hS (show FV u_13 from eu_13) (Nat.le_of_ble_eq_true rfl) (Nat.le_of_ble_eq_true rfl) dX6_takeTurn_94
        · have ic_12 : (g_of (Int32.toNatClampNeg z_10)).toInt = (-1) := k_eq c_12 rfl (by decide)
          refine lv_bipush (v := 99) hx hb dX6_takeTurn_79 (by decide) ?_
          refine lv_goto (tgt := 94) hx hb dX6_takeTurn_81 (by decide) ?_
          have lit0 : (99 : Int32).toInt = 99 := by decide
          exact KI.rt ⟨g_of, g_owd, g_osk⟩ F rfl (hP.sub [0, 1, 2, 3, 4, 5, 6] rfl) (hD.sub [0, 1, 2, 3, 4, 5, 6] (by decide) rfl) hS (show FV g_of from h_g_of) (Nat.le_of_ble_eq_true rfl) (Nat.le_of_ble_eq_true rfl) dX6_takeTurn_94
      · refine lv_ifnonnull (tgt := 67) hx hb dX6_takeTurn_49 (by decide) ?_
        refine lv_aload_n hx hb dX6_takeTurn_67 rfl (lv_at hl 2 rfl) ?_
        refine lv_iload_n hx hb dX6_takeTurn_68 rfl (lv_at hl 3 rfl) ?_
        refine lv_iload_n hx hb dX6_takeTurn_69 rfl (lv_at hl 1 rfl) ?_
        refine jwVI (wr := []) (As := [.int x0, .int o_gust]) (rest := []) F hE hP hD hS hA hl.1 hz hZ (cc_X6_aimOf l D cy (Z := Z) (hz := hz) (TT := TT) (zt := zt) (o := o) (x0 := x0) (x1 := o_gust) (of := of) (o_ca := o_ca) (o_bo := o_bo) (o_gust := o_gust) (o_still := o_still) (r := r) (o_wd := o_wd) (o_sk := o_sk) (of_c := of_c) (g_of := g_of) (g_oca := g_oca) (g_obo := g_obo) (g_owd := g_owd) (g_osk := g_osk) (st := st) (ra := ra) (rn := rn) (rg := rg) (ri := ri) (rj := rj) (h_g_of := h_g_of) (h_g_obo := h_g_obo) (hTi := (by first | omega | assumption)) (hTj := (by first | omega | assumption)) (hn4 := (by first | omega | assumption)) (hg := (by first | omega | assumption)) (p0 := (by first | omega | assumption)) (p1 := (by first | omega | assumption))) q_m_X6_76 mv_X6_aimOf ⟨(Nat.le_of_ble_eq_true rfl), (Nat.le_of_ble_eq_true rfl)⟩ [0, 1, 2, 3, 4, 5, 6] [] (by decide) rfl rfl (by decide) (by decide) rfl rfl rfl rfl rfl (Nat.le_of_ble_eq_true rfl) ⟨(Nat.le_of_ble_eq_true rfl), (Nat.le_of_ble_eq_true rfl)⟩ dX6_takeTurn_70 (fun r_18 u_17 H locs eu_17 hP hD hS => ?_)
        obtain ⟨g_owd_19, g_osk_20⟩ := u_17
        have eu_17 : (-1 ≤ r_18.toInt) ∧ (r_18.toInt ≤ 5) := eu_17
        obtain ⟨eu_17a, eu_17b⟩ := eu_17
        have hP : va_P D vwCl [(o, .inr (6, [.ref of, .ref o_ca, .ref o_bo, .int o_gust, .int o_still, .ref r, .ref o_wd, .ref o_sk])), (of, .inr (1, [.ref of_c])), (of_c, .inl (cy 0, 63, .inl g_of)), (o_ca, .inl (cy 0, 5, .inl g_oca)), (o_bo, .inl (cy 0, 5, .inl g_obo)), (o_wd, .inl (cy 1, 13, .inr (.inl g_owd_19))), (o_sk, .inl (cy 1, 64, .inr (.inl g_osk_20)))] H := hP
        have hD : va_D A [(o, .inr (6, [.ref of, .ref o_ca, .ref o_bo, .int o_gust, .int o_still, .ref r, .ref o_wd, .ref o_sk])), (of, .inr (1, [.ref of_c])), (of_c, .inl (cy 0, 63, .inl g_of)), (o_ca, .inl (cy 0, 5, .inl g_oca)), (o_bo, .inl (cy 0, 5, .inl g_obo)), (o_wd, .inl (cy 1, 13, .inr (.inl g_owd_19))), (o_sk, .inl (cy 1, 64, .inr (.inl g_osk_20)))] := hD
        refine lv_istore_n (lv' := [(3, .int r_18), (2, .int o_gust), (0, .ref o), (1, .int x0)]) hx hb dX6_takeTurn_73 rfl hl (by decide) rfl (fun ls hl => ?_)
        refine lv_iload_n hx hb dX6_takeTurn_74 rfl (lv_at hl 0 rfl) ?_
        refine lv_iconst (v := (-1)) hx hb dX6_takeTurn_75 (by decide) ?_
        refine lv_icmp_ne (tgt := 84) hx hb dX6_takeTurn_76 (by decide) (fun c_21 => ?_) (fun c_21 => ?_)
        · have ic_21 : r_18.toInt ≠ (-1) := k_ne c_21 rfl (by decide)
          refine lv_aload_n hx hb dX6_takeTurn_84 rfl (lv_at hl 2 rfl) ?_
          refine va_get (D := D) (ci := 6) (v := .ref of) (C := RX6) (T := TX6) (N := 8) hx hb hG inG_X6 hown hE.1 hP 0 rfl rfl 0 (by decide) (hG _ q_f_X6_12) (fun _ h9 => h9) rfl dX6_takeTurn_85 ?_
          refine lv_iload_n hx hb dX6_takeTurn_88 rfl (lv_at hl 3 rfl) ?_
          refine lv_iload_n hx hb dX6_takeTurn_89 rfl (lv_at hl 0 rfl) ?_
          refine lv_iload_n hx hb dX6_takeTurn_90 rfl (lv_at hl 1 rfl) ?_
          refine kwVI (wr := [(o, .inr (6, [.ref of, .ref o_ca, .ref o_bo, .int o_gust, .int o_still, .ref r, .ref o_wd, .ref o_sk])), (o_ca, .inl (cy 0, 5, .inl g_oca)), (o_bo, .inl (cy 0, 5, .inl g_obo)), (o_wd, .inl (cy 1, 13, .inr (.inl g_owd_19))), (o_sk, .inl (cy 1, 64, .inr (.inl g_osk_20)))]) (As := [.int x0, .int r_18, .int o_gust]) (rest := []) F hE hP hD hS hA hl.1 (cc_X1_loose l D cy (o := of) (x0 := x0) (x1 := r_18) (x2 := o_gust) (o_c := of_c) (g_o := g_of) (h_g_o := h_g_of) (p0 := (by first | omega | assumption)) (p1 := (by first | omega | assumption)) (p2 := (by first | omega | assumption)) (p3 := (by first | omega | assumption))) q_m_X6_80 mv_X1_loose ⟨(Nat.le_of_ble_eq_true rfl), (Nat.le_of_ble_eq_true rfl)⟩ [1, 2] [0, 3, 4, 5, 6] (by decide) rfl rfl (by decide) (by decide) rfl rfl rfl rfl rfl (Nat.le_of_ble_eq_true rfl) ⟨(Nat.le_of_ble_eq_true rfl), (Nat.le_of_ble_eq_true rfl)⟩ dX6_takeTurn_91 (fun r_23 u_22 H locs eu_22 hP hD hS => ?_)
          have eu_22 : FV u_22 := eu_22
          have hP : va_P D vwCl [(o, .inr (6, [.ref of, .ref o_ca, .ref o_bo, .int o_gust, .int o_still, .ref r, .ref o_wd, .ref o_sk])), (o_ca, .inl (cy 0, 5, .inl g_oca)), (o_bo, .inl (cy 0, 5, .inl g_obo)), (o_wd, .inl (cy 1, 13, .inr (.inl g_owd_19))), (o_sk, .inl (cy 1, 64, .inr (.inl g_osk_20))), (of, .inr (1, [.ref of_c])), (of_c, .inl (cy 0, 63, .inl u_22))] H := hP
          have hD : va_D A [(o, .inr (6, [.ref of, .ref o_ca, .ref o_bo, .int o_gust, .int o_still, .ref r, .ref o_wd, .ref o_sk])), (o_ca, .inl (cy 0, 5, .inl g_oca)), (o_bo, .inl (cy 0, 5, .inl g_obo)), (o_wd, .inl (cy 1, 13, .inr (.inl g_owd_19))), (o_sk, .inl (cy 1, 64, .inr (.inl g_osk_20))), (of, .inr (1, [.ref of_c])), (of_c, .inl (cy 0, 63, .inl u_22))] := hD
          obtain ⟨⟨b_25a, b_25b⟩, ⟨b_25c, b_25d⟩, ⟨b_25e, b_25f⟩⟩ := FV.bounds eu_22
          exact KI.rt ⟨u_22, g_owd_19, g_osk_20⟩ F rfl (hP.sub [0, 5, 6, 1, 2, 3, 4] rfl) (hD.sub [0, 5, 6, 1, 2, 3, 4] (by decide) rfl) hS (show FV u_22 from eu_22) (Nat.le_of_ble_eq_true rfl) (Nat.le_of_ble_eq_true rfl) dX6_takeTurn_94
        · have ic_21 : r_18.toInt = (-1) := k_eq c_21 rfl (by decide)
          refine lv_bipush (v := 99) hx hb dX6_takeTurn_79 (by decide) ?_
          refine lv_goto (tgt := 94) hx hb dX6_takeTurn_81 (by decide) ?_
          have lit0 : (99 : Int32).toInt = 99 := by decide
          exact KI.rt ⟨g_of, g_owd_19, g_osk_20⟩ F rfl (hP.sub [0, 1, 2, 3, 4, 5, 6] rfl) (hD.sub [0, 1, 2, 3, 4, 5, 6] (by decide) rfl) hS (show FV g_of from h_g_of) (Nat.le_of_ble_eq_true rfl) (Nat.le_of_ble_eq_true rfl) dX6_takeTurn_94
  · have ic_2 : o_gust.toInt = (-1) := k_eq c_2 rfl (by decide)
    refine lv_aload_n hx hb dX6_takeTurn_8 rfl (lv_at hl 0 rfl) ?_
    refine va_get (D := D) (ci := 6) (v := .ref of) (C := RX6) (T := TX6) (N := 8) hx hb hG inG_X6 hown hE.1 hP 0 rfl rfl 0 (by decide) (hG _ q_f_X6_12) (fun _ h9 => h9) rfl dX6_takeTurn_9 ?_
    refine lv_aload_n hx hb dX6_takeTurn_12 rfl (lv_at hl 0 rfl) ?_
    refine va_get (D := D) (ci := 6) (v := .ref of) (C := RX6) (T := TX6) (N := 8) hx hb hG inG_X6 hown hE.1 hP 0 rfl rfl 0 (by decide) (hG _ q_f_X6_12) (fun _ h9 => h9) rfl dX6_takeTurn_13 ?_
    refine va_get (D := D) (ci := 1) (v := .ref of_c) (C := RX1) (T := TX1) (N := 1) hx hb hG inG_X1 hown hE.1 hP 1 rfl rfl 0 (by decide) (hG _ q_f_X6_56) (fun _ h9 => h9) rfl dX6_takeTurn_16 ?_
    refine lv_bipush (v := 6) hx hb dX6_takeTurn_19 (by decide) ?_
    refine va_iald hx hb hE.1 hP 2 0 rfl rfl (by unfold vp_in; decide) dX6_takeTurn_21 ?_
    refine k_top (z := (g_of 6)) rfl ?_
    refine kcV (As := [.int (g_of 6)]) (rest := []) F hE hP hl.1 (cc_X1_windOf l D cy (o := of) (x0 := (g_of 6)) (o_c := of_c) (g_o := g_of) (h_g_o := h_g_of)) q_m_X6_73 mv_X1_windOf ⟨(Nat.le_of_ble_eq_true rfl), (Nat.le_of_ble_eq_true rfl)⟩ [1, 2] rfl rfl rfl rfl rfl rfl (Nat.le_of_ble_eq_true rfl) ⟨(Nat.le_of_ble_eq_true rfl), (Nat.le_of_ble_eq_true rfl)⟩ dX6_takeTurn_22 (fun r_26 er_26 => ?_)
    refine lv_goto (tgt := 32) hx hb dX6_takeTurn_25 (by decide) ?_
    refine lv_istore_n (lv' := [(2, .int r_26), (0, .ref o), (1, .int x0)]) hx hb dX6_takeTurn_32 rfl hl (by decide) rfl (fun ls hl => ?_)
    refine lv_aload_n hx hb dX6_takeTurn_33 rfl (lv_at hl 1 rfl) ?_
    refine va_get (D := D) (ci := 6) (v := .ref o_bo) (C := RX6) (T := TX6) (N := 8) hx hb hG inG_X6 hown hE.1 hP 0 rfl rfl 2 (by decide) (hG _ q_f_X6_22) (fun _ h9 => h9) rfl dX6_takeTurn_34 ?_
    refine lv_iload_n hx hb dX6_takeTurn_37 rfl (lv_at hl 2 rfl) ?_
    refine va_iald hx hb hE.1 hP 4 0 rfl rfl (k_in (by omega)) dX6_takeTurn_38 ?_
    refine k_top (z := (g_obo (Int32.toNatClampNeg x0))) rfl ?_
    have bn_27 := PLV.at h_g_obo x0 (by omega)
    refine lv_istore_n (lv' := [(3, .int (g_obo (Int32.toNatClampNeg x0))), (2, .int r_26), (0, .ref o), (1, .int x0)]) hx hb dX6_takeTurn_39 rfl hl (by decide) rfl (fun ls hl => ?_)
    refine lv_iload_n hx hb dX6_takeTurn_40 rfl (lv_at hl 0 rfl) ?_
    refine lv_iconst (v := (-1)) hx hb dX6_takeTurn_41 (by decide) ?_
    refine lv_icmp_ne (tgt := 74) hx hb dX6_takeTurn_42 (by decide) (fun c_28 => ?_) (fun c_28 => ?_)
    · have ic_28 : (g_obo (Int32.toNatClampNeg x0)).toInt ≠ (-1) := k_ne c_28 rfl (by decide)
      refine lv_iload_n hx hb dX6_takeTurn_74 rfl (lv_at hl 0 rfl) ?_
      refine lv_iconst (v := (-1)) hx hb dX6_takeTurn_75 (by decide) ?_
      refine lv_icmp_ne (tgt := 84) hx hb dX6_takeTurn_76 (by decide) (fun c_29 => ?_) (fun c_29 => ?_)
      · have ic_29 : (g_obo (Int32.toNatClampNeg x0)).toInt ≠ (-1) := k_ne c_29 rfl (by decide)
        refine lv_aload_n hx hb dX6_takeTurn_84 rfl (lv_at hl 2 rfl) ?_
        refine va_get (D := D) (ci := 6) (v := .ref of) (C := RX6) (T := TX6) (N := 8) hx hb hG inG_X6 hown hE.1 hP 0 rfl rfl 0 (by decide) (hG _ q_f_X6_12) (fun _ h9 => h9) rfl dX6_takeTurn_85 ?_
        refine lv_iload_n hx hb dX6_takeTurn_88 rfl (lv_at hl 3 rfl) ?_
        refine lv_iload_n hx hb dX6_takeTurn_89 rfl (lv_at hl 0 rfl) ?_
        refine lv_iload_n hx hb dX6_takeTurn_90 rfl (lv_at hl 1 rfl) ?_
        refine kwVI (wr := [(o, .inr (6, [.ref of, .ref o_ca, .ref o_bo, .int o_gust, .int o_still, o_rv, .ref o_wd, .ref o_sk])), (o_ca, .inl (cy 0, 5, .inl g_oca)), (o_bo, .inl (cy 0, 5, .inl g_obo)), (o_wd, .inl (cy 1, 13, .inr (.inl g_owd))), (o_sk, .inl (cy 1, 64, .inr (.inl g_osk)))]) (As := [.int x0, .int (g_obo (Int32.toNatClampNeg x0)), .int r_26]) (rest := []) F hE hP hD hS hA hl.1 (cc_X1_loose l D cy (o := of) (x0 := x0) (x1 := (g_obo (Int32.toNatClampNeg x0))) (x2 := r_26) (o_c := of_c) (g_o := g_of) (h_g_o := h_g_of) (p0 := (by first | omega | assumption)) (p1 := (by first | omega | assumption)) (p2 := (by first | omega | assumption)) (p3 := (by first | omega | assumption))) q_m_X6_80 mv_X1_loose ⟨(Nat.le_of_ble_eq_true rfl), (Nat.le_of_ble_eq_true rfl)⟩ [1, 2] [0, 3, 4, 5, 6] (by decide) rfl rfl (by decide) (by decide) rfl rfl rfl rfl rfl (Nat.le_of_ble_eq_true rfl) ⟨(Nat.le_of_ble_eq_true rfl), (Nat.le_of_ble_eq_true rfl)⟩ dX6_takeTurn_91 (fun r_31 u_30 H locs eu_30 hP hD hS => ?_)
        have eu_30 : FV u_30 := eu_30
        have hP : va_P D vwCl [(o, .inr (6, [.ref of, .ref o_ca, .ref o_bo, .int o_gust, .int o_still, o_rv, .ref o_wd, .ref o_sk])), (o_ca, .inl (cy 0, 5, .inl g_oca)), (o_bo, .inl (cy 0, 5, .inl g_obo)), (o_wd, .inl (cy 1, 13, .inr (.inl g_owd))), (o_sk, .inl (cy 1, 64, .inr (.inl g_osk))), (of, .inr (1, [.ref of_c])), (of_c, .inl (cy 0, 63, .inl u_30))] H := hP
        have hD : va_D A [(o, .inr (6, [.ref of, .ref o_ca, .ref o_bo, .int o_gust, .int o_still, o_rv, .ref o_wd, .ref o_sk])), (o_ca, .inl (cy 0, 5, .inl g_oca)), (o_bo, .inl (cy 0, 5, .inl g_obo)), (o_wd, .inl (cy 1, 13, .inr (.inl g_owd))), (o_sk, .inl (cy 1, 64, .inr (.inl g_osk))), (of, .inr (1, [.ref of_c])), (of_c, .inl (cy 0, 63, .inl u_30))] := hD
        obtain ⟨⟨b_33a, b_33b⟩, ⟨b_33c, b_33d⟩, ⟨b_33e, b_33f⟩⟩ := FV.bounds eu_30
        exact KI.rt ⟨u_30, g_owd, g_osk⟩ F rfl (hP.sub [0, 5, 6, 1, 2, 3, 4] rfl) (hD.sub [0, 5, 6, 1, 2, 3, 4] (by decide) rfl) hS (show FV u_30 from eu_30) (Nat.le_of_ble_eq_true rfl) (Nat.le_of_ble_eq_true rfl) dX6_takeTurn_94
      · have ic_29 : (g_obo (Int32.toNatClampNeg x0)).toInt = (-1) := k_eq c_29 rfl (by decide)
        refine lv_bipush (v := 99) hx hb dX6_takeTurn_79 (by decide) ?_
        refine lv_goto (tgt := 94) hx hb dX6_takeTurn_81 (by decide) ?_
        have lit0 : (99 : Int32).toInt = 99 := by decide
        exact KI.rt ⟨g_of, g_owd, g_osk⟩ F rfl (hP.sub [0, 1, 2, 3, 4, 5, 6] rfl) (hD.sub [0, 1, 2, 3, 4, 5, 6] (by decide) rfl) hS (show FV g_of from h_g_of) (Nat.le_of_ble_eq_true rfl) (Nat.le_of_ble_eq_true rfl) dX6_takeTurn_94
    · have ic_28 : (g_obo (Int32.toNatClampNeg x0)).toInt = (-1) := k_eq c_28 rfl (by decide)
      refine lv_aload_n hx hb dX6_takeTurn_45 rfl (lv_at hl 2 rfl) ?_
      refine va_get (D := D) (ci := 6) (v := o_rv) (C := RX6) (T := TX6) (N := 8) hx hb hG inG_X6 hown hE.1 hP 0 rfl rfl 5 (by decide) (hG _ q_f_X6_33) (fun _ h9 => h9) rfl dX6_takeTurn_46 ?_
      rcases hrv with rfl | ⟨r, st, ra, rn, rg, ri, rj, rfl, hTi, hTj, hn4, hg⟩
      · refine lv_ifnonnullN hx hb dX6_takeTurn_49 ?_
        refine lv_aload_n hx hb dX6_takeTurn_52 rfl (lv_at hl 2 rfl) ?_
        refine va_get (D := D) (ci := 6) (v := .ref of) (C := RX6) (T := TX6) (N := 8) hx hb hG inG_X6 hown hE.1 hP 0 rfl rfl 0 (by decide) (hG _ q_f_X6_12) (fun _ h9 => h9) rfl dX6_takeTurn_53 ?_
        refine va_get (D := D) (ci := 1) (v := .ref of_c) (C := RX1) (T := TX1) (N := 1) hx hb hG inG_X1 hown hE.1 hP 1 rfl rfl 0 (by decide) (hG _ q_f_X6_56) (fun _ h9 => h9) rfl dX6_takeTurn_56 ?_
        refine lv_bipush (v := 38) hx hb dX6_takeTurn_59 (by decide) ?_
        refine lv_iload_n hx hb dX6_takeTurn_61 rfl (lv_at hl 3 rfl) ?_
        refine lv_iadd hx hb dX6_takeTurn_62 ?_
        refine lv_topi (fun z_34 ez_34 => ?_)
        have iz_34 : z_34.toInt = 38 + x0.toInt := k_addI ez_34 (by decide) rfl (by omega)
        refine va_iald hx hb hE.1 hP 2 0 rfl rfl (k_in (by omega)) dX6_takeTurn_63 ?_
        refine k_top (z := (g_of (Int32.toNatClampNeg z_34))) rfl ?_
        have ow_35 := FV.own h_g_of z_34 (by omega)
        refine lv_goto (tgt := 73) hx hb dX6_takeTurn_64 (by decide) ?_
        refine lv_istore_n (lv' := [(3, .int (g_of (Int32.toNatClampNeg z_34))), (2, .int r_26), (0, .ref o), (1, .int x0)]) hx hb dX6_takeTurn_73 rfl hl (by decide) rfl (fun ls hl => ?_)
        refine lv_iload_n hx hb dX6_takeTurn_74 rfl (lv_at hl 0 rfl) ?_
        refine lv_iconst (v := (-1)) hx hb dX6_takeTurn_75 (by decide) ?_
        refine lv_icmp_ne (tgt := 84) hx hb dX6_takeTurn_76 (by decide) (fun c_36 => ?_) (fun c_36 => ?_)
        · have ic_36 : (g_of (Int32.toNatClampNeg z_34)).toInt ≠ (-1) := k_ne c_36 rfl (by decide)
          refine lv_aload_n hx hb dX6_takeTurn_84 rfl (lv_at hl 2 rfl) ?_
          refine va_get (D := D) (ci := 6) (v := .ref of) (C := RX6) (T := TX6) (N := 8) hx hb hG inG_X6 hown hE.1 hP 0 rfl rfl 0 (by decide) (hG _ q_f_X6_12) (fun _ h9 => h9) rfl dX6_takeTurn_85 ?_
          refine lv_iload_n hx hb dX6_takeTurn_88 rfl (lv_at hl 3 rfl) ?_
          refine lv_iload_n hx hb dX6_takeTurn_89 rfl (lv_at hl 0 rfl) ?_
          refine lv_iload_n hx hb dX6_takeTurn_90 rfl (lv_at hl 1 rfl) ?_
          refine kwVI (wr := [(o, .inr (6, [.ref of, .ref o_ca, .ref o_bo, .int o_gust, .int o_still, .null, .ref o_wd, .ref o_sk])), (o_ca, .inl (cy 0, 5, .inl g_oca)), (o_bo, .inl (cy 0, 5, .inl g_obo)), (o_wd, .inl (cy 1, 13, .inr (.inl g_owd))), (o_sk, .inl (cy 1, 64, .inr (.inl g_osk)))]) (As := [.int x0, .int (g_of (Int32.toNatClampNeg z_34)), .int r_26]) (rest := []) F hE hP hD hS hA hl.1 (cc_X1_loose l D cy (o := of) (x0 := x0) (x1 := (g_of (Int32.toNatClampNeg z_34))) (x2 := r_26) (o_c := of_c) (g_o := g_of) (h_g_o := h_g_of) (p0 := (by first | omega | assumption)) (p1 := (by first | omega | assumption)) (p2 := (by first | omega | assumption)) (p3 := (by first | omega | assumption))) q_m_X6_80 mv_X1_loose ⟨(Nat.le_of_ble_eq_true rfl), (Nat.le_of_ble_eq_true rfl)⟩ [1, 2] [0, 3, 4, 5, 6] (by decide) rfl rfl (by decide) (by decide) rfl rfl rfl rfl rfl (Nat.le_of_ble_eq_true rfl) ⟨(Nat.le_of_ble_eq_true rfl), (Nat.le_of_ble_eq_true rfl)⟩ dX6_takeTurn_91 (fun r_38 u_37 H locs eu_37 hP hD hS => ?_)
          have eu_37 : FV u_37 := eu_37
          have hP : va_P D vwCl [(o, .inr (6, [.ref of, .ref o_ca, .ref o_bo, .int o_gust, .int o_still, .null, .ref o_wd, .ref o_sk])), (o_ca, .inl (cy 0, 5, .inl g_oca)), (o_bo, .inl (cy 0, 5, .inl g_obo)), (o_wd, .inl (cy 1, 13, .inr (.inl g_owd))), (o_sk, .inl (cy 1, 64, .inr (.inl g_osk))), (of, .inr (1, [.ref of_c])), (of_c, .inl (cy 0, 63, .inl u_37))] H := hP
          have hD : va_D A [(o, .inr (6, [.ref of, .ref o_ca, .ref o_bo, .int o_gust, .int o_still, .null, .ref o_wd, .ref o_sk])), (o_ca, .inl (cy 0, 5, .inl g_oca)), (o_bo, .inl (cy 0, 5, .inl g_obo)), (o_wd, .inl (cy 1, 13, .inr (.inl g_owd))), (o_sk, .inl (cy 1, 64, .inr (.inl g_osk))), (of, .inr (1, [.ref of_c])), (of_c, .inl (cy 0, 63, .inl u_37))] := hD
          obtain ⟨⟨b_40a, b_40b⟩, ⟨b_40c, b_40d⟩, ⟨b_40e, b_40f⟩⟩ := FV.bounds eu_37
          exact KI.rt ⟨u_37, g_owd, g_osk⟩ F rfl (hP.sub [0, 5, 6, 1, 2, 3, 4] rfl) (hD.sub [0, 5, 6, 1, 2, 3, 4] (by decide) rfl) hS (show FV u_37 from eu_37) (Nat.le_of_ble_eq_true rfl) (Nat.le_of_ble_eq_true rfl) dX6_takeTurn_94
        · have ic_36 : (g_of (Int32.toNatClampNeg z_34)).toInt = (-1) := k_eq c_36 rfl (by decide)
          refine lv_bipush (v := 99) hx hb dX6_takeTurn_79 (by decide) ?_
          refine lv_goto (tgt := 94) hx hb dX6_takeTurn_81 (by decide) ?_
          have lit0 : (99 : Int32).toInt = 99 := by decide
          exact KI.rt ⟨g_of, g_owd, g_osk⟩ F rfl (hP.sub [0, 1, 2, 3, 4, 5, 6] rfl) (hD.sub [0, 1, 2, 3, 4, 5, 6] (by decide) rfl) hS (show FV g_of from h_g_of) (Nat.le_of_ble_eq_true rfl) (Nat.le_of_ble_eq_true rfl) dX6_takeTurn_94
      · refine lv_ifnonnull (tgt := 67) hx hb dX6_takeTurn_49 (by decide) ?_
        refine lv_aload_n hx hb dX6_takeTurn_67 rfl (lv_at hl 2 rfl) ?_
        refine lv_iload_n hx hb dX6_takeTurn_68 rfl (lv_at hl 3 rfl) ?_
        refine lv_iload_n hx hb dX6_takeTurn_69 rfl (lv_at hl 1 rfl) ?_
        refine jwVI (wr := []) (As := [.int x0, .int r_26]) (rest := []) F hE hP hD hS hA hl.1 hz hZ (cc_X6_aimOf l D cy (Z := Z) (hz := hz) (TT := TT) (zt := zt) (o := o) (x0 := x0) (x1 := r_26) (of := of) (o_ca := o_ca) (o_bo := o_bo) (o_gust := o_gust) (o_still := o_still) (r := r) (o_wd := o_wd) (o_sk := o_sk) (of_c := of_c) (g_of := g_of) (g_oca := g_oca) (g_obo := g_obo) (g_owd := g_owd) (g_osk := g_osk) (st := st) (ra := ra) (rn := rn) (rg := rg) (ri := ri) (rj := rj) (h_g_of := h_g_of) (h_g_obo := h_g_obo) (hTi := (by first | omega | assumption)) (hTj := (by first | omega | assumption)) (hn4 := (by first | omega | assumption)) (hg := (by first | omega | assumption)) (p0 := (by first | omega | assumption)) (p1 := (by first | omega | assumption))) q_m_X6_76 mv_X6_aimOf ⟨(Nat.le_of_ble_eq_true rfl), (Nat.le_of_ble_eq_true rfl)⟩ [0, 1, 2, 3, 4, 5, 6] [] (by decide) rfl rfl (by decide) (by decide) rfl rfl rfl rfl rfl (Nat.le_of_ble_eq_true rfl) ⟨(Nat.le_of_ble_eq_true rfl), (Nat.le_of_ble_eq_true rfl)⟩ dX6_takeTurn_70 (fun r_42 u_41 H locs eu_41 hP hD hS => ?_)
        obtain ⟨g_owd_43, g_osk_44⟩ := u_41
        have eu_41 : (-1 ≤ r_42.toInt) ∧ (r_42.toInt ≤ 5) := eu_41
        obtain ⟨eu_41a, eu_41b⟩ := eu_41
        have hP : va_P D vwCl [(o, .inr (6, [.ref of, .ref o_ca, .ref o_bo, .int o_gust, .int o_still, .ref r, .ref o_wd, .ref o_sk])), (of, .inr (1, [.ref of_c])), (of_c, .inl (cy 0, 63, .inl g_of)), (o_ca, .inl (cy 0, 5, .inl g_oca)), (o_bo, .inl (cy 0, 5, .inl g_obo)), (o_wd, .inl (cy 1, 13, .inr (.inl g_owd_43))), (o_sk, .inl (cy 1, 64, .inr (.inl g_osk_44)))] H := hP
        have hD : va_D A [(o, .inr (6, [.ref of, .ref o_ca, .ref o_bo, .int o_gust, .int o_still, .ref r, .ref o_wd, .ref o_sk])), (of, .inr (1, [.ref of_c])), (of_c, .inl (cy 0, 63, .inl g_of)), (o_ca, .inl (cy 0, 5, .inl g_oca)), (o_bo, .inl (cy 0, 5, .inl g_obo)), (o_wd, .inl (cy 1, 13, .inr (.inl g_owd_43))), (o_sk, .inl (cy 1, 64, .inr (.inl g_osk_44)))] := hD
        refine lv_istore_n (lv' := [(3, .int r_42), (2, .int r_26), (0, .ref o), (1, .int x0)]) hx hb dX6_takeTurn_73 rfl hl (by decide) rfl (fun ls hl => ?_)
        refine lv_iload_n hx hb dX6_takeTurn_74 rfl (lv_at hl 0 rfl) ?_
        refine lv_iconst (v := (-1)) hx hb dX6_takeTurn_75 (by decide) ?_
        refine lv_icmp_ne (tgt := 84) hx hb dX6_takeTurn_76 (by decide) (fun c_45 => ?_) (fun c_45 => ?_)
        · have ic_45 : r_42.toInt ≠ (-1) := k_ne c_45 rfl (by decide)
          refine lv_aload_n hx hb dX6_takeTurn_84 rfl (lv_at hl 2 rfl) ?_
          refine va_get (D := D) (ci := 6) (v := .ref of) (C := RX6) (T := TX6) (N := 8) hx hb hG inG_X6 hown hE.1 hP 0 rfl rfl 0 (by decide) (hG _ q_f_X6_12) (fun _ h9 => h9) rfl dX6_takeTurn_85 ?_
          refine lv_iload_n hx hb dX6_takeTurn_88 rfl (lv_at hl 3 rfl) ?_
          refine lv_iload_n hx hb dX6_takeTurn_89 rfl (lv_at hl 0 rfl) ?_
          refine lv_iload_n hx hb dX6_takeTurn_90 rfl (lv_at hl 1 rfl) ?_
          refine kwVI (wr := [(o, .inr (6, [.ref of, .ref o_ca, .ref o_bo, .int o_gust, .int o_still, .ref r, .ref o_wd, .ref o_sk])), (o_ca, .inl (cy 0, 5, .inl g_oca)), (o_bo, .inl (cy 0, 5, .inl g_obo)), (o_wd, .inl (cy 1, 13, .inr (.inl g_owd_43))), (o_sk, .inl (cy 1, 64, .inr (.inl g_osk_44)))]) (As := [.int x0, .int r_42, .int r_26]) (rest := []) F hE hP hD hS hA hl.1 (cc_X1_loose l D cy (o := of) (x0 := x0) (x1 := r_42) (x2 := r_26) (o_c := of_c) (g_o := g_of) (h_g_o := h_g_of) (p0 := (by first | omega | assumption)) (p1 := (by first | omega | assumption)) (p2 := (by first | omega | assumption)) (p3 := (by first | omega | assumption))) q_m_X6_80 mv_X1_loose ⟨(Nat.le_of_ble_eq_true rfl), (Nat.le_of_ble_eq_true rfl)⟩ [1, 2] [0, 3, 4, 5, 6] (by decide) rfl rfl (by decide) (by decide) rfl rfl rfl rfl rfl (Nat.le_of_ble_eq_true rfl) ⟨(Nat.le_of_ble_eq_true rfl), (Nat.le_of_ble_eq_true rfl)⟩ dX6_takeTurn_91 (fun r_47 u_46 H locs eu_46 hP hD hS => ?_)
          have eu_46 : FV u_46 := eu_46
          have hP : va_P D vwCl [(o, .inr (6, [.ref of, .ref o_ca, .ref o_bo, .int o_gust, .int o_still, .ref r, .ref o_wd, .ref o_sk])), (o_ca, .inl (cy 0, 5, .inl g_oca)), (o_bo, .inl (cy 0, 5, .inl g_obo)), (o_wd, .inl (cy 1, 13, .inr (.inl g_owd_43))), (o_sk, .inl (cy 1, 64, .inr (.inl g_osk_44))), (of, .inr (1, [.ref of_c])), (of_c, .inl (cy 0, 63, .inl u_46))] H := hP
          have hD : va_D A [(o, .inr (6, [.ref of, .ref o_ca, .ref o_bo, .int o_gust, .int o_still, .ref r, .ref o_wd, .ref o_sk])), (o_ca, .inl (cy 0, 5, .inl g_oca)), (o_bo, .inl (cy 0, 5, .inl g_obo)), (o_wd, .inl (cy 1, 13, .inr (.inl g_owd_43))), (o_sk, .inl (cy 1, 64, .inr (.inl g_osk_44))), (of, .inr (1, [.ref of_c])), (of_c, .inl (cy 0, 63, .inl u_46))] := hD
          obtain ⟨⟨b_49a, b_49b⟩, ⟨b_49c, b_49d⟩, ⟨b_49e, b_49f⟩⟩ := FV.bounds eu_46
          exact KI.rt ⟨u_46, g_owd_43, g_osk_44⟩ F rfl (hP.sub [0, 5, 6, 1, 2, 3, 4] rfl) (hD.sub [0, 5, 6, 1, 2, 3, 4] (by decide) rfl) hS (show FV u_46 from eu_46) (Nat.le_of_ble_eq_true rfl) (Nat.le_of_ble_eq_true rfl) dX6_takeTurn_94
        · have ic_45 : r_42.toInt = (-1) := k_eq c_45 rfl (by decide)
          refine lv_bipush (v := 99) hx hb dX6_takeTurn_79 (by decide) ?_
          refine lv_goto (tgt := 94) hx hb dX6_takeTurn_81 (by decide) ?_
          have lit0 : (99 : Int32).toInt = 99 := by decide
          exact KI.rt ⟨g_of, g_owd_43, g_osk_44⟩ F rfl (hP.sub [0, 1, 2, 3, 4, 5, 6] rfl) (hD.sub [0, 1, 2, 3, 4, 5, 6] (by decide) rfl) hS (show FV g_of from h_g_of) (Nat.le_of_ble_eq_true rfl) (Nat.le_of_ble_eq_true rfl) dX6_takeTurn_94

set_option maxHeartbeats 4000000 in
set_option maxRecDepth 100000 in
theorem cc_X6_playRound (l : Launch) (D : va_G) (cy : Nat → ClassId) {Z : (Nat → Prop) → State → Heap → Prop} (hz : zOK Z) {TT : va_W} (zt : ∀ (A : Nat → Prop) (U : State) (H : Heap), Z A U H → va_P D vwCl TT H) (o : Nat) (of : Nat) (of_c : Nat) (g_of : Nat → Int32) (o_ca : Nat) (o_bo : Nat) (o_wd : Nat) (o_sk : Nat) (o_gust : Int32) (o_still : Int32) (o_rv : Value) (g_oca : Nat → Int32) (g_obo : Nat → Int32) (g_owd : Nat → Int64) (g_osk : Nat → Int64) (h_g_of : FV g_of) (h_g_obo : PLV g_obo) (hrv : RIn TT (cy 0) o_rv) : JI l yX6_playRound cX6_playRound 5 (some .int) 4 102 D (kTY cy) [.ref o] [(o, .inr (6, [.ref of, .ref o_ca, .ref o_bo, .int o_gust, .int o_still, o_rv, .ref o_wd, .ref o_sk])), (of, .inr (1, [.ref of_c])), (of_c, .inl (cy 0, 63, .inl g_of)), (o_ca, .inl (cy 0, 5, .inl g_oca)), (o_bo, .inl (cy 0, 5, .inl g_obo)), (o_wd, .inl (cy 1, 13, .inr (.inl g_owd))), (o_sk, .inl (cy 1, 64, .inr (.inl g_osk)))] Z (S := (Nat → Int32) × Int32 × (Nat → Int32) × (Nat → Int64) × (Nat → Int64)) (fun r u => FV (u.1)) (fun u => [(o, .inr (6, [.ref of, .ref o_ca, .ref o_bo, .int o_gust, .int (u.2.1), o_rv, .ref o_wd, .ref o_sk])), (of, .inr (1, [.ref of_c])), (of_c, .inl (cy 0, 63, .inl (u.1))), (o_ca, .inl (cy 0, 5, .inl (u.2.2.1))), (o_bo, .inl (cy 0, 5, .inl g_obo)), (o_wd, .inl (cy 1, 13, .inr (.inl (u.2.2.2.1)))), (o_sk, .inl (cy 1, 64, .inr (.inl (u.2.2.2.2))))]) 0 0 := by
  refine JI.of (by decide) (Nat.le_of_ble_eq_true rfl) (fun p e s m below meth c ls A F hE hP hD hA hS hl hZ => ?_)
  have F : kF p s m meth c cX6_playRound 5 (some .int) _ RX6 := F
  obtain ⟨hx, hb, hr, hml, hown, hG, hlk⟩ := id F
  have hl : lv_has ls 5 [(0, .ref o)] := hl
  obtain ⟨⟨b_1a, b_1b⟩, ⟨b_1c, b_1d⟩, ⟨b_1e, b_1f⟩⟩ := FV.bounds h_g_of
  refine lv_aload_n hx hb dX6_playRound_0 rfl (lv_at hl 0 rfl) ?_
  refine va_get (D := D) (ci := 6) (v := .ref of) (C := RX6) (T := TX6) (N := 8) hx hb hG inG_X6 hown hE.1 hP 0 rfl rfl 0 (by decide) (hG _ q_f_X6_12) (fun _ h9 => h9) rfl dX6_playRound_1 ?_
  refine va_get (D := D) (ci := 1) (v := .ref of_c) (C := RX1) (T := TX1) (N := 1) hx hb hG inG_X1 hown hE.1 hP 1 rfl rfl 0 (by decide) (hG _ q_f_X6_56) (fun _ h9 => h9) rfl dX6_playRound_4 ?_
  refine lv_astore_n (lv' := [(1, .ref of_c), (0, .ref o)]) hx hb dX6_playRound_7 rfl hl (by decide) rfl (fun ls hl => ?_)
  refine lv_iconst (v := 0) hx hb dX6_playRound_8 (by decide) ?_
  refine lv_istore_n (lv' := [(2, .int 0), (1, .ref of_c), (0, .ref o)]) hx hb dX6_playRound_9 rfl hl (by decide) rfl (fun ls hl => ?_)
  refine lv_aload_n hx hb dX6_playRound_10 rfl (lv_at hl 1 rfl) ?_
  refine lv_bipush (v := 6) hx hb dX6_playRound_11 (by decide) ?_
  refine va_iald hx hb hE.1 hP 2 0 rfl rfl (by unfold vp_in; decide) dX6_playRound_13 ?_
  refine k_top (z := (g_of 6)) rfl ?_
  refine lv_istore_n (lv' := [(3, .int (g_of 6)), (2, .int 0), (1, .ref of_c), (0, .ref o)]) hx hb dX6_playRound_14 rfl hl (by decide) rfl (fun ls hl => ?_)
  refine lv_iconst (v := 0) hx hb dX6_playRound_15 (by decide) ?_
  refine lv_istore (lv' := [(4, .int 0), (3, .int (g_of 6)), (2, .int 0), (1, .ref of_c), (0, .ref o)]) hx hb dX6_playRound_16 hl (by decide) rfl (fun ls hl => ?_)
  have lp18 : ∀ (fu : Nat) (v4_18 : Int32) (v2_18 : Int32) (gof_c_18 : Nat → Int32) (go_ca_18 : Nat → Int32) (go_wd_18 : Nat → Int64) (go_sk_18 : Nat → Int64) (H : Heap) (locs : List Loc) (ls : Array Slot), FV gof_c_18 → (0 ≤ v4_18.toInt) → (v4_18.toInt ≤ 5) → 5 - v4_18.toInt < (fu : Int) → va_P D vwCl [(o, .inr (6, [.ref of, .ref o_ca, .ref o_bo, .int o_gust, .int o_still, o_rv, .ref o_wd, .ref o_sk])), (of, .inr (1, [.ref of_c])), (of_c, .inl (cy 0, 63, .inl gof_c_18)), (o_ca, .inl (cy 0, 5, .inl go_ca_18)), (o_bo, .inl (cy 0, 5, .inl g_obo)), (o_wd, .inl (cy 1, 13, .inr (.inl go_wd_18))), (o_sk, .inl (cy 1, 64, .inr (.inl go_sk_18)))] H → va_D A [(o, .inr (6, [.ref of, .ref o_ca, .ref o_bo, .int o_gust, .int o_still, o_rv, .ref o_wd, .ref o_sk])), (of, .inr (1, [.ref of_c])), (of_c, .inl (cy 0, 63, .inl gof_c_18)), (o_ca, .inl (cy 0, 5, .inl go_ca_18)), (o_bo, .inl (cy 0, 5, .inl g_obo)), (o_wd, .inl (cy 1, 13, .inr (.inl go_wd_18))), (o_sk, .inl (cy 1, 64, .inr (.inl go_sk_18)))] → va_S A s.heap H locs → lv_has ls 5 [(4, .int v4_18), (3, .int (g_of 6)), (2, .int v2_18), (1, .ref of_c), (0, .ref o)] → W p l e (kRm 4 102 0 0) s m ([.ref o] : List Value).toArray below meth c H locs 0 0 (MQ below (va_Qi (S := (Nat → Int32) × Int32 × (Nat → Int32) × (Nat → Int64) × (Nat → Int64)) (fun r u => FV (u.1)) (kBw D A (fun u => [(o, .inr (6, [.ref of, .ref o_ca, .ref o_bo, .int o_gust, .int (u.2.1), o_rv, .ref o_wd, .ref o_sk])), (of, .inr (1, [.ref of_c])), (of_c, .inl (cy 0, 63, .inl (u.1))), (o_ca, .inl (cy 0, 5, .inl (u.2.2.1))), (o_bo, .inl (cy 0, 5, .inl g_obo)), (o_wd, .inl (cy 1, 13, .inr (.inl (u.2.2.2.1)))), (o_sk, .inl (cy 1, 64, .inr (.inl (u.2.2.2.2))))])) A) ([.ref o] : List Value).toArray s 0 0 A) (F0 m 18 ls []) := by
    intro fu18
    induction fu18 with
    | zero =>
      intro v4_18 v2_18 gof_c_18 go_ca_18 go_wd_18 go_sk_18 H locs ls hgof_c_18 j0_18 j1_18 hm18 hP hD hS hl
      exact absurd hm18 (by omega)
    | succ fu18 ih18 =>
      intro v4_18 v2_18 gof_c_18 go_ca_18 go_wd_18 go_sk_18 H locs ls hgof_c_18 j0_18 j1_18 hm18 hP hD hS hl
      obtain ⟨⟨b_2a, b_2b⟩, ⟨b_2c, b_2d⟩, ⟨b_2e, b_2f⟩⟩ := FV.bounds hgof_c_18
      refine lv_iload hx hb dX6_playRound_18 (lv_at hl 0 rfl) ?_
      refine lv_aload_n hx hb dX6_playRound_20 rfl (lv_at hl 3 rfl) ?_
      refine lv_iconst (v := 4) hx hb dX6_playRound_21 (by decide) ?_
      refine va_iald hx hb hE.1 hP 2 0 rfl rfl (by unfold vp_in; decide) dX6_playRound_22 ?_
      refine k_top (z := (gof_c_18 4)) rfl ?_
      refine lv_icmp_ge (tgt := 89) hx hb dX6_playRound_23 (by decide) (fun c_3 => ?_) (fun c_3 => ?_)
      · have ic_3 : (gof_c_18 4).toInt ≤ v4_18.toInt := k_le c_3 rfl rfl
        refine lv_aload_n hx hb dX6_playRound_89 rfl (lv_at hl 3 rfl) ?_
        refine lv_iconst (v := 5) hx hb dX6_playRound_90 (by decide) ?_
        refine lv_dup2_11 hx hb dX6_playRound_91 rfl rfl ?_
        refine va_iald hx hb hE.1 hP 2 0 rfl rfl (by unfold vp_in; decide) dX6_playRound_92 ?_
        refine k_top (z := (gof_c_18 5)) rfl ?_
        refine lv_iconst (v := 1) hx hb dX6_playRound_93 (by decide) ?_
        refine lv_iadd hx hb dX6_playRound_94 ?_
        refine lv_topi (fun z_4 ez_4 => ?_)
        refine va_iast hx hb hE.1 hP hD hS 2 0 rfl rfl (by unfold vp_in; decide) dX6_playRound_95 (fun H locs hP hD hS => ?_)
        have hr_6 : FV (upd gof_c_18 (Int32.toNatClampNeg 5) z_4) := FV.put hgof_c_18 (5 : Int32) z_4 (by have lq1 : (5 : Int32).toInt = 5 := (by decide); omega) (by have lq1 : (5 : Int32).toInt = 5 := (by decide); omega) (by have lq1 : (5 : Int32).toInt = 5 := (by decide); omega) (by have lq1 : (5 : Int32).toInt = 5 := (by decide); omega) (by have lq1 : (5 : Int32).toInt = 5 := (by decide); omega)
        generalize upd gof_c_18 (Int32.toNatClampNeg 5) z_4 = fn_5 at hP hD hr_6
        have hP : va_P D vwCl [(o, .inr (6, [.ref of, .ref o_ca, .ref o_bo, .int o_gust, .int o_still, o_rv, .ref o_wd, .ref o_sk])), (of, .inr (1, [.ref of_c])), (of_c, .inl (cy 0, 63, .inl fn_5)), (o_ca, .inl (cy 0, 5, .inl go_ca_18)), (o_bo, .inl (cy 0, 5, .inl g_obo)), (o_wd, .inl (cy 1, 13, .inr (.inl go_wd_18))), (o_sk, .inl (cy 1, 64, .inr (.inl go_sk_18)))] H := hP
        have hD : va_D A [(o, .inr (6, [.ref of, .ref o_ca, .ref o_bo, .int o_gust, .int o_still, o_rv, .ref o_wd, .ref o_sk])), (of, .inr (1, [.ref of_c])), (of_c, .inl (cy 0, 63, .inl fn_5)), (o_ca, .inl (cy 0, 5, .inl go_ca_18)), (o_bo, .inl (cy 0, 5, .inl g_obo)), (o_wd, .inl (cy 1, 13, .inr (.inl go_wd_18))), (o_sk, .inl (cy 1, 64, .inr (.inl go_sk_18)))] := hD
        obtain ⟨⟨b_7a, b_7b⟩, ⟨b_7c, b_7d⟩, ⟨b_7e, b_7f⟩⟩ := FV.bounds hr_6
        refine lv_aload_n hx hb dX6_playRound_96 rfl (lv_at hl 4 rfl) ?_
        refine va_get (D := D) (ci := 6) (v := .int o_gust) (C := RX6) (T := TX6) (N := 8) hx hb hG inG_X6 hown hE.1 hP 0 rfl rfl 3 (by decide) (hG _ q_f_X6_25) (fun _ h9 => h9) rfl dX6_playRound_97 ?_
        refine lv_iconst (v := (-1)) hx hb dX6_playRound_100 (by decide) ?_
        refine lv_icmp_ne (tgt := 121) hx hb dX6_playRound_101 (by decide) (fun c_8 => ?_) (fun c_8 => ?_)
        · have ic_8 : o_gust.toInt ≠ (-1) := k_ne c_8 rfl (by decide)
          refine lv_iconst (v := 1) hx hb dX6_playRound_121 (by decide) ?_
          refine lv_goto (tgt := 126) hx hb dX6_playRound_122 (by decide) ?_
          refine lv_istore (lv' := [(4, .int 1), (3, .int (g_of 6)), (2, .int v2_18), (1, .ref of_c), (0, .ref o)]) hx hb dX6_playRound_126 hl (by decide) rfl (fun ls hl => ?_)
          refine lv_aload_n hx hb dX6_playRound_128 rfl (lv_at hl 4 rfl) ?_
          refine lv_aload_n hx hb dX6_playRound_129 rfl (lv_at hl 3 rfl) ?_
          refine lv_bipush (v := 6) hx hb dX6_playRound_130 (by decide) ?_
          refine va_iald hx hb hE.1 hP 2 0 rfl rfl (by unfold vp_in; decide) dX6_playRound_132 ?_
          refine k_top (z := (fn_5 6)) rfl ?_
          refine lv_iload_n hx hb dX6_playRound_133 rfl (lv_at hl 1 rfl) ?_
          refine lv_icmp_ne (tgt := 158) hx hb dX6_playRound_134 (by decide) (fun c_9 => ?_) (fun c_9 => ?_)
          · have ic_9 : (fn_5 6).toInt ≠ (g_of 6).toInt := k_ne c_9 rfl rfl
            refine lv_iconst (v := 0) hx hb dX6_playRound_158 (by decide) ?_
            refine va_put (D := D) (ci := 6) (v := .int 0) (ty := .boolean) (C := RX6) (T := TX6) (N := 8) hx hb hG inG_X6 tyX6 tyX6_ok nmX6 hown hE.1 hP hD hS 0 rfl rfl 4 (by decide) (hG _ q_f_X6_29) (fun _ h9 => h9) rfl (by decide +kernel) rfl rfl (Nat.le_of_ble_eq_true rfl) dX6_playRound_159 (fun H locs hP hD hS => ?_)
            have hP : va_P D vwCl [(o, .inr (6, [.ref of, .ref o_ca, .ref o_bo, .int o_gust, .int 0, o_rv, .ref o_wd, .ref o_sk])), (of, .inr (1, [.ref of_c])), (of_c, .inl (cy 0, 63, .inl fn_5)), (o_ca, .inl (cy 0, 5, .inl go_ca_18)), (o_bo, .inl (cy 0, 5, .inl g_obo)), (o_wd, .inl (cy 1, 13, .inr (.inl go_wd_18))), (o_sk, .inl (cy 1, 64, .inr (.inl go_sk_18)))] H := hP
            have hD : va_D A [(o, .inr (6, [.ref of, .ref o_ca, .ref o_bo, .int o_gust, .int 0, o_rv, .ref o_wd, .ref o_sk])), (of, .inr (1, [.ref of_c])), (of_c, .inl (cy 0, 63, .inl fn_5)), (o_ca, .inl (cy 0, 5, .inl go_ca_18)), (o_bo, .inl (cy 0, 5, .inl g_obo)), (o_wd, .inl (cy 1, 13, .inr (.inl go_wd_18))), (o_sk, .inl (cy 1, 64, .inr (.inl go_sk_18)))] := hD
            refine lv_iload_n hx hb dX6_playRound_162 rfl (lv_at hl 2 rfl) ?_
            have lito_still : (0 : Int32).toInt = 0 := by decide
            exact KI.rt ⟨fn_5, 0, go_ca_18, go_wd_18, go_sk_18⟩ F rfl (hP.sub [0, 1, 2, 3, 4, 5, 6] rfl) (hD.sub [0, 1, 2, 3, 4, 5, 6] (by decide) rfl) hS (show FV fn_5 from hr_6) (Nat.le_of_ble_eq_true rfl) (Nat.le_of_ble_eq_true rfl) dX6_playRound_163
          · have ic_9 : (fn_5 6).toInt = (g_of 6).toInt := k_eq c_9 rfl rfl
            refine lv_iload hx hb dX6_playRound_137 (lv_at hl 0 rfl) ?_
            refine lv_if_eq (tgt := 154) hx hb dX6_playRound_139 (by decide) (fun q => absurd q (by decide)) (fun _ => ?_)
            refine lv_aload_n hx hb dX6_playRound_142 rfl (lv_at hl 4 rfl) ?_
            refine va_get (D := D) (ci := 6) (v := .ref of) (C := RX6) (T := TX6) (N := 8) hx hb hG inG_X6 hown hE.1 hP 0 rfl rfl 0 (by decide) (hG _ q_f_X6_12) (fun _ h9 => h9) rfl dX6_playRound_143 ?_
            refine lv_bipush (v := 58) hx hb dX6_playRound_146 (by decide) ?_
            have lt32_9 : (58 : Int32).toInt = 58 := by decide
            refine kcV (As := [.int 58]) (rest := [.ref o]) F hE hP hl.1 (cc_X1_sumOfArchers l D cy (o := of) (x0 := 58) (o_c := of_c) (g_o := fn_5) (h_g_o := hr_6) (p0 := (by first | omega | assumption)) (p1 := (by first | omega | assumption))) q_m_X6_66 mv_X1_sumOfArchers ⟨(Nat.le_of_ble_eq_true rfl), (Nat.le_of_ble_eq_true rfl)⟩ [1, 2] rfl rfl rfl rfl rfl rfl (Nat.le_of_ble_eq_true rfl) ⟨(Nat.le_of_ble_eq_true rfl), (Nat.le_of_ble_eq_true rfl)⟩ dX6_playRound_148 (fun r_11 er_11 => ?_)
            refine lv_if_ne (tgt := 158) hx hb dX6_playRound_151 (by decide) (fun c_12 => ?_) (fun c_12 => ?_)
            · have ic_12 : r_11.toInt ≠ 0 := k_ne c_12 rfl (by decide)
              refine lv_iconst (v := 0) hx hb dX6_playRound_158 (by decide) ?_
              refine va_put (D := D) (ci := 6) (v := .int 0) (ty := .boolean) (C := RX6) (T := TX6) (N := 8) hx hb hG inG_X6 tyX6 tyX6_ok nmX6 hown hE.1 hP hD hS 0 rfl rfl 4 (by decide) (hG _ q_f_X6_29) (fun _ h9 => h9) rfl (by decide +kernel) rfl rfl (Nat.le_of_ble_eq_true rfl) dX6_playRound_159 (fun H locs hP hD hS => ?_)
              have hP : va_P D vwCl [(o, .inr (6, [.ref of, .ref o_ca, .ref o_bo, .int o_gust, .int 0, o_rv, .ref o_wd, .ref o_sk])), (of, .inr (1, [.ref of_c])), (of_c, .inl (cy 0, 63, .inl fn_5)), (o_ca, .inl (cy 0, 5, .inl go_ca_18)), (o_bo, .inl (cy 0, 5, .inl g_obo)), (o_wd, .inl (cy 1, 13, .inr (.inl go_wd_18))), (o_sk, .inl (cy 1, 64, .inr (.inl go_sk_18)))] H := hP
              have hD : va_D A [(o, .inr (6, [.ref of, .ref o_ca, .ref o_bo, .int o_gust, .int 0, o_rv, .ref o_wd, .ref o_sk])), (of, .inr (1, [.ref of_c])), (of_c, .inl (cy 0, 63, .inl fn_5)), (o_ca, .inl (cy 0, 5, .inl go_ca_18)), (o_bo, .inl (cy 0, 5, .inl g_obo)), (o_wd, .inl (cy 1, 13, .inr (.inl go_wd_18))), (o_sk, .inl (cy 1, 64, .inr (.inl go_sk_18)))] := hD
              refine lv_iload_n hx hb dX6_playRound_162 rfl (lv_at hl 2 rfl) ?_
              have lito_still : (0 : Int32).toInt = 0 := by decide
              exact KI.rt ⟨fn_5, 0, go_ca_18, go_wd_18, go_sk_18⟩ F rfl (hP.sub [0, 1, 2, 3, 4, 5, 6] rfl) (hD.sub [0, 1, 2, 3, 4, 5, 6] (by decide) rfl) hS (show FV fn_5 from hr_6) (Nat.le_of_ble_eq_true rfl) (Nat.le_of_ble_eq_true rfl) dX6_playRound_163
            · have ic_12 : r_11.toInt = 0 := k_eq c_12 rfl (by decide)
              refine lv_iconst (v := 1) hx hb dX6_playRound_154 (by decide) ?_
              refine lv_goto (tgt := 159) hx hb dX6_playRound_155 (by decide) ?_
              refine va_put (D := D) (ci := 6) (v := .int 1) (ty := .boolean) (C := RX6) (T := TX6) (N := 8) hx hb hG inG_X6 tyX6 tyX6_ok nmX6 hown hE.1 hP hD hS 0 rfl rfl 4 (by decide) (hG _ q_f_X6_29) (fun _ h9 => h9) rfl (by decide +kernel) rfl rfl (Nat.le_of_ble_eq_true rfl) dX6_playRound_159 (fun H locs hP hD hS => ?_)
              have hP : va_P D vwCl [(o, .inr (6, [.ref of, .ref o_ca, .ref o_bo, .int o_gust, .int 1, o_rv, .ref o_wd, .ref o_sk])), (of, .inr (1, [.ref of_c])), (of_c, .inl (cy 0, 63, .inl fn_5)), (o_ca, .inl (cy 0, 5, .inl go_ca_18)), (o_bo, .inl (cy 0, 5, .inl g_obo)), (o_wd, .inl (cy 1, 13, .inr (.inl go_wd_18))), (o_sk, .inl (cy 1, 64, .inr (.inl go_sk_18)))] H := hP
              have hD : va_D A [(o, .inr (6, [.ref of, .ref o_ca, .ref o_bo, .int o_gust, .int 1, o_rv, .ref o_wd, .ref o_sk])), (of, .inr (1, [.ref of_c])), (of_c, .inl (cy 0, 63, .inl fn_5)), (o_ca, .inl (cy 0, 5, .inl go_ca_18)), (o_bo, .inl (cy 0, 5, .inl g_obo)), (o_wd, .inl (cy 1, 13, .inr (.inl go_wd_18))), (o_sk, .inl (cy 1, 64, .inr (.inl go_sk_18)))] := hD
              refine lv_iload_n hx hb dX6_playRound_162 rfl (lv_at hl 2 rfl) ?_
              have lito_still : (1 : Int32).toInt = 1 := by decide
              exact KI.rt ⟨fn_5, 1, go_ca_18, go_wd_18, go_sk_18⟩ F rfl (hP.sub [0, 1, 2, 3, 4, 5, 6] rfl) (hD.sub [0, 1, 2, 3, 4, 5, 6] (by decide) rfl) hS (show FV fn_5 from hr_6) (Nat.le_of_ble_eq_true rfl) (Nat.le_of_ble_eq_true rfl) dX6_playRound_163
        · have ic_8 : o_gust.toInt = (-1) := k_eq c_8 rfl (by decide)
          refine lv_aload_n hx hb dX6_playRound_104 rfl (lv_at hl 4 rfl) ?_
          refine va_get (D := D) (ci := 6) (v := o_rv) (C := RX6) (T := TX6) (N := 8) hx hb hG inG_X6 hown hE.1 hP 0 rfl rfl 5 (by decide) (hG _ q_f_X6_33) (fun _ h9 => h9) rfl dX6_playRound_105 ?_
          rcases hrv with rfl | ⟨r, st, ra, rn, rg, ri, rj, rfl, hTi, hTj, hn4, hg⟩
          · refine lv_ifnullN (tgt := 125) hx hb dX6_playRound_108 (by decide) ?_
            refine lv_iconst (v := 0) hx hb dX6_playRound_125 (by decide) ?_
            refine lv_istore (lv' := [(4, .int 0), (3, .int (g_of 6)), (2, .int v2_18), (1, .ref of_c), (0, .ref o)]) hx hb dX6_playRound_126 hl (by decide) rfl (fun ls hl => ?_)
            refine lv_aload_n hx hb dX6_playRound_128 rfl (lv_at hl 4 rfl) ?_
            refine lv_aload_n hx hb dX6_playRound_129 rfl (lv_at hl 3 rfl) ?_
            refine lv_bipush (v := 6) hx hb dX6_playRound_130 (by decide) ?_
            refine va_iald hx hb hE.1 hP 2 0 rfl rfl (by unfold vp_in; decide) dX6_playRound_132 ?_
            refine k_top (z := (fn_5 6)) rfl ?_
            refine lv_iload_n hx hb dX6_playRound_133 rfl (lv_at hl 1 rfl) ?_
            refine lv_icmp_ne (tgt := 158) hx hb dX6_playRound_134 (by decide) (fun c_13 => ?_) (fun c_13 => ?_)
            · have ic_13 : (fn_5 6).toInt ≠ (g_of 6).toInt := k_ne c_13 rfl rfl
              refine lv_iconst (v := 0) hx hb dX6_playRound_158 (by decide) ?_
              refine va_put (D := D) (ci := 6) (v := .int 0) (ty := .boolean) (C := RX6) (T := TX6) (N := 8) hx hb hG inG_X6 tyX6 tyX6_ok nmX6 hown hE.1 hP hD hS 0 rfl rfl 4 (by decide) (hG _ q_f_X6_29) (fun _ h9 => h9) rfl (by decide +kernel) rfl rfl (Nat.le_of_ble_eq_true rfl) dX6_playRound_159 (fun H locs hP hD hS => ?_)
              have hP : va_P D vwCl [(o, .inr (6, [.ref of, .ref o_ca, .ref o_bo, .int o_gust, .int 0, .null, .ref o_wd, .ref o_sk])), (of, .inr (1, [.ref of_c])), (of_c, .inl (cy 0, 63, .inl fn_5)), (o_ca, .inl (cy 0, 5, .inl go_ca_18)), (o_bo, .inl (cy 0, 5, .inl g_obo)), (o_wd, .inl (cy 1, 13, .inr (.inl go_wd_18))), (o_sk, .inl (cy 1, 64, .inr (.inl go_sk_18)))] H := hP
              have hD : va_D A [(o, .inr (6, [.ref of, .ref o_ca, .ref o_bo, .int o_gust, .int 0, .null, .ref o_wd, .ref o_sk])), (of, .inr (1, [.ref of_c])), (of_c, .inl (cy 0, 63, .inl fn_5)), (o_ca, .inl (cy 0, 5, .inl go_ca_18)), (o_bo, .inl (cy 0, 5, .inl g_obo)), (o_wd, .inl (cy 1, 13, .inr (.inl go_wd_18))), (o_sk, .inl (cy 1, 64, .inr (.inl go_sk_18)))] := hD
              refine lv_iload_n hx hb dX6_playRound_162 rfl (lv_at hl 2 rfl) ?_
              have lito_still : (0 : Int32).toInt = 0 := by decide
              exact KI.rt ⟨fn_5, 0, go_ca_18, go_wd_18, go_sk_18⟩ F rfl (hP.sub [0, 1, 2, 3, 4, 5, 6] rfl) (hD.sub [0, 1, 2, 3, 4, 5, 6] (by decide) rfl) hS (show FV fn_5 from hr_6) (Nat.le_of_ble_eq_true rfl) (Nat.le_of_ble_eq_true rfl) dX6_playRound_163
            · have ic_13 : (fn_5 6).toInt = (g_of 6).toInt := k_eq c_13 rfl rfl
              refine lv_iload hx hb dX6_playRound_137 (lv_at hl 0 rfl) ?_
              refine lv_if_eq (tgt := 154) hx hb dX6_playRound_139 (by decide) (fun _ => ?_) (fun q => absurd q (by decide))
              refine lv_iconst (v := 1) hx hb dX6_playRound_154 (by decide) ?_
              refine lv_goto (tgt := 159) hx hb dX6_playRound_155 (by decide) ?_
              refine va_put (D := D) (ci := 6) (v := .int 1) (ty := .boolean) (C := RX6) (T := TX6) (N := 8) hx hb hG inG_X6 tyX6 tyX6_ok nmX6 hown hE.1 hP hD hS 0 rfl rfl 4 (by decide) (hG _ q_f_X6_29) (fun _ h9 => h9) rfl (by decide +kernel) rfl rfl (Nat.le_of_ble_eq_true rfl) dX6_playRound_159 (fun H locs hP hD hS => ?_)
              have hP : va_P D vwCl [(o, .inr (6, [.ref of, .ref o_ca, .ref o_bo, .int o_gust, .int 1, .null, .ref o_wd, .ref o_sk])), (of, .inr (1, [.ref of_c])), (of_c, .inl (cy 0, 63, .inl fn_5)), (o_ca, .inl (cy 0, 5, .inl go_ca_18)), (o_bo, .inl (cy 0, 5, .inl g_obo)), (o_wd, .inl (cy 1, 13, .inr (.inl go_wd_18))), (o_sk, .inl (cy 1, 64, .inr (.inl go_sk_18)))] H := hP
              have hD : va_D A [(o, .inr (6, [.ref of, .ref o_ca, .ref o_bo, .int o_gust, .int 1, .null, .ref o_wd, .ref o_sk])), (of, .inr (1, [.ref of_c])), (of_c, .inl (cy 0, 63, .inl fn_5)), (o_ca, .inl (cy 0, 5, .inl go_ca_18)), (o_bo, .inl (cy 0, 5, .inl g_obo)), (o_wd, .inl (cy 1, 13, .inr (.inl go_wd_18))), (o_sk, .inl (cy 1, 64, .inr (.inl go_sk_18)))] := hD
              refine lv_iload_n hx hb dX6_playRound_162 rfl (lv_at hl 2 rfl) ?_
              have lito_still : (1 : Int32).toInt = 1 := by decide
              exact KI.rt ⟨fn_5, 1, go_ca_18, go_wd_18, go_sk_18⟩ F rfl (hP.sub [0, 1, 2, 3, 4, 5, 6] rfl) (hD.sub [0, 1, 2, 3, 4, 5, 6] (by decide) rfl) hS (show FV fn_5 from hr_6) (Nat.le_of_ble_eq_true rfl) (Nat.le_of_ble_eq_true rfl) dX6_playRound_163
          · refine lv_ifnull hx hb dX6_playRound_108 ?_
            refine lv_aload_n hx hb dX6_playRound_111 rfl (lv_at hl 4 rfl) ?_
            refine va_get (D := D) (ci := 6) (v := .ref r) (C := RX6) (T := TX6) (N := 8) hx hb hG inG_X6 hown hE.1 hP 0 rfl rfl 5 (by decide) (hG _ q_f_X6_33) (fun _ h9 => h9) rfl dX6_playRound_112 ?_
            refine va_get (D := D) (ci := 7) (v := .int ra) (C := RX7) (T := TX7) (N := 2) hx hb hG inG_X7 hown hE.1 (zt _ _ _ (j_at hz hZ hS)) ri hTi rfl 1 (by decide) (hG _ q_f_X6_63) (fun _ h9 => h9) rfl dX6_playRound_115 ?_
            refine lv_if_eq (tgt := 125) hx hb dX6_playRound_118 (by decide) (fun c_14 => ?_) (fun c_14 => ?_)
            · have ic_14 : ra.toInt = 0 := k_eq c_14 rfl (by decide)
              refine lv_iconst (v := 0) hx hb dX6_playRound_125 (by decide) ?_
              refine lv_istore (lv' := [(4, .int 0), (3, .int (g_of 6)), (2, .int v2_18), (1, .ref of_c), (0, .ref o)]) hx hb dX6_playRound_126 hl (by decide) rfl (fun ls hl => ?_)
              refine lv_aload_n hx hb dX6_playRound_128 rfl (lv_at hl 4 rfl) ?_
              refine lv_aload_n hx hb dX6_playRound_129 rfl (lv_at hl 3 rfl) ?_
              refine lv_bipush (v := 6) hx hb dX6_playRound_130 (by decide) ?_
              refine va_iald hx hb hE.1 hP 2 0 rfl rfl (by unfold vp_in; decide) dX6_playRound_132 ?_
              refine k_top (z := (fn_5 6)) rfl ?_
              refine lv_iload_n hx hb dX6_playRound_133 rfl (lv_at hl 1 rfl) ?_
              refine lv_icmp_ne (tgt := 158) hx hb dX6_playRound_134 (by decide) (fun c_15 => ?_) (fun c_15 => ?_)
              · have ic_15 : (fn_5 6).toInt ≠ (g_of 6).toInt := k_ne c_15 rfl rfl
                refine lv_iconst (v := 0) hx hb dX6_playRound_158 (by decide) ?_
                refine va_put (D := D) (ci := 6) (v := .int 0) (ty := .boolean) (C := RX6) (T := TX6) (N := 8) hx hb hG inG_X6 tyX6 tyX6_ok nmX6 hown hE.1 hP hD hS 0 rfl rfl 4 (by decide) (hG _ q_f_X6_29) (fun _ h9 => h9) rfl (by decide +kernel) rfl rfl (Nat.le_of_ble_eq_true rfl) dX6_playRound_159 (fun H locs hP hD hS => ?_)
                have hP : va_P D vwCl [(o, .inr (6, [.ref of, .ref o_ca, .ref o_bo, .int o_gust, .int 0, .ref r, .ref o_wd, .ref o_sk])), (of, .inr (1, [.ref of_c])), (of_c, .inl (cy 0, 63, .inl fn_5)), (o_ca, .inl (cy 0, 5, .inl go_ca_18)), (o_bo, .inl (cy 0, 5, .inl g_obo)), (o_wd, .inl (cy 1, 13, .inr (.inl go_wd_18))), (o_sk, .inl (cy 1, 64, .inr (.inl go_sk_18)))] H := hP
                have hD : va_D A [(o, .inr (6, [.ref of, .ref o_ca, .ref o_bo, .int o_gust, .int 0, .ref r, .ref o_wd, .ref o_sk])), (of, .inr (1, [.ref of_c])), (of_c, .inl (cy 0, 63, .inl fn_5)), (o_ca, .inl (cy 0, 5, .inl go_ca_18)), (o_bo, .inl (cy 0, 5, .inl g_obo)), (o_wd, .inl (cy 1, 13, .inr (.inl go_wd_18))), (o_sk, .inl (cy 1, 64, .inr (.inl go_sk_18)))] := hD
                refine lv_iload_n hx hb dX6_playRound_162 rfl (lv_at hl 2 rfl) ?_
                have lito_still : (0 : Int32).toInt = 0 := by decide
                exact KI.rt ⟨fn_5, 0, go_ca_18, go_wd_18, go_sk_18⟩ F rfl (hP.sub [0, 1, 2, 3, 4, 5, 6] rfl) (hD.sub [0, 1, 2, 3, 4, 5, 6] (by decide) rfl) hS (show FV fn_5 from hr_6) (Nat.le_of_ble_eq_true rfl) (Nat.le_of_ble_eq_true rfl) dX6_playRound_163
              · have ic_15 : (fn_5 6).toInt = (g_of 6).toInt := k_eq c_15 rfl rfl
                refine lv_iload hx hb dX6_playRound_137 (lv_at hl 0 rfl) ?_
                refine lv_if_eq (tgt := 154) hx hb dX6_playRound_139 (by decide) (fun _ => ?_) (fun q => absurd q (by decide))
                refine lv_iconst (v := 1) hx hb dX6_playRound_154 (by decide) ?_
                refine lv_goto (tgt := 159) hx hb dX6_playRound_155 (by decide) ?_
                refine va_put (D := D) (ci := 6) (v := .int 1) (ty := .boolean) (C := RX6) (T := TX6) (N := 8) hx hb hG inG_X6 tyX6 tyX6_ok nmX6 hown hE.1 hP hD hS 0 rfl rfl 4 (by decide) (hG _ q_f_X6_29) (fun _ h9 => h9) rfl (by decide +kernel) rfl rfl (Nat.le_of_ble_eq_true rfl) dX6_playRound_159 (fun H locs hP hD hS => ?_)
                have hP : va_P D vwCl [(o, .inr (6, [.ref of, .ref o_ca, .ref o_bo, .int o_gust, .int 1, .ref r, .ref o_wd, .ref o_sk])), (of, .inr (1, [.ref of_c])), (of_c, .inl (cy 0, 63, .inl fn_5)), (o_ca, .inl (cy 0, 5, .inl go_ca_18)), (o_bo, .inl (cy 0, 5, .inl g_obo)), (o_wd, .inl (cy 1, 13, .inr (.inl go_wd_18))), (o_sk, .inl (cy 1, 64, .inr (.inl go_sk_18)))] H := hP
                have hD : va_D A [(o, .inr (6, [.ref of, .ref o_ca, .ref o_bo, .int o_gust, .int 1, .ref r, .ref o_wd, .ref o_sk])), (of, .inr (1, [.ref of_c])), (of_c, .inl (cy 0, 63, .inl fn_5)), (o_ca, .inl (cy 0, 5, .inl go_ca_18)), (o_bo, .inl (cy 0, 5, .inl g_obo)), (o_wd, .inl (cy 1, 13, .inr (.inl go_wd_18))), (o_sk, .inl (cy 1, 64, .inr (.inl go_sk_18)))] := hD
                refine lv_iload_n hx hb dX6_playRound_162 rfl (lv_at hl 2 rfl) ?_
                have lito_still : (1 : Int32).toInt = 1 := by decide
                exact KI.rt ⟨fn_5, 1, go_ca_18, go_wd_18, go_sk_18⟩ F rfl (hP.sub [0, 1, 2, 3, 4, 5, 6] rfl) (hD.sub [0, 1, 2, 3, 4, 5, 6] (by decide) rfl) hS (show FV fn_5 from hr_6) (Nat.le_of_ble_eq_true rfl) (Nat.le_of_ble_eq_true rfl) dX6_playRound_163
            · have ic_14 : ra.toInt ≠ 0 := k_ne c_14 rfl (by decide)
              refine lv_iconst (v := 1) hx hb dX6_playRound_121 (by decide) ?_
              refine lv_goto (tgt := 126) hx hb dX6_playRound_122 (by decide) ?_
              refine lv_istore (lv' := [(4, .int 1), (3, .int (g_of 6)), (2, .int v2_18), (1, .ref of_c), (0, .ref o)]) hx hb dX6_playRound_126 hl (by decide) rfl (fun ls hl => ?_)
              refine lv_aload_n hx hb dX6_playRound_128 rfl (lv_at hl 4 rfl) ?_
              refine lv_aload_n hx hb dX6_playRound_129 rfl (lv_at hl 3 rfl) ?_
              refine lv_bipush (v := 6) hx hb dX6_playRound_130 (by decide) ?_
              refine va_iald hx hb hE.1 hP 2 0 rfl rfl (by unfold vp_in; decide) dX6_playRound_132 ?_
              refine k_top (z := (fn_5 6)) rfl ?_
              refine lv_iload_n hx hb dX6_playRound_133 rfl (lv_at hl 1 rfl) ?_
              refine lv_icmp_ne (tgt := 158) hx hb dX6_playRound_134 (by decide) (fun c_16 => ?_) (fun c_16 => ?_)
              · have ic_16 : (fn_5 6).toInt ≠ (g_of 6).toInt := k_ne c_16 rfl rfl
                refine lv_iconst (v := 0) hx hb dX6_playRound_158 (by decide) ?_
                refine va_put (D := D) (ci := 6) (v := .int 0) (ty := .boolean) (C := RX6) (T := TX6) (N := 8) hx hb hG inG_X6 tyX6 tyX6_ok nmX6 hown hE.1 hP hD hS 0 rfl rfl 4 (by decide) (hG _ q_f_X6_29) (fun _ h9 => h9) rfl (by decide +kernel) rfl rfl (Nat.le_of_ble_eq_true rfl) dX6_playRound_159 (fun H locs hP hD hS => ?_)
                have hP : va_P D vwCl [(o, .inr (6, [.ref of, .ref o_ca, .ref o_bo, .int o_gust, .int 0, .ref r, .ref o_wd, .ref o_sk])), (of, .inr (1, [.ref of_c])), (of_c, .inl (cy 0, 63, .inl fn_5)), (o_ca, .inl (cy 0, 5, .inl go_ca_18)), (o_bo, .inl (cy 0, 5, .inl g_obo)), (o_wd, .inl (cy 1, 13, .inr (.inl go_wd_18))), (o_sk, .inl (cy 1, 64, .inr (.inl go_sk_18)))] H := hP
                have hD : va_D A [(o, .inr (6, [.ref of, .ref o_ca, .ref o_bo, .int o_gust, .int 0, .ref r, .ref o_wd, .ref o_sk])), (of, .inr (1, [.ref of_c])), (of_c, .inl (cy 0, 63, .inl fn_5)), (o_ca, .inl (cy 0, 5, .inl go_ca_18)), (o_bo, .inl (cy 0, 5, .inl g_obo)), (o_wd, .inl (cy 1, 13, .inr (.inl go_wd_18))), (o_sk, .inl (cy 1, 64, .inr (.inl go_sk_18)))] := hD
                refine lv_iload_n hx hb dX6_playRound_162 rfl (lv_at hl 2 rfl) ?_
                have lito_still : (0 : Int32).toInt = 0 := by decide
                exact KI.rt ⟨fn_5, 0, go_ca_18, go_wd_18, go_sk_18⟩ F rfl (hP.sub [0, 1, 2, 3, 4, 5, 6] rfl) (hD.sub [0, 1, 2, 3, 4, 5, 6] (by decide) rfl) hS (show FV fn_5 from hr_6) (Nat.le_of_ble_eq_true rfl) (Nat.le_of_ble_eq_true rfl) dX6_playRound_163
              · have ic_16 : (fn_5 6).toInt = (g_of 6).toInt := k_eq c_16 rfl rfl
                refine lv_iload hx hb dX6_playRound_137 (lv_at hl 0 rfl) ?_
                refine lv_if_eq (tgt := 154) hx hb dX6_playRound_139 (by decide) (fun q => absurd q (by decide)) (fun _ => ?_)
                refine lv_aload_n hx hb dX6_playRound_142 rfl (lv_at hl 4 rfl) ?_
                refine va_get (D := D) (ci := 6) (v := .ref of) (C := RX6) (T := TX6) (N := 8) hx hb hG inG_X6 hown hE.1 hP 0 rfl rfl 0 (by decide) (hG _ q_f_X6_12) (fun _ h9 => h9) rfl dX6_playRound_143 ?_
                refine lv_bipush (v := 58) hx hb dX6_playRound_146 (by decide) ?_
                have lt32_16 : (58 : Int32).toInt = 58 := by decide
                refine kcV (As := [.int 58]) (rest := [.ref o]) F hE hP hl.1 (cc_X1_sumOfArchers l D cy (o := of) (x0 := 58) (o_c := of_c) (g_o := fn_5) (h_g_o := hr_6) (p0 := (by first | omega | assumption)) (p1 := (by first | omega | assumption))) q_m_X6_66 mv_X1_sumOfArchers ⟨(Nat.le_of_ble_eq_true rfl), (Nat.le_of_ble_eq_true rfl)⟩ [1, 2] rfl rfl rfl rfl rfl rfl (Nat.le_of_ble_eq_true rfl) ⟨(Nat.le_of_ble_eq_true rfl), (Nat.le_of_ble_eq_true rfl)⟩ dX6_playRound_148 (fun r_18 er_18 => ?_)
                refine lv_if_ne (tgt := 158) hx hb dX6_playRound_151 (by decide) (fun c_19 => ?_) (fun c_19 => ?_)
                · have ic_19 : r_18.toInt ≠ 0 := k_ne c_19 rfl (by decide)
                  refine lv_iconst (v := 0) hx hb dX6_playRound_158 (by decide) ?_
                  refine va_put (D := D) (ci := 6) (v := .int 0) (ty := .boolean) (C := RX6) (T := TX6) (N := 8) hx hb hG inG_X6 tyX6 tyX6_ok nmX6 hown hE.1 hP hD hS 0 rfl rfl 4 (by decide) (hG _ q_f_X6_29) (fun _ h9 => h9) rfl (by decide +kernel) rfl rfl (Nat.le_of_ble_eq_true rfl) dX6_playRound_159 (fun H locs hP hD hS => ?_)
                  have hP : va_P D vwCl [(o, .inr (6, [.ref of, .ref o_ca, .ref o_bo, .int o_gust, .int 0, .ref r, .ref o_wd, .ref o_sk])), (of, .inr (1, [.ref of_c])), (of_c, .inl (cy 0, 63, .inl fn_5)), (o_ca, .inl (cy 0, 5, .inl go_ca_18)), (o_bo, .inl (cy 0, 5, .inl g_obo)), (o_wd, .inl (cy 1, 13, .inr (.inl go_wd_18))), (o_sk, .inl (cy 1, 64, .inr (.inl go_sk_18)))] H := hP
                  have hD : va_D A [(o, .inr (6, [.ref of, .ref o_ca, .ref o_bo, .int o_gust, .int 0, .ref r, .ref o_wd, .ref o_sk])), (of, .inr (1, [.ref of_c])), (of_c, .inl (cy 0, 63, .inl fn_5)), (o_ca, .inl (cy 0, 5, .inl go_ca_18)), (o_bo, .inl (cy 0, 5, .inl g_obo)), (o_wd, .inl (cy 1, 13, .inr (.inl go_wd_18))), (o_sk, .inl (cy 1, 64, .inr (.inl go_sk_18)))] := hD
                  refine lv_iload_n hx hb dX6_playRound_162 rfl (lv_at hl 2 rfl) ?_
                  have lito_still : (0 : Int32).toInt = 0 := by decide
                  exact KI.rt ⟨fn_5, 0, go_ca_18, go_wd_18, go_sk_18⟩ F rfl (hP.sub [0, 1, 2, 3, 4, 5, 6] rfl) (hD.sub [0, 1, 2, 3, 4, 5, 6] (by decide) rfl) hS (show FV fn_5 from hr_6) (Nat.le_of_ble_eq_true rfl) (Nat.le_of_ble_eq_true rfl) dX6_playRound_163
                · have ic_19 : r_18.toInt = 0 := k_eq c_19 rfl (by decide)
                  refine lv_iconst (v := 1) hx hb dX6_playRound_154 (by decide) ?_
                  refine lv_goto (tgt := 159) hx hb dX6_playRound_155 (by decide) ?_
                  refine va_put (D := D) (ci := 6) (v := .int 1) (ty := .boolean) (C := RX6) (T := TX6) (N := 8) hx hb hG inG_X6 tyX6 tyX6_ok nmX6 hown hE.1 hP hD hS 0 rfl rfl 4 (by decide) (hG _ q_f_X6_29) (fun _ h9 => h9) rfl (by decide +kernel) rfl rfl (Nat.le_of_ble_eq_true rfl) dX6_playRound_159 (fun H locs hP hD hS => ?_)
                  have hP : va_P D vwCl [(o, .inr (6, [.ref of, .ref o_ca, .ref o_bo, .int o_gust, .int 1, .ref r, .ref o_wd, .ref o_sk])), (of, .inr (1, [.ref of_c])), (of_c, .inl (cy 0, 63, .inl fn_5)), (o_ca, .inl (cy 0, 5, .inl go_ca_18)), (o_bo, .inl (cy 0, 5, .inl g_obo)), (o_wd, .inl (cy 1, 13, .inr (.inl go_wd_18))), (o_sk, .inl (cy 1, 64, .inr (.inl go_sk_18)))] H := hP
                  have hD : va_D A [(o, .inr (6, [.ref of, .ref o_ca, .ref o_bo, .int o_gust, .int 1, .ref r, .ref o_wd, .ref o_sk])), (of, .inr (1, [.ref of_c])), (of_c, .inl (cy 0, 63, .inl fn_5)), (o_ca, .inl (cy 0, 5, .inl go_ca_18)), (o_bo, .inl (cy 0, 5, .inl g_obo)), (o_wd, .inl (cy 1, 13, .inr (.inl go_wd_18))), (o_sk, .inl (cy 1, 64, .inr (.inl go_sk_18)))] := hD
                  refine lv_iload_n hx hb dX6_playRound_162 rfl (lv_at hl 2 rfl) ?_
                  have lito_still : (1 : Int32).toInt = 1 := by decide
                  exact KI.rt ⟨fn_5, 1, go_ca_18, go_wd_18, go_sk_18⟩ F rfl (hP.sub [0, 1, 2, 3, 4, 5, 6] rfl) (hD.sub [0, 1, 2, 3, 4, 5, 6] (by decide) rfl) hS (show FV fn_5 from hr_6) (Nat.le_of_ble_eq_true rfl) (Nat.le_of_ble_eq_true rfl) dX6_playRound_163
      · have ic_3 : v4_18.toInt < (gof_c_18 4).toInt := k_nle c_3 rfl rfl
        refine lv_aload_n hx hb dX6_playRound_26 rfl (lv_at hl 4 rfl) ?_
        refine va_get (D := D) (ci := 6) (v := .ref o_ca) (C := RX6) (T := TX6) (N := 8) hx hb hG inG_X6 hown hE.1 hP 0 rfl rfl 1 (by decide) (hG _ q_f_X6_18) (fun _ h9 => h9) rfl dX6_playRound_27 ?_
        refine lv_iload hx hb dX6_playRound_30 (lv_at hl 0 rfl) ?_
        refine lv_aload_n hx hb dX6_playRound_32 rfl (lv_at hl 3 rfl) ?_
        refine lv_bipush (v := 58) hx hb dX6_playRound_33 (by decide) ?_
        refine lv_iload hx hb dX6_playRound_35 (lv_at hl 0 rfl) ?_
        refine lv_iadd hx hb dX6_playRound_37 ?_
        refine lv_topi (fun z_20 ez_20 => ?_)
        have iz_20 : z_20.toInt = 58 + v4_18.toInt := k_addI ez_20 (by decide) rfl (by omega)
        refine va_iald hx hb hE.1 hP 2 0 rfl rfl (k_in (by omega)) dX6_playRound_38 ?_
        refine k_top (z := (gof_c_18 (Int32.toNatClampNeg z_20))) rfl ?_
        refine lv_if_le (tgt := 51) hx hb dX6_playRound_39 (by decide) (fun c_21 => ?_) (fun c_21 => ?_)
        · have ic_21 : (gof_c_18 (Int32.toNatClampNeg z_20)).toInt ≤ 0 := k_le c_21 rfl (by decide)
          refine lv_bipush (v := 99) hx hb dX6_playRound_51 (by decide) ?_
          refine va_iast hx hb hE.1 hP hD hS 3 0 rfl rfl (k_in (by omega)) dX6_playRound_53 (fun H locs hP hD hS => ?_)
          generalize upd go_ca_18 (Int32.toNatClampNeg v4_18) 99 = fn_22 at hP hD
          have hP : va_P D vwCl [(o, .inr (6, [.ref of, .ref o_ca, .ref o_bo, .int o_gust, .int o_still, o_rv, .ref o_wd, .ref o_sk])), (of, .inr (1, [.ref of_c])), (of_c, .inl (cy 0, 63, .inl gof_c_18)), (o_ca, .inl (cy 0, 5, .inl fn_22)), (o_bo, .inl (cy 0, 5, .inl g_obo)), (o_wd, .inl (cy 1, 13, .inr (.inl go_wd_18))), (o_sk, .inl (cy 1, 64, .inr (.inl go_sk_18)))] H := hP
          have hD : va_D A [(o, .inr (6, [.ref of, .ref o_ca, .ref o_bo, .int o_gust, .int o_still, o_rv, .ref o_wd, .ref o_sk])), (of, .inr (1, [.ref of_c])), (of_c, .inl (cy 0, 63, .inl gof_c_18)), (o_ca, .inl (cy 0, 5, .inl fn_22)), (o_bo, .inl (cy 0, 5, .inl g_obo)), (o_wd, .inl (cy 1, 13, .inr (.inl go_wd_18))), (o_sk, .inl (cy 1, 64, .inr (.inl go_sk_18)))] := hD
          refine lv_aload_n hx hb dX6_playRound_54 rfl (lv_at hl 4 rfl) ?_
          refine va_get (D := D) (ci := 6) (v := .ref o_ca) (C := RX6) (T := TX6) (N := 8) hx hb hG inG_X6 hown hE.1 hP 0 rfl rfl 1 (by decide) (hG _ q_f_X6_18) (fun _ h9 => h9) rfl dX6_playRound_55 ?_
          refine lv_iload hx hb dX6_playRound_58 (lv_at hl 0 rfl) ?_
          refine va_iald hx hb hE.1 hP 3 0 rfl rfl (k_in (by omega)) dX6_playRound_60 ?_
          refine k_top (z := (fn_22 (Int32.toNatClampNeg v4_18))) rfl ?_
          refine lv_aload_n hx hb dX6_playRound_61 rfl (lv_at hl 3 rfl) ?_
          refine lv_bipush (v := 20) hx hb dX6_playRound_62 (by decide) ?_
          refine lv_aload_n hx hb dX6_playRound_64 rfl (lv_at hl 3 rfl) ?_
          refine lv_bipush (v := 38) hx hb dX6_playRound_65 (by decide) ?_
          refine lv_iload hx hb dX6_playRound_67 (lv_at hl 0 rfl) ?_
          refine lv_iadd hx hb dX6_playRound_69 ?_
          refine lv_topi (fun z_23 ez_23 => ?_)
          have iz_23 : z_23.toInt = 38 + v4_18.toInt := k_addI ez_23 (by decide) rfl (by omega)
          refine va_iald hx hb hE.1 hP 2 0 rfl rfl (k_in (by omega)) dX6_playRound_70 ?_
          refine k_top (z := (gof_c_18 (Int32.toNatClampNeg z_23))) rfl ?_
          have ow_24 := FV.own hgof_c_18 z_23 (by omega)
          refine lv_iadd hx hb dX6_playRound_71 ?_
          refine lv_topi (fun z_25 ez_25 => ?_)
          have iz_25 : z_25.toInt = 20 + (gof_c_18 (Int32.toNatClampNeg z_23)).toInt := k_addI ez_25 (by decide) rfl (by omega)
          refine va_iald hx hb hE.1 hP 2 0 rfl rfl (k_in (by omega)) dX6_playRound_72 ?_
          refine k_top (z := (gof_c_18 (Int32.toNatClampNeg z_25))) rfl ?_
          refine lv_icmp_ne (tgt := 83) hx hb dX6_playRound_73 (by decide) (fun c_26 => ?_) (fun c_26 => ?_)
          · have ic_26 : (fn_22 (Int32.toNatClampNeg v4_18)).toInt ≠ (gof_c_18 (Int32.toNatClampNeg z_25)).toInt := k_ne c_26 rfl rfl
            obtain ⟨z_27, ez_27⟩ : ∃ y : Int32, y = v4_18 + Int32.ofInt 1 := ⟨_, rfl⟩
            have iz_27 : z_27.toInt = v4_18.toInt + 1 := k_addI ez_27 rfl (by decide) (by omega)
            refine lv_iinc (v := z_27) (lv' := [(4, .int z_27), (3, .int (g_of 6)), (2, .int v2_18), (1, .ref of_c), (0, .ref o)]) hx hb dX6_playRound_83 hl (k := 0) rfl ez_27.symm (by decide) rfl (fun ls hl => ?_)
            refine lv_goto (tgt := 18) hx hb dX6_playRound_86 (by decide) ?_
            exact ih18 z_27 v2_18 gof_c_18 fn_22 go_wd_18 go_sk_18 _ _ ls hgof_c_18 (by first | omega | assumption) (by first | omega | assumption) (by omega) hP hD hS (lv_sub hl [0, 1, 2, 3, 4] rfl)
          · have ic_26 : (fn_22 (Int32.toNatClampNeg v4_18)).toInt = (gof_c_18 (Int32.toNatClampNeg z_25)).toInt := k_eq c_26 rfl rfl
            refine lv_iload_n hx hb dX6_playRound_76 rfl (lv_at hl 2 rfl) ?_
            refine lv_iconst (v := 1) hx hb dX6_playRound_77 (by decide) ?_
            refine lv_iload hx hb dX6_playRound_78 (lv_at hl 0 rfl) ?_
            refine lv_ishl hx hb dX6_playRound_80 ?_
            refine lv_topi (fun z_28 ez_28 => ?_)
            refine lv_ior hx hb dX6_playRound_81 ?_
            refine lv_topi (fun z_29 ez_29 => ?_)
            refine lv_istore_n (lv' := [(2, .int z_29), (4, .int v4_18), (3, .int (g_of 6)), (1, .ref of_c), (0, .ref o)]) hx hb dX6_playRound_82 rfl hl (by decide) rfl (fun ls hl => ?_)
            obtain ⟨z_30, ez_30⟩ : ∃ y : Int32, y = v4_18 + Int32.ofInt 1 := ⟨_, rfl⟩
            have iz_30 : z_30.toInt = v4_18.toInt + 1 := k_addI ez_30 rfl (by decide) (by omega)
            refine lv_iinc (v := z_30) (lv' := [(4, .int z_30), (2, .int z_29), (3, .int (g_of 6)), (1, .ref of_c), (0, .ref o)]) hx hb dX6_playRound_83 hl (k := 1) rfl ez_30.symm (by decide) rfl (fun ls hl => ?_)
            refine lv_goto (tgt := 18) hx hb dX6_playRound_86 (by decide) ?_
            exact ih18 z_30 z_29 gof_c_18 fn_22 go_wd_18 go_sk_18 _ _ ls hgof_c_18 (by first | omega | assumption) (by first | omega | assumption) (by omega) hP hD hS (lv_sub hl [0, 2, 1, 3, 4] rfl)
        · have ic_21 : 0 < (gof_c_18 (Int32.toNatClampNeg z_20)).toInt := k_nle c_21 rfl (by decide)
          refine lv_aload_n hx hb dX6_playRound_42 rfl (lv_at hl 4 rfl) ?_
          refine lv_iload hx hb dX6_playRound_43 (lv_at hl 0 rfl) ?_
          refine jwVI (wr := []) (As := [.int v4_18]) (rest := [.int v4_18, .ref o_ca]) F hE hP hD hS hA hl.1 hz hZ (cc_X6_takeTurn l D cy (Z := Z) (hz := hz) (TT := TT) (zt := zt) (o := o) (x0 := v4_18) (of := of) (o_ca := o_ca) (o_bo := o_bo) (o_gust := o_gust) (o_still := o_still) (o_rv := o_rv) (o_wd := o_wd) (o_sk := o_sk) (of_c := of_c) (g_of := gof_c_18) (g_oca := go_ca_18) (g_obo := g_obo) (g_owd := go_wd_18) (g_osk := go_sk_18) (h_g_of := hgof_c_18) (h_g_obo := h_g_obo) (hrv := (by first | omega | assumption)) (p0 := (by first | omega | assumption)) (p1 := (by first | omega | assumption))) q_m_X6_59 mv_X6_takeTurn ⟨(Nat.le_of_ble_eq_true rfl), (Nat.le_of_ble_eq_true rfl)⟩ [0, 1, 2, 3, 4, 5, 6] [] (by decide) rfl rfl (by decide) (by decide) rfl rfl rfl rfl rfl (Nat.le_of_ble_eq_true rfl) ⟨(Nat.le_of_ble_eq_true rfl), (Nat.le_of_ble_eq_true rfl)⟩ dX6_playRound_45 (fun r_32 u_31 H locs eu_31 hP hD hS => ?_)
          obtain ⟨g_of_33, g_owd_34, g_osk_35⟩ := u_31
          have eu_31 : FV g_of_33 := eu_31
          have hP : va_P D vwCl [(o, .inr (6, [.ref of, .ref o_ca, .ref o_bo, .int o_gust, .int o_still, o_rv, .ref o_wd, .ref o_sk])), (of, .inr (1, [.ref of_c])), (of_c, .inl (cy 0, 63, .inl g_of_33)), (o_ca, .inl (cy 0, 5, .inl go_ca_18)), (o_bo, .inl (cy 0, 5, .inl g_obo)), (o_wd, .inl (cy 1, 13, .inr (.inl g_owd_34))), (o_sk, .inl (cy 1, 64, .inr (.inl g_osk_35)))] H := hP
          have hD : va_D A [(o, .inr (6, [.ref of, .ref o_ca, .ref o_bo, .int o_gust, .int o_still, o_rv, .ref o_wd, .ref o_sk])), (of, .inr (1, [.ref of_c])), (of_c, .inl (cy 0, 63, .inl g_of_33)), (o_ca, .inl (cy 0, 5, .inl go_ca_18)), (o_bo, .inl (cy 0, 5, .inl g_obo)), (o_wd, .inl (cy 1, 13, .inr (.inl g_owd_34))), (o_sk, .inl (cy 1, 64, .inr (.inl g_osk_35)))] := hD
          obtain ⟨⟨b_36a, b_36b⟩, ⟨b_36c, b_36d⟩, ⟨b_36e, b_36f⟩⟩ := FV.bounds eu_31
          refine lv_goto (tgt := 53) hx hb dX6_playRound_48 (by decide) ?_
          refine va_iast hx hb hE.1 hP hD hS 3 0 rfl rfl (k_in (by omega)) dX6_playRound_53 (fun H locs hP hD hS => ?_)
          generalize upd go_ca_18 (Int32.toNatClampNeg v4_18) r_32 = fn_37 at hP hD
          have hP : va_P D vwCl [(o, .inr (6, [.ref of, .ref o_ca, .ref o_bo, .int o_gust, .int o_still, o_rv, .ref o_wd, .ref o_sk])), (of, .inr (1, [.ref of_c])), (of_c, .inl (cy 0, 63, .inl g_of_33)), (o_ca, .inl (cy 0, 5, .inl fn_37)), (o_bo, .inl (cy 0, 5, .inl g_obo)), (o_wd, .inl (cy 1, 13, .inr (.inl g_owd_34))), (o_sk, .inl (cy 1, 64, .inr (.inl g_osk_35)))] H := hP
          have hD : va_D A [(o, .inr (6, [.ref of, .ref o_ca, .ref o_bo, .int o_gust, .int o_still, o_rv, .ref o_wd, .ref o_sk])), (of, .inr (1, [.ref of_c])), (of_c, .inl (cy 0, 63, .inl g_of_33)), (o_ca, .inl (cy 0, 5, .inl fn_37)), (o_bo, .inl (cy 0, 5, .inl g_obo)), (o_wd, .inl (cy 1, 13, .inr (.inl g_owd_34))), (o_sk, .inl (cy 1, 64, .inr (.inl g_osk_35)))] := hD
          refine lv_aload_n hx hb dX6_playRound_54 rfl (lv_at hl 4 rfl) ?_
          refine va_get (D := D) (ci := 6) (v := .ref o_ca) (C := RX6) (T := TX6) (N := 8) hx hb hG inG_X6 hown hE.1 hP 0 rfl rfl 1 (by decide) (hG _ q_f_X6_18) (fun _ h9 => h9) rfl dX6_playRound_55 ?_
          refine lv_iload hx hb dX6_playRound_58 (lv_at hl 0 rfl) ?_
          refine va_iald hx hb hE.1 hP 3 0 rfl rfl (k_in (by omega)) dX6_playRound_60 ?_
          refine k_top (z := (fn_37 (Int32.toNatClampNeg v4_18))) rfl ?_
          refine lv_aload_n hx hb dX6_playRound_61 rfl (lv_at hl 3 rfl) ?_
          refine lv_bipush (v := 20) hx hb dX6_playRound_62 (by decide) ?_
          refine lv_aload_n hx hb dX6_playRound_64 rfl (lv_at hl 3 rfl) ?_
          refine lv_bipush (v := 38) hx hb dX6_playRound_65 (by decide) ?_
          refine lv_iload hx hb dX6_playRound_67 (lv_at hl 0 rfl) ?_
          refine lv_iadd hx hb dX6_playRound_69 ?_
          refine lv_topi (fun z_38 ez_38 => ?_)
          have iz_38 : z_38.toInt = 38 + v4_18.toInt := k_addI ez_38 (by decide) rfl (by omega)
          refine va_iald hx hb hE.1 hP 2 0 rfl rfl (k_in (by omega)) dX6_playRound_70 ?_
          refine k_top (z := (g_of_33 (Int32.toNatClampNeg z_38))) rfl ?_
          have ow_39 := FV.own eu_31 z_38 (by omega)
          refine lv_iadd hx hb dX6_playRound_71 ?_
          refine lv_topi (fun z_40 ez_40 => ?_)
          have iz_40 : z_40.toInt = 20 + (g_of_33 (Int32.toNatClampNeg z_38)).toInt := k_addI ez_40 (by decide) rfl (by omega)
          refine va_iald hx hb hE.1 hP 2 0 rfl rfl (k_in (by omega)) dX6_playRound_72 ?_
          refine k_top (z := (g_of_33 (Int32.toNatClampNeg z_40))) rfl ?_
          refine lv_icmp_ne (tgt := 83) hx hb dX6_playRound_73 (by decide) (fun c_41 => ?_) (fun c_41 => ?_)
          · have ic_41 : (fn_37 (Int32.toNatClampNeg v4_18)).toInt ≠ (g_of_33 (Int32.toNatClampNeg z_40)).toInt := k_ne c_41 rfl rfl
            obtain ⟨z_42, ez_42⟩ : ∃ y : Int32, y = v4_18 + Int32.ofInt 1 := ⟨_, rfl⟩
            have iz_42 : z_42.toInt = v4_18.toInt + 1 := k_addI ez_42 rfl (by decide) (by omega)
            refine lv_iinc (v := z_42) (lv' := [(4, .int z_42), (3, .int (g_of 6)), (2, .int v2_18), (1, .ref of_c), (0, .ref o)]) hx hb dX6_playRound_83 hl (k := 0) rfl ez_42.symm (by decide) rfl (fun ls hl => ?_)
            refine lv_goto (tgt := 18) hx hb dX6_playRound_86 (by decide) ?_
            exact ih18 z_42 v2_18 g_of_33 fn_37 g_owd_34 g_osk_35 _ _ ls eu_31 (by first | omega | assumption) (by first | omega | assumption) (by omega) hP hD hS (lv_sub hl [0, 1, 2, 3, 4] rfl)
          · have ic_41 : (fn_37 (Int32.toNatClampNeg v4_18)).toInt = (g_of_33 (Int32.toNatClampNeg z_40)).toInt := k_eq c_41 rfl rfl
            refine lv_iload_n hx hb dX6_playRound_76 rfl (lv_at hl 2 rfl) ?_
            refine lv_iconst (v := 1) hx hb dX6_playRound_77 (by decide) ?_
            refine lv_iload hx hb dX6_playRound_78 (lv_at hl 0 rfl) ?_
            refine lv_ishl hx hb dX6_playRound_80 ?_
            refine lv_topi (fun z_43 ez_43 => ?_)
            refine lv_ior hx hb dX6_playRound_81 ?_
            refine lv_topi (fun z_44 ez_44 => ?_)
            refine lv_istore_n (lv' := [(2, .int z_44), (4, .int v4_18), (3, .int (g_of 6)), (1, .ref of_c), (0, .ref o)]) hx hb dX6_playRound_82 rfl hl (by decide) rfl (fun ls hl => ?_)
            obtain ⟨z_45, ez_45⟩ : ∃ y : Int32, y = v4_18 + Int32.ofInt 1 := ⟨_, rfl⟩
            have iz_45 : z_45.toInt = v4_18.toInt + 1 := k_addI ez_45 rfl (by decide) (by omega)
            refine lv_iinc (v := z_45) (lv' := [(4, .int z_45), (2, .int z_44), (3, .int (g_of 6)), (1, .ref of_c), (0, .ref o)]) hx hb dX6_playRound_83 hl (k := 1) rfl ez_45.symm (by decide) rfl (fun ls hl => ?_)
            refine lv_goto (tgt := 18) hx hb dX6_playRound_86 (by decide) ?_
            exact ih18 z_45 z_44 g_of_33 fn_37 g_owd_34 g_osk_35 _ _ ls eu_31 (by first | omega | assumption) (by first | omega | assumption) (by omega) hP hD hS (lv_sub hl [0, 2, 1, 3, 4] rfl)
  have lt_46 : (0 : Int32).toInt = 0 := by decide
  exact lp18 100000 0 0 g_of g_oca g_owd g_osk _ _ ls h_g_of (by first | omega | assumption) (by first | omega | assumption) (by omega) hP hD hS hl

set_option maxHeartbeats 4000000 in
set_option maxRecDepth 100000 in
theorem cc_X6_playRounds (l : Launch) (D : va_G) (cy : Nat → ClassId) {Z : (Nat → Prop) → State → Heap → Prop} (hz : zOK Z) {TT : va_W} (zt : ∀ (A : Nat → Prop) (U : State) (H : Heap), Z A U H → va_P D vwCl TT H) (o : Nat) (of : Nat) (of_c : Nat) (g_of : Nat → Int32) (o_ca : Nat) (o_bo : Nat) (o_wd : Nat) (o_sk : Nat) (o_gust : Int32) (o_still : Int32) (o_rv : Value) (g_oca : Nat → Int32) (g_obo : Nat → Int32) (g_owd : Nat → Int64) (g_osk : Nat → Int64) (x0 : Int32) (h_g_of : FV g_of) (h_g_obo : PLV g_obo) (hrv : RIn TT (cy 0) o_rv) (p0 : 0 ≤ x0.toInt) (p1 : x0.toInt ≤ 100) : JV l yX6_playRounds cX6_playRounds 3 5 126 D (kTY cy) [.ref o, .int x0] [(o, .inr (6, [.ref of, .ref o_ca, .ref o_bo, .int o_gust, .int o_still, o_rv, .ref o_wd, .ref o_sk])), (of, .inr (1, [.ref of_c])), (of_c, .inl (cy 0, 63, .inl g_of)), (o_ca, .inl (cy 0, 5, .inl g_oca)), (o_bo, .inl (cy 0, 5, .inl g_obo)), (o_wd, .inl (cy 1, 13, .inr (.inl g_owd))), (o_sk, .inl (cy 1, 64, .inr (.inl g_osk)))] Z (S := (Nat → Int32) × Int32 × (Nat → Int32) × (Nat → Int64) × (Nat → Int64)) (fun u => FV (u.1)) (fun u => [(o, .inr (6, [.ref of, .ref o_ca, .ref o_bo, .int o_gust, .int (u.2.1), o_rv, .ref o_wd, .ref o_sk])), (of, .inr (1, [.ref of_c])), (of_c, .inl (cy 0, 63, .inl (u.1))), (o_ca, .inl (cy 0, 5, .inl (u.2.2.1))), (o_bo, .inl (cy 0, 5, .inl g_obo)), (o_wd, .inl (cy 1, 13, .inr (.inl (u.2.2.2.1)))), (o_sk, .inl (cy 1, 64, .inr (.inl (u.2.2.2.2))))]) 0 0 := by
  refine JV.of (by decide) (Nat.le_of_ble_eq_true rfl) (fun p e s m below meth c ls A F hin hE hP hD hA hS hl hZ => ?_)
  have F : kF p s m meth c cX6_playRounds 3 none _ RX6 := F
  obtain ⟨hx, hb, hr, hml, hown, hG, hlk⟩ := id F
  have hl : lv_has ls 3 [(0, .ref o), (1, .int x0)] := hl
  obtain ⟨⟨b_1a, b_1b⟩, ⟨b_1c, b_1d⟩, ⟨b_1e, b_1f⟩⟩ := FV.bounds h_g_of
  refine lv_iconst (v := 0) hx hb dX6_playRounds_0 (by decide) ?_
  refine lv_istore_n (lv' := [(2, .int 0), (0, .ref o), (1, .int x0)]) hx hb dX6_playRounds_1 rfl hl (by decide) rfl (fun ls hl => ?_)
  have lp2 : ∀ (fu : Nat) (v2_2 : Int32) (w4_o_2 : Int32) (gof_c_2 : Nat → Int32) (go_ca_2 : Nat → Int32) (go_wd_2 : Nat → Int64) (go_sk_2 : Nat → Int64) (H : Heap) (locs : List Loc) (ls : Array Slot), FV gof_c_2 → (0 ≤ v2_2.toInt) → (v2_2.toInt ≤ x0.toInt) → x0.toInt - v2_2.toInt < (fu : Int) → va_P D vwCl [(o, .inr (6, [.ref of, .ref o_ca, .ref o_bo, .int o_gust, .int w4_o_2, o_rv, .ref o_wd, .ref o_sk])), (of, .inr (1, [.ref of_c])), (of_c, .inl (cy 0, 63, .inl gof_c_2)), (o_ca, .inl (cy 0, 5, .inl go_ca_2)), (o_bo, .inl (cy 0, 5, .inl g_obo)), (o_wd, .inl (cy 1, 13, .inr (.inl go_wd_2))), (o_sk, .inl (cy 1, 64, .inr (.inl go_sk_2)))] H → va_D A [(o, .inr (6, [.ref of, .ref o_ca, .ref o_bo, .int o_gust, .int w4_o_2, o_rv, .ref o_wd, .ref o_sk])), (of, .inr (1, [.ref of_c])), (of_c, .inl (cy 0, 63, .inl gof_c_2)), (o_ca, .inl (cy 0, 5, .inl go_ca_2)), (o_bo, .inl (cy 0, 5, .inl g_obo)), (o_wd, .inl (cy 1, 13, .inr (.inl go_wd_2))), (o_sk, .inl (cy 1, 64, .inr (.inl go_sk_2)))] → va_S A s.heap H locs → lv_has ls 3 [(2, .int v2_2), (0, .ref o), (1, .int x0)] → W p l e (kRm 5 126 0 0) s m ([.ref o, .int x0] : List Value).toArray below meth c H locs 0 0 (MQ below (va_Qv (S := (Nat → Int32) × Int32 × (Nat → Int32) × (Nat → Int64) × (Nat → Int64)) (fun u => FV (u.1)) (kBw D A (fun u => [(o, .inr (6, [.ref of, .ref o_ca, .ref o_bo, .int o_gust, .int (u.2.1), o_rv, .ref o_wd, .ref o_sk])), (of, .inr (1, [.ref of_c])), (of_c, .inl (cy 0, 63, .inl (u.1))), (o_ca, .inl (cy 0, 5, .inl (u.2.2.1))), (o_bo, .inl (cy 0, 5, .inl g_obo)), (o_wd, .inl (cy 1, 13, .inr (.inl (u.2.2.2.1)))), (o_sk, .inl (cy 1, 64, .inr (.inl (u.2.2.2.2))))])) A) ([.ref o, .int x0] : List Value).toArray s 0 0 A) (F0 m 2 ls []) := by
    intro fu2
    induction fu2 with
    | zero =>
      intro v2_2 w4_o_2 gof_c_2 go_ca_2 go_wd_2 go_sk_2 H locs ls hgof_c_2 j0_2 j1_2 hm2 hP hD hS hl
      exact absurd hm2 (by omega)
    | succ fu2 ih2 =>
      intro v2_2 w4_o_2 gof_c_2 go_ca_2 go_wd_2 go_sk_2 H locs ls hgof_c_2 j0_2 j1_2 hm2 hP hD hS hl
      obtain ⟨⟨b_2a, b_2b⟩, ⟨b_2c, b_2d⟩, ⟨b_2e, b_2f⟩⟩ := FV.bounds hgof_c_2
      refine lv_iload_n hx hb dX6_playRounds_2 rfl (lv_at hl 0 rfl) ?_
      refine lv_iload_n hx hb dX6_playRounds_3 rfl (lv_at hl 2 rfl) ?_
      refine lv_icmp_ge (tgt := 25) hx hb dX6_playRounds_4 (by decide) (fun c_3 => ?_) (fun c_3 => ?_)
      · have ic_3 : x0.toInt ≤ v2_2.toInt := k_le c_3 rfl rfl
        exact KV.rt ⟨gof_c_2, w4_o_2, go_ca_2, go_wd_2, go_sk_2⟩ F (hP.sub [0, 1, 2, 3, 4, 5, 6] rfl) (hD.sub [0, 1, 2, 3, 4, 5, 6] (by decide) rfl) hS (show FV gof_c_2 from hgof_c_2) (Nat.le_of_ble_eq_true rfl) (Nat.le_of_ble_eq_true rfl) dX6_playRounds_25
      · have ic_3 : v2_2.toInt < x0.toInt := k_nle c_3 rfl rfl
        refine lv_aload_n hx hb dX6_playRounds_7 rfl (lv_at hl 1 rfl) ?_
        refine va_get (D := D) (ci := 6) (v := .int w4_o_2) (C := RX6) (T := TX6) (N := 8) hx hb hG inG_X6 hown hE.1 hP 0 rfl rfl 4 (by decide) (hG _ q_f_X6_29) (fun _ h9 => h9) rfl dX6_playRounds_8 ?_
        refine lv_if_ne (tgt := 25) hx hb dX6_playRounds_11 (by decide) (fun c_4 => ?_) (fun c_4 => ?_)
        · have ic_4 : w4_o_2.toInt ≠ 0 := k_ne c_4 rfl (by decide)
          exact KV.rt ⟨gof_c_2, w4_o_2, go_ca_2, go_wd_2, go_sk_2⟩ F (hP.sub [0, 1, 2, 3, 4, 5, 6] rfl) (hD.sub [0, 1, 2, 3, 4, 5, 6] (by decide) rfl) hS (show FV gof_c_2 from hgof_c_2) (Nat.le_of_ble_eq_true rfl) (Nat.le_of_ble_eq_true rfl) dX6_playRounds_25
        · have ic_4 : w4_o_2.toInt = 0 := k_eq c_4 rfl (by decide)
          refine lv_aload_n hx hb dX6_playRounds_14 rfl (lv_at hl 1 rfl) ?_
          refine jwVI (wr := []) (As := []) (rest := []) F hE hP hD hS hA hl.1 hz hZ (cc_X6_playRound l D cy (Z := Z) (hz := hz) (TT := TT) (zt := zt) (o := o) (of := of) (o_ca := o_ca) (o_bo := o_bo) (o_gust := o_gust) (o_still := w4_o_2) (o_rv := o_rv) (o_wd := o_wd) (o_sk := o_sk) (of_c := of_c) (g_of := gof_c_2) (g_oca := go_ca_2) (g_obo := g_obo) (g_owd := go_wd_2) (g_osk := go_sk_2) (h_g_of := hgof_c_2) (h_g_obo := h_g_obo) (hrv := (by first | omega | assumption))) q_m_X6_69 mv_X6_playRound ⟨(Nat.le_of_ble_eq_true rfl), (Nat.le_of_ble_eq_true rfl)⟩ [0, 1, 2, 3, 4, 5, 6] [] (by decide) rfl rfl (by decide) (by decide) rfl rfl rfl rfl rfl (Nat.le_of_ble_eq_true rfl) ⟨(Nat.le_of_ble_eq_true rfl), (Nat.le_of_ble_eq_true rfl)⟩ dX6_playRounds_15 (fun r_6 u_5 H locs eu_5 hP hD hS => ?_)
          obtain ⟨g_of_7, o_still_8, g_oca_9, g_owd_10, g_osk_11⟩ := u_5
          have eu_5 : FV g_of_7 := eu_5
          have hP : va_P D vwCl [(o, .inr (6, [.ref of, .ref o_ca, .ref o_bo, .int o_gust, .int o_still_8, o_rv, .ref o_wd, .ref o_sk])), (of, .inr (1, [.ref of_c])), (of_c, .inl (cy 0, 63, .inl g_of_7)), (o_ca, .inl (cy 0, 5, .inl g_oca_9)), (o_bo, .inl (cy 0, 5, .inl g_obo)), (o_wd, .inl (cy 1, 13, .inr (.inl g_owd_10))), (o_sk, .inl (cy 1, 64, .inr (.inl g_osk_11)))] H := hP
          have hD : va_D A [(o, .inr (6, [.ref of, .ref o_ca, .ref o_bo, .int o_gust, .int o_still_8, o_rv, .ref o_wd, .ref o_sk])), (of, .inr (1, [.ref of_c])), (of_c, .inl (cy 0, 63, .inl g_of_7)), (o_ca, .inl (cy 0, 5, .inl g_oca_9)), (o_bo, .inl (cy 0, 5, .inl g_obo)), (o_wd, .inl (cy 1, 13, .inr (.inl g_owd_10))), (o_sk, .inl (cy 1, 64, .inr (.inl g_osk_11)))] := hD
          obtain ⟨⟨b_12a, b_12b⟩, ⟨b_12c, b_12d⟩, ⟨b_12e, b_12f⟩⟩ := FV.bounds eu_5
          refine lv_pop hx hb dX6_playRounds_18 rfl ?_
          obtain ⟨z_13, ez_13⟩ : ∃ y : Int32, y = v2_2 + Int32.ofInt 1 := ⟨_, rfl⟩
          have iz_13 : z_13.toInt = v2_2.toInt + 1 := k_addI ez_13 rfl (by decide) (by omega)
          refine lv_iinc (v := z_13) (lv' := [(2, .int z_13), (0, .ref o), (1, .int x0)]) hx hb dX6_playRounds_19 hl (k := 0) rfl ez_13.symm (by decide) rfl (fun ls hl => ?_)
          refine lv_goto (tgt := 2) hx hb dX6_playRounds_22 (by decide) ?_
          exact ih2 z_13 o_still_8 g_of_7 g_oca_9 g_owd_10 g_osk_11 _ _ ls eu_5 (by first | omega | assumption) (by first | omega | assumption) (by omega) hP hD hS (lv_sub hl [0, 1, 2] rfl)
  have lt_14 : (0 : Int32).toInt = 0 := by decide
  exact lp2 100000 0 o_still g_of g_oca g_owd g_osk _ _ ls h_g_of (by first | omega | assumption) (by first | omega | assumption) (by omega) hP hD hS hl

set_option maxHeartbeats 4000000 in
set_option maxRecDepth 100000 in
theorem cc_startFromN (l : Launch) (D : va_G) (cy : Nat → ClassId) {Z : (Nat → Prop) → State → Heap → Prop} (hz : zOK Z) {TT : va_W} (zt : ∀ (A : Nat → Prop) (U : State) (H : Heap), Z A U H → va_P D vwCl TT H) (o : Nat) (of : Nat) (of_c : Nat) (g_of : Nat → Int32) (o_ca : Nat) (o_bo : Nat) (o_wd : Nat) (o_sk : Nat) (o_gust : Int32) (o_still : Int32) (o_rv : Value) (g_oca : Nat → Int32) (g_obo : Nat → Int32) (g_owd : Nat → Int64) (g_osk : Nat → Int64) (q : Nat) (q_c : Nat) (g_q : Nat → Int32) (h_g_of : FV g_of) (h_g_obo : PLV g_obo) (h_g_q : FV g_q) : JV l yX6_startFrom cX6_startFrom 3 2 61 D (kTY cy) [.ref o, .ref q, .null] [(o, .inr (6, [.ref of, .ref o_ca, .ref o_bo, .int o_gust, .int o_still, o_rv, .ref o_wd, .ref o_sk])), (of, .inr (1, [.ref of_c])), (of_c, .inl (cy 0, 63, .inl g_of)), (o_ca, .inl (cy 0, 5, .inl g_oca)), (o_bo, .inl (cy 0, 5, .inl g_obo)), (o_wd, .inl (cy 1, 13, .inr (.inl g_owd))), (o_sk, .inl (cy 1, 64, .inr (.inl g_osk))), (q, .inr (1, [.ref q_c])), (q_c, .inl (cy 0, 63, .inl g_q))] Z (S := (Nat → Int32) × Int32 × Int32 × Value × (Nat → Int32)) (fun u => FV (u.1) ∧ PLV (u.2.2.2.2) ∧ (RIn TT (cy 0) (u.2.2.2.1))) (fun u => [(o, .inr (6, [.ref of, .ref o_ca, .ref o_bo, .int (u.2.1), .int (u.2.2.1), (u.2.2.2.1), .ref o_wd, .ref o_sk])), (of, .inr (1, [.ref of_c])), (of_c, .inl (cy 0, 63, .inl (u.1))), (o_ca, .inl (cy 0, 5, .inl g_oca)), (o_bo, .inl (cy 0, 5, .inl (u.2.2.2.2))), (o_wd, .inl (cy 1, 13, .inr (.inl g_owd))), (o_sk, .inl (cy 1, 64, .inr (.inl g_osk))), (q, .inr (1, [.ref q_c])), (q_c, .inl (cy 0, 63, .inl g_q))]) 0 0 := by
  refine JV.of (by decide) (Nat.le_of_ble_eq_true rfl) (fun p e s m below meth c ls A F hin hE hP hD hA hS hl hZ => ?_)
  have F : kF p s m meth c cX6_startFrom 3 none _ RX6 := F
  obtain ⟨hx, hb, hr, hml, hown, hG, hlk⟩ := id F
  have hl : lv_has ls 3 [(0, .ref o), (1, .ref q), (2, .null)] := hl
  obtain ⟨⟨b_1a, b_1b⟩, ⟨b_1c, b_1d⟩, ⟨b_1e, b_1f⟩⟩ := FV.bounds h_g_of
  obtain ⟨⟨b_2a, b_2b⟩, ⟨b_2c, b_2d⟩, ⟨b_2e, b_2f⟩⟩ := FV.bounds h_g_q
  refine lv_aload_n hx hb dX6_startFrom_0 rfl (lv_at hl 0 rfl) ?_
  refine va_get (D := D) (ci := 6) (v := .ref of) (C := RX6) (T := TX6) (N := 8) hx hb hG inG_X6 hown hE.1 hP 0 rfl rfl 0 (by decide) (hG _ q_f_X6_12) (fun _ h9 => h9) rfl dX6_startFrom_1 ?_
  refine lv_aload_n hx hb dX6_startFrom_4 rfl (lv_at hl 1 rfl) ?_
  refine kwVV (wr := [(o, .inr (6, [.ref of, .ref o_ca, .ref o_bo, .int o_gust, .int o_still, o_rv, .ref o_wd, .ref o_sk])), (o_ca, .inl (cy 0, 5, .inl g_oca)), (o_bo, .inl (cy 0, 5, .inl g_obo)), (o_wd, .inl (cy 1, 13, .inr (.inl g_owd))), (o_sk, .inl (cy 1, 64, .inr (.inl g_osk)))]) (As := [.ref q]) (rest := []) F hE hP hD hS hA hl.1 (cc_X1_copyFrom l D cy (o := of) (q := q) (o_c := of_c) (g_o := g_of) (q_c := q_c) (g_q := g_q) (h_g_o := h_g_of) (h_g_q := h_g_q)) q_m_X6_46 mv_X1_copyFrom ⟨(Nat.le_of_ble_eq_true rfl), (Nat.le_of_ble_eq_true rfl)⟩ [1, 2, 7, 8] [0, 3, 4, 5, 6] (by decide) rfl rfl (by decide) (by decide) rfl rfl rfl rfl rfl (Nat.le_of_ble_eq_true rfl) ⟨(Nat.le_of_ble_eq_true rfl), (Nat.le_of_ble_eq_true rfl)⟩ dX6_startFrom_5 (fun u_3 H locs eu_3 hP hD hS => ?_)
  have eu_3 : FV u_3 := eu_3
  have hP : va_P D vwCl [(o, .inr (6, [.ref of, .ref o_ca, .ref o_bo, .int o_gust, .int o_still, o_rv, .ref o_wd, .ref o_sk])), (o_ca, .inl (cy 0, 5, .inl g_oca)), (o_bo, .inl (cy 0, 5, .inl g_obo)), (o_wd, .inl (cy 1, 13, .inr (.inl g_owd))), (o_sk, .inl (cy 1, 64, .inr (.inl g_osk))), (of, .inr (1, [.ref of_c])), (of_c, .inl (cy 0, 63, .inl u_3)), (q, .inr (1, [.ref q_c])), (q_c, .inl (cy 0, 63, .inl g_q))] H := hP
  have hD : va_D A [(o, .inr (6, [.ref of, .ref o_ca, .ref o_bo, .int o_gust, .int o_still, o_rv, .ref o_wd, .ref o_sk])), (o_ca, .inl (cy 0, 5, .inl g_oca)), (o_bo, .inl (cy 0, 5, .inl g_obo)), (o_wd, .inl (cy 1, 13, .inr (.inl g_owd))), (o_sk, .inl (cy 1, 64, .inr (.inl g_osk))), (of, .inr (1, [.ref of_c])), (of_c, .inl (cy 0, 63, .inl u_3)), (q, .inr (1, [.ref q_c])), (q_c, .inl (cy 0, 63, .inl g_q))] := hD
  obtain ⟨⟨b_5a, b_5b⟩, ⟨b_5c, b_5d⟩, ⟨b_5e, b_5f⟩⟩ := FV.bounds eu_3
  refine lv_aload_n hx hb dX6_startFrom_8 rfl (lv_at hl 0 rfl) ?_
  refine lv_aload_nN hx hb dX6_startFrom_9 rfl (lv_at hl 2 rfl) ?_
  refine va_put (D := D) (ci := 6) (v := .null) (ty := .object "StrawButts$Rule") (C := RX6) (T := TX6) (N := 8) hx hb hG inG_X6 tyX6 tyX6_ok nmX6 hown hE.1 hP hD hS 0 rfl rfl 5 (by decide) (hG _ q_f_X6_33) (fun _ h9 => h9) rfl (by decide +kernel) rfl rfl (Nat.le_of_ble_eq_true rfl) dX6_startFrom_10 (fun H locs hP hD hS => ?_)
  have hP : va_P D vwCl [(o, .inr (6, [.ref of, .ref o_ca, .ref o_bo, .int o_gust, .int o_still, .null, .ref o_wd, .ref o_sk])), (o_ca, .inl (cy 0, 5, .inl g_oca)), (o_bo, .inl (cy 0, 5, .inl g_obo)), (o_wd, .inl (cy 1, 13, .inr (.inl g_owd))), (o_sk, .inl (cy 1, 64, .inr (.inl g_osk))), (of, .inr (1, [.ref of_c])), (of_c, .inl (cy 0, 63, .inl u_3)), (q, .inr (1, [.ref q_c])), (q_c, .inl (cy 0, 63, .inl g_q))] H := hP
  have hD : va_D A [(o, .inr (6, [.ref of, .ref o_ca, .ref o_bo, .int o_gust, .int o_still, .null, .ref o_wd, .ref o_sk])), (o_ca, .inl (cy 0, 5, .inl g_oca)), (o_bo, .inl (cy 0, 5, .inl g_obo)), (o_wd, .inl (cy 1, 13, .inr (.inl g_owd))), (o_sk, .inl (cy 1, 64, .inr (.inl g_osk))), (of, .inr (1, [.ref of_c])), (of_c, .inl (cy 0, 63, .inl u_3)), (q, .inr (1, [.ref q_c])), (q_c, .inl (cy 0, 63, .inl g_q))] := hD
  refine lv_aload_n hx hb dX6_startFrom_13 rfl (lv_at hl 0 rfl) ?_
  refine lv_iconst (v := (-1)) hx hb dX6_startFrom_14 (by decide) ?_
  refine va_put (D := D) (ci := 6) (v := .int (-1)) (ty := .int) (C := RX6) (T := TX6) (N := 8) hx hb hG inG_X6 tyX6 tyX6_ok nmX6 hown hE.1 hP hD hS 0 rfl rfl 3 (by decide) (hG _ q_f_X6_25) (fun _ h9 => h9) rfl (by decide +kernel) rfl rfl (Nat.le_of_ble_eq_true rfl) dX6_startFrom_15 (fun H locs hP hD hS => ?_)
  have hP : va_P D vwCl [(o, .inr (6, [.ref of, .ref o_ca, .ref o_bo, .int (-1), .int o_still, .null, .ref o_wd, .ref o_sk])), (o_ca, .inl (cy 0, 5, .inl g_oca)), (o_bo, .inl (cy 0, 5, .inl g_obo)), (o_wd, .inl (cy 1, 13, .inr (.inl g_owd))), (o_sk, .inl (cy 1, 64, .inr (.inl g_osk))), (of, .inr (1, [.ref of_c])), (of_c, .inl (cy 0, 63, .inl u_3)), (q, .inr (1, [.ref q_c])), (q_c, .inl (cy 0, 63, .inl g_q))] H := hP
  have hD : va_D A [(o, .inr (6, [.ref of, .ref o_ca, .ref o_bo, .int (-1), .int o_still, .null, .ref o_wd, .ref o_sk])), (o_ca, .inl (cy 0, 5, .inl g_oca)), (o_bo, .inl (cy 0, 5, .inl g_obo)), (o_wd, .inl (cy 1, 13, .inr (.inl g_owd))), (o_sk, .inl (cy 1, 64, .inr (.inl g_osk))), (of, .inr (1, [.ref of_c])), (of_c, .inl (cy 0, 63, .inl u_3)), (q, .inr (1, [.ref q_c])), (q_c, .inl (cy 0, 63, .inl g_q))] := hD
  refine lv_aload_n hx hb dX6_startFrom_18 rfl (lv_at hl 0 rfl) ?_
  refine lv_iconst (v := 0) hx hb dX6_startFrom_19 (by decide) ?_
  refine va_put (D := D) (ci := 6) (v := .int 0) (ty := .boolean) (C := RX6) (T := TX6) (N := 8) hx hb hG inG_X6 tyX6 tyX6_ok nmX6 hown hE.1 hP hD hS 0 rfl rfl 4 (by decide) (hG _ q_f_X6_29) (fun _ h9 => h9) rfl (by decide +kernel) rfl rfl (Nat.le_of_ble_eq_true rfl) dX6_startFrom_20 (fun H locs hP hD hS => ?_)
  have hP : va_P D vwCl [(o, .inr (6, [.ref of, .ref o_ca, .ref o_bo, .int (-1), .int 0, .null, .ref o_wd, .ref o_sk])), (o_ca, .inl (cy 0, 5, .inl g_oca)), (o_bo, .inl (cy 0, 5, .inl g_obo)), (o_wd, .inl (cy 1, 13, .inr (.inl g_owd))), (o_sk, .inl (cy 1, 64, .inr (.inl g_osk))), (of, .inr (1, [.ref of_c])), (of_c, .inl (cy 0, 63, .inl u_3)), (q, .inr (1, [.ref q_c])), (q_c, .inl (cy 0, 63, .inl g_q))] H := hP
  have hD : va_D A [(o, .inr (6, [.ref of, .ref o_ca, .ref o_bo, .int (-1), .int 0, .null, .ref o_wd, .ref o_sk])), (o_ca, .inl (cy 0, 5, .inl g_oca)), (o_bo, .inl (cy 0, 5, .inl g_obo)), (o_wd, .inl (cy 1, 13, .inr (.inl g_owd))), (o_sk, .inl (cy 1, 64, .inr (.inl g_osk))), (of, .inr (1, [.ref of_c])), (of_c, .inl (cy 0, 63, .inl u_3)), (q, .inr (1, [.ref q_c])), (q_c, .inl (cy 0, 63, .inl g_q))] := hD
  refine lv_aload_n hx hb dX6_startFrom_23 rfl (lv_at hl 0 rfl) ?_
  refine va_get (D := D) (ci := 6) (v := .ref o_bo) (C := RX6) (T := TX6) (N := 8) hx hb hG inG_X6 hown hE.1 hP 0 rfl rfl 2 (by decide) (hG _ q_f_X6_22) (fun _ h9 => h9) rfl dX6_startFrom_24 ?_
  refine lv_iconst (v := (-1)) hx hb dX6_startFrom_27 (by decide) ?_
  refine kwSV (wr := [(o, .inr (6, [.ref of, .ref o_ca, .ref o_bo, .int (-1), .int 0, .null, .ref o_wd, .ref o_sk])), (o_ca, .inl (cy 0, 5, .inl g_oca)), (o_wd, .inl (cy 1, 13, .inr (.inl g_owd))), (o_sk, .inl (cy 1, 64, .inr (.inl g_osk))), (of, .inr (1, [.ref of_c])), (of_c, .inl (cy 0, 63, .inl u_3)), (q, .inr (1, [.ref q_c])), (q_c, .inl (cy 0, 63, .inl g_q))]) (As := [.ref o_bo, .int (-1)]) (rest := []) F hE hP hD hS hA hl.1 (c_fill l D cy (q := o_bo) (n := 5) (hn := by decide) (f := g_obo) (v := (-1))) q_m_X6_50 ms_J7_fill_53178 ⟨(Nat.le_of_ble_eq_true rfl), (Nat.le_of_ble_eq_true rfl)⟩ [2] [0, 1, 3, 4, 5, 6, 7, 8] (by decide) rfl rfl (by decide) (by decide) rfl rfl (Nat.le_of_ble_eq_true rfl) ⟨(Nat.le_of_ble_eq_true rfl), (Nat.le_of_ble_eq_true rfl)⟩ dX6_startFrom_28 (fun u_6 H locs eu_6 hP hD hS => ?_)
  have hP : va_P D vwCl [(o, .inr (6, [.ref of, .ref o_ca, .ref o_bo, .int (-1), .int 0, .null, .ref o_wd, .ref o_sk])), (o_ca, .inl (cy 0, 5, .inl g_oca)), (o_wd, .inl (cy 1, 13, .inr (.inl g_owd))), (o_sk, .inl (cy 1, 64, .inr (.inl g_osk))), (of, .inr (1, [.ref of_c])), (of_c, .inl (cy 0, 63, .inl u_3)), (q, .inr (1, [.ref q_c])), (q_c, .inl (cy 0, 63, .inl g_q)), (o_bo, .inl (cy 0, 5, .inl u_6))] H := hP
  have hD : va_D A [(o, .inr (6, [.ref of, .ref o_ca, .ref o_bo, .int (-1), .int 0, .null, .ref o_wd, .ref o_sk])), (o_ca, .inl (cy 0, 5, .inl g_oca)), (o_wd, .inl (cy 1, 13, .inr (.inl g_owd))), (o_sk, .inl (cy 1, 64, .inr (.inl g_osk))), (of, .inr (1, [.ref of_c])), (of_c, .inl (cy 0, 63, .inl u_3)), (q, .inr (1, [.ref q_c])), (q_c, .inl (cy 0, 63, .inl g_q)), (o_bo, .inl (cy 0, 5, .inl u_6))] := hD
  have hu_6 : PLV u_6 := fun j hj => by rw [eu_6 j hj]; decide
  have lito_gust : ((-1) : Int32).toInt = (-1) := by decide
  have lito_still : (0 : Int32).toInt = 0 := by decide
  exact KV.rt ⟨u_3, (-1), 0, (Value.null), u_6⟩ F (hP.sub [0, 4, 5, 1, 8, 2, 3, 6, 7] rfl) (hD.sub [0, 4, 5, 1, 8, 2, 3, 6, 7] (by decide) rfl) hS (show FV u_3 ∧ PLV u_6 ∧ (RIn TT (cy 0) (Value.null)) from ⟨eu_3, hu_6, (by first | exact Or.inl rfl | exact Or.inr ⟨r, st, ra, rn, rg, ri, rj, rfl, hTi, hTj, hn4, hg⟩)⟩) (Nat.le_of_ble_eq_true rfl) (Nat.le_of_ble_eq_true rfl) dX6_startFrom_31

set_option maxHeartbeats 4000000 in
set_option maxRecDepth 100000 in
theorem cc_startFromR (l : Launch) (D : va_G) (cy : Nat → ClassId) {Z : (Nat → Prop) → State → Heap → Prop} (hz : zOK Z) {TT : va_W} (zt : ∀ (A : Nat → Prop) (U : State) (H : Heap), Z A U H → va_P D vwCl TT H) (o : Nat) (of : Nat) (of_c : Nat) (g_of : Nat → Int32) (o_ca : Nat) (o_bo : Nat) (o_wd : Nat) (o_sk : Nat) (o_gust : Int32) (o_still : Int32) (o_rv : Value) (g_oca : Nat → Int32) (g_obo : Nat → Int32) (g_owd : Nat → Int64) (g_osk : Nat → Int64) (q : Nat) (q_c : Nat) (g_q : Nat → Int32) (r : Nat) (st : Nat) (ra : Int32) (rn : Nat) (rg : Nat → Int32) (ri : Nat) (rj : Nat) (h_g_of : FV g_of) (h_g_obo : PLV g_obo) (h_g_q : FV g_q) (hTi : TT[ri]? = some (r, .inr (7, [.ref st, .int ra]))) (hTj : TT[rj]? = some (st, .inl (cy 0, rn, .inl rg))) (hn4 : rn ≤ 412) (hg : ∀ k : Nat, k < rn → 0 ≤ (rg k).toInt) : JV l yX6_startFrom cX6_startFrom 3 2 61 D (kTY cy) [.ref o, .ref q, .ref r] [(o, .inr (6, [.ref of, .ref o_ca, .ref o_bo, .int o_gust, .int o_still, o_rv, .ref o_wd, .ref o_sk])), (of, .inr (1, [.ref of_c])), (of_c, .inl (cy 0, 63, .inl g_of)), (o_ca, .inl (cy 0, 5, .inl g_oca)), (o_bo, .inl (cy 0, 5, .inl g_obo)), (o_wd, .inl (cy 1, 13, .inr (.inl g_owd))), (o_sk, .inl (cy 1, 64, .inr (.inl g_osk))), (q, .inr (1, [.ref q_c])), (q_c, .inl (cy 0, 63, .inl g_q))] Z (S := (Nat → Int32) × Int32 × Int32 × Value × (Nat → Int32)) (fun u => FV (u.1) ∧ PLV (u.2.2.2.2) ∧ (RIn TT (cy 0) (u.2.2.2.1))) (fun u => [(o, .inr (6, [.ref of, .ref o_ca, .ref o_bo, .int (u.2.1), .int (u.2.2.1), (u.2.2.2.1), .ref o_wd, .ref o_sk])), (of, .inr (1, [.ref of_c])), (of_c, .inl (cy 0, 63, .inl (u.1))), (o_ca, .inl (cy 0, 5, .inl g_oca)), (o_bo, .inl (cy 0, 5, .inl (u.2.2.2.2))), (o_wd, .inl (cy 1, 13, .inr (.inl g_owd))), (o_sk, .inl (cy 1, 64, .inr (.inl g_osk))), (q, .inr (1, [.ref q_c])), (q_c, .inl (cy 0, 63, .inl g_q))]) 0 0 := by
  refine JV.of (by decide) (Nat.le_of_ble_eq_true rfl) (fun p e s m below meth c ls A F hin hE hP hD hA hS hl hZ => ?_)
  have F : kF p s m meth c cX6_startFrom 3 none _ RX6 := F
  obtain ⟨hx, hb, hr, hml, hown, hG, hlk⟩ := id F
  have hl : lv_has ls 3 [(0, .ref o), (1, .ref q), (2, .ref r)] := hl
  obtain ⟨⟨b_1a, b_1b⟩, ⟨b_1c, b_1d⟩, ⟨b_1e, b_1f⟩⟩ := FV.bounds h_g_of
  obtain ⟨⟨b_2a, b_2b⟩, ⟨b_2c, b_2d⟩, ⟨b_2e, b_2f⟩⟩ := FV.bounds h_g_q
  refine lv_aload_n hx hb dX6_startFrom_0 rfl (lv_at hl 0 rfl) ?_
  refine va_get (D := D) (ci := 6) (v := .ref of) (C := RX6) (T := TX6) (N := 8) hx hb hG inG_X6 hown hE.1 hP 0 rfl rfl 0 (by decide) (hG _ q_f_X6_12) (fun _ h9 => h9) rfl dX6_startFrom_1 ?_
  refine lv_aload_n hx hb dX6_startFrom_4 rfl (lv_at hl 1 rfl) ?_
  refine kwVV (wr := [(o, .inr (6, [.ref of, .ref o_ca, .ref o_bo, .int o_gust, .int o_still, o_rv, .ref o_wd, .ref o_sk])), (o_ca, .inl (cy 0, 5, .inl g_oca)), (o_bo, .inl (cy 0, 5, .inl g_obo)), (o_wd, .inl (cy 1, 13, .inr (.inl g_owd))), (o_sk, .inl (cy 1, 64, .inr (.inl g_osk)))]) (As := [.ref q]) (rest := []) F hE hP hD hS hA hl.1 (cc_X1_copyFrom l D cy (o := of) (q := q) (o_c := of_c) (g_o := g_of) (q_c := q_c) (g_q := g_q) (h_g_o := h_g_of) (h_g_q := h_g_q)) q_m_X6_46 mv_X1_copyFrom ⟨(Nat.le_of_ble_eq_true rfl), (Nat.le_of_ble_eq_true rfl)⟩ [1, 2, 7, 8] [0, 3, 4, 5, 6] (by decide) rfl rfl (by decide) (by decide) rfl rfl rfl rfl rfl (Nat.le_of_ble_eq_true rfl) ⟨(Nat.le_of_ble_eq_true rfl), (Nat.le_of_ble_eq_true rfl)⟩ dX6_startFrom_5 (fun u_3 H locs eu_3 hP hD hS => ?_)
  have eu_3 : FV u_3 := eu_3
  have hP : va_P D vwCl [(o, .inr (6, [.ref of, .ref o_ca, .ref o_bo, .int o_gust, .int o_still, o_rv, .ref o_wd, .ref o_sk])), (o_ca, .inl (cy 0, 5, .inl g_oca)), (o_bo, .inl (cy 0, 5, .inl g_obo)), (o_wd, .inl (cy 1, 13, .inr (.inl g_owd))), (o_sk, .inl (cy 1, 64, .inr (.inl g_osk))), (of, .inr (1, [.ref of_c])), (of_c, .inl (cy 0, 63, .inl u_3)), (q, .inr (1, [.ref q_c])), (q_c, .inl (cy 0, 63, .inl g_q))] H := hP
  have hD : va_D A [(o, .inr (6, [.ref of, .ref o_ca, .ref o_bo, .int o_gust, .int o_still, o_rv, .ref o_wd, .ref o_sk])), (o_ca, .inl (cy 0, 5, .inl g_oca)), (o_bo, .inl (cy 0, 5, .inl g_obo)), (o_wd, .inl (cy 1, 13, .inr (.inl g_owd))), (o_sk, .inl (cy 1, 64, .inr (.inl g_osk))), (of, .inr (1, [.ref of_c])), (of_c, .inl (cy 0, 63, .inl u_3)), (q, .inr (1, [.ref q_c])), (q_c, .inl (cy 0, 63, .inl g_q))] := hD
  obtain ⟨⟨b_5a, b_5b⟩, ⟨b_5c, b_5d⟩, ⟨b_5e, b_5f⟩⟩ := FV.bounds eu_3
  refine lv_aload_n hx hb dX6_startFrom_8 rfl (lv_at hl 0 rfl) ?_
  refine lv_aload_n hx hb dX6_startFrom_9 rfl (lv_at hl 2 rfl) ?_
  refine va_put (D := D) (ci := 6) (v := .ref r) (ty := .object "StrawButts$Rule") (C := RX6) (T := TX6) (N := 8) hx hb hG inG_X6 tyX6 tyX6_ok nmX6 hown hE.1 hP hD hS 0 rfl rfl 5 (by decide) (hG _ q_f_X6_33) (fun _ h9 => h9) rfl (by decide +kernel) rfl rfl (Nat.le_of_ble_eq_true rfl) dX6_startFrom_10 (fun H locs hP hD hS => ?_)
  have hP : va_P D vwCl [(o, .inr (6, [.ref of, .ref o_ca, .ref o_bo, .int o_gust, .int o_still, .ref r, .ref o_wd, .ref o_sk])), (o_ca, .inl (cy 0, 5, .inl g_oca)), (o_bo, .inl (cy 0, 5, .inl g_obo)), (o_wd, .inl (cy 1, 13, .inr (.inl g_owd))), (o_sk, .inl (cy 1, 64, .inr (.inl g_osk))), (of, .inr (1, [.ref of_c])), (of_c, .inl (cy 0, 63, .inl u_3)), (q, .inr (1, [.ref q_c])), (q_c, .inl (cy 0, 63, .inl g_q))] H := hP
  have hD : va_D A [(o, .inr (6, [.ref of, .ref o_ca, .ref o_bo, .int o_gust, .int o_still, .ref r, .ref o_wd, .ref o_sk])), (o_ca, .inl (cy 0, 5, .inl g_oca)), (o_bo, .inl (cy 0, 5, .inl g_obo)), (o_wd, .inl (cy 1, 13, .inr (.inl g_owd))), (o_sk, .inl (cy 1, 64, .inr (.inl g_osk))), (of, .inr (1, [.ref of_c])), (of_c, .inl (cy 0, 63, .inl u_3)), (q, .inr (1, [.ref q_c])), (q_c, .inl (cy 0, 63, .inl g_q))] := hD
  refine lv_aload_n hx hb dX6_startFrom_13 rfl (lv_at hl 0 rfl) ?_
  refine lv_iconst (v := (-1)) hx hb dX6_startFrom_14 (by decide) ?_
  refine va_put (D := D) (ci := 6) (v := .int (-1)) (ty := .int) (C := RX6) (T := TX6) (N := 8) hx hb hG inG_X6 tyX6 tyX6_ok nmX6 hown hE.1 hP hD hS 0 rfl rfl 3 (by decide) (hG _ q_f_X6_25) (fun _ h9 => h9) rfl (by decide +kernel) rfl rfl (Nat.le_of_ble_eq_true rfl) dX6_startFrom_15 (fun H locs hP hD hS => ?_)
  have hP : va_P D vwCl [(o, .inr (6, [.ref of, .ref o_ca, .ref o_bo, .int (-1), .int o_still, .ref r, .ref o_wd, .ref o_sk])), (o_ca, .inl (cy 0, 5, .inl g_oca)), (o_bo, .inl (cy 0, 5, .inl g_obo)), (o_wd, .inl (cy 1, 13, .inr (.inl g_owd))), (o_sk, .inl (cy 1, 64, .inr (.inl g_osk))), (of, .inr (1, [.ref of_c])), (of_c, .inl (cy 0, 63, .inl u_3)), (q, .inr (1, [.ref q_c])), (q_c, .inl (cy 0, 63, .inl g_q))] H := hP
  have hD : va_D A [(o, .inr (6, [.ref of, .ref o_ca, .ref o_bo, .int (-1), .int o_still, .ref r, .ref o_wd, .ref o_sk])), (o_ca, .inl (cy 0, 5, .inl g_oca)), (o_bo, .inl (cy 0, 5, .inl g_obo)), (o_wd, .inl (cy 1, 13, .inr (.inl g_owd))), (o_sk, .inl (cy 1, 64, .inr (.inl g_osk))), (of, .inr (1, [.ref of_c])), (of_c, .inl (cy 0, 63, .inl u_3)), (q, .inr (1, [.ref q_c])), (q_c, .inl (cy 0, 63, .inl g_q))] := hD
  refine lv_aload_n hx hb dX6_startFrom_18 rfl (lv_at hl 0 rfl) ?_
  refine lv_iconst (v := 0) hx hb dX6_startFrom_19 (by decide) ?_
  refine va_put (D := D) (ci := 6) (v := .int 0) (ty := .boolean) (C := RX6) (T := TX6) (N := 8) hx hb hG inG_X6 tyX6 tyX6_ok nmX6 hown hE.1 hP hD hS 0 rfl rfl 4 (by decide) (hG _ q_f_X6_29) (fun _ h9 => h9) rfl (by decide +kernel) rfl rfl (Nat.le_of_ble_eq_true rfl) dX6_startFrom_20 (fun H locs hP hD hS => ?_)
  have hP : va_P D vwCl [(o, .inr (6, [.ref of, .ref o_ca, .ref o_bo, .int (-1), .int 0, .ref r, .ref o_wd, .ref o_sk])), (o_ca, .inl (cy 0, 5, .inl g_oca)), (o_bo, .inl (cy 0, 5, .inl g_obo)), (o_wd, .inl (cy 1, 13, .inr (.inl g_owd))), (o_sk, .inl (cy 1, 64, .inr (.inl g_osk))), (of, .inr (1, [.ref of_c])), (of_c, .inl (cy 0, 63, .inl u_3)), (q, .inr (1, [.ref q_c])), (q_c, .inl (cy 0, 63, .inl g_q))] H := hP
  have hD : va_D A [(o, .inr (6, [.ref of, .ref o_ca, .ref o_bo, .int (-1), .int 0, .ref r, .ref o_wd, .ref o_sk])), (o_ca, .inl (cy 0, 5, .inl g_oca)), (o_bo, .inl (cy 0, 5, .inl g_obo)), (o_wd, .inl (cy 1, 13, .inr (.inl g_owd))), (o_sk, .inl (cy 1, 64, .inr (.inl g_osk))), (of, .inr (1, [.ref of_c])), (of_c, .inl (cy 0, 63, .inl u_3)), (q, .inr (1, [.ref q_c])), (q_c, .inl (cy 0, 63, .inl g_q))] := hD
  refine lv_aload_n hx hb dX6_startFrom_23 rfl (lv_at hl 0 rfl) ?_
  refine va_get (D := D) (ci := 6) (v := .ref o_bo) (C := RX6) (T := TX6) (N := 8) hx hb hG inG_X6 hown hE.1 hP 0 rfl rfl 2 (by decide) (hG _ q_f_X6_22) (fun _ h9 => h9) rfl dX6_startFrom_24 ?_
  refine lv_iconst (v := (-1)) hx hb dX6_startFrom_27 (by decide) ?_
  refine kwSV (wr := [(o, .inr (6, [.ref of, .ref o_ca, .ref o_bo, .int (-1), .int 0, .ref r, .ref o_wd, .ref o_sk])), (o_ca, .inl (cy 0, 5, .inl g_oca)), (o_wd, .inl (cy 1, 13, .inr (.inl g_owd))), (o_sk, .inl (cy 1, 64, .inr (.inl g_osk))), (of, .inr (1, [.ref of_c])), (of_c, .inl (cy 0, 63, .inl u_3)), (q, .inr (1, [.ref q_c])), (q_c, .inl (cy 0, 63, .inl g_q))]) (As := [.ref o_bo, .int (-1)]) (rest := []) F hE hP hD hS hA hl.1 (c_fill l D cy (q := o_bo) (n := 5) (hn := by decide) (f := g_obo) (v := (-1))) q_m_X6_50 ms_J7_fill_53178 ⟨(Nat.le_of_ble_eq_true rfl), (Nat.le_of_ble_eq_true rfl)⟩ [2] [0, 1, 3, 4, 5, 6, 7, 8] (by decide) rfl rfl (by decide) (by decide) rfl rfl (Nat.le_of_ble_eq_true rfl) ⟨(Nat.le_of_ble_eq_true rfl), (Nat.le_of_ble_eq_true rfl)⟩ dX6_startFrom_28 (fun u_6 H locs eu_6 hP hD hS => ?_)
  have hP : va_P D vwCl [(o, .inr (6, [.ref of, .ref o_ca, .ref o_bo, .int (-1), .int 0, .ref r, .ref o_wd, .ref o_sk])), (o_ca, .inl (cy 0, 5, .inl g_oca)), (o_wd, .inl (cy 1, 13, .inr (.inl g_owd))), (o_sk, .inl (cy 1, 64, .inr (.inl g_osk))), (of, .inr (1, [.ref of_c])), (of_c, .inl (cy 0, 63, .inl u_3)), (q, .inr (1, [.ref q_c])), (q_c, .inl (cy 0, 63, .inl g_q)), (o_bo, .inl (cy 0, 5, .inl u_6))] H := hP
  have hD : va_D A [(o, .inr (6, [.ref of, .ref o_ca, .ref o_bo, .int (-1), .int 0, .ref r, .ref o_wd, .ref o_sk])), (o_ca, .inl (cy 0, 5, .inl g_oca)), (o_wd, .inl (cy 1, 13, .inr (.inl g_owd))), (o_sk, .inl (cy 1, 64, .inr (.inl g_osk))), (of, .inr (1, [.ref of_c])), (of_c, .inl (cy 0, 63, .inl u_3)), (q, .inr (1, [.ref q_c])), (q_c, .inl (cy 0, 63, .inl g_q)), (o_bo, .inl (cy 0, 5, .inl u_6))] := hD
  have hu_6 : PLV u_6 := fun j hj => by rw [eu_6 j hj]; decide
  have lito_gust : ((-1) : Int32).toInt = (-1) := by decide
  have lito_still : (0 : Int32).toInt = 0 := by decide
  exact KV.rt ⟨u_3, (-1), 0, (Value.ref r), u_6⟩ F (hP.sub [0, 4, 5, 1, 8, 2, 3, 6, 7] rfl) (hD.sub [0, 4, 5, 1, 8, 2, 3, 6, 7] (by decide) rfl) hS (show FV u_3 ∧ PLV u_6 ∧ (RIn TT (cy 0) (Value.ref r)) from ⟨eu_3, hu_6, (by first | exact Or.inl rfl | exact Or.inr ⟨r, st, ra, rn, rg, ri, rj, rfl, hTi, hTj, hn4, hg⟩)⟩) (Nat.le_of_ble_eq_true rfl) (Nat.le_of_ble_eq_true rfl) dX6_startFrom_31

theorem cc_startFrom (l : Launch) (D : va_G) (cy : Nat → ClassId) {Z : (Nat → Prop) → State → Heap → Prop} (hz : zOK Z) {TT : va_W} (zt : ∀ (A : Nat → Prop) (U : State) (H : Heap), Z A U H → va_P D vwCl TT H) (o : Nat) (of : Nat) (of_c : Nat) (g_of : Nat → Int32) (o_ca : Nat) (o_bo : Nat) (o_wd : Nat) (o_sk : Nat) (o_gust : Int32) (o_still : Int32) (o_rv : Value) (g_oca : Nat → Int32) (g_obo : Nat → Int32) (g_owd : Nat → Int64) (g_osk : Nat → Int64) (q : Nat) (q_c : Nat) (g_q : Nat → Int32) (rv : Value) (hrv : RIn TT (cy 0) rv) (h_g_of : FV g_of) (h_g_obo : PLV g_obo) (h_g_q : FV g_q) : JV l yX6_startFrom cX6_startFrom 3 2 61 D (kTY cy) [.ref o, .ref q, rv] [(o, .inr (6, [.ref of, .ref o_ca, .ref o_bo, .int o_gust, .int o_still, o_rv, .ref o_wd, .ref o_sk])), (of, .inr (1, [.ref of_c])), (of_c, .inl (cy 0, 63, .inl g_of)), (o_ca, .inl (cy 0, 5, .inl g_oca)), (o_bo, .inl (cy 0, 5, .inl g_obo)), (o_wd, .inl (cy 1, 13, .inr (.inl g_owd))), (o_sk, .inl (cy 1, 64, .inr (.inl g_osk))), (q, .inr (1, [.ref q_c])), (q_c, .inl (cy 0, 63, .inl g_q))] Z (S := (Nat → Int32) × Int32 × Int32 × Value × (Nat → Int32)) (fun u => FV (u.1) ∧ PLV (u.2.2.2.2) ∧ (RIn TT (cy 0) (u.2.2.2.1))) (fun u => [(o, .inr (6, [.ref of, .ref o_ca, .ref o_bo, .int (u.2.1), .int (u.2.2.1), (u.2.2.2.1), .ref o_wd, .ref o_sk])), (of, .inr (1, [.ref of_c])), (of_c, .inl (cy 0, 63, .inl (u.1))), (o_ca, .inl (cy 0, 5, .inl g_oca)), (o_bo, .inl (cy 0, 5, .inl (u.2.2.2.2))), (o_wd, .inl (cy 1, 13, .inr (.inl g_owd))), (o_sk, .inl (cy 1, 64, .inr (.inl g_osk))), (q, .inr (1, [.ref q_c])), (q_c, .inl (cy 0, 63, .inl g_q))]) 0 0 := by
  rcases hrv with rfl | ⟨r, st, ra, rn, rg, ri, rj, rfl, hTi, hTj, hn4, hg⟩
  · exact cc_startFromN l D cy hz zt o of of_c g_of o_ca o_bo o_wd o_sk o_gust o_still o_rv g_oca g_obo g_owd g_osk q q_c g_q h_g_of h_g_obo h_g_q
  · exact cc_startFromR l D cy hz zt o of of_c g_of o_ca o_bo o_wd o_sk o_gust o_still o_rv g_oca g_obo g_owd g_osk q q_c g_q r st ra rn rg ri rj h_g_of h_g_obo h_g_q hTi hTj hn4 hg
