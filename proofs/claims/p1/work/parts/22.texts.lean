set_option maxHeartbeats 4000000 in
set_option maxRecDepth 100000 in
theorem c_addToken (l : Launch) (D : va_G) (cy : Nat → ClassId) (tp tby tki tva tpl : Nat) : KV l yX10_addToken cX10_addToken 4 0 0 D (kTY cy) [.ref tp, .int 0, .int 0, .int 0] [(tp, .inr (10, [.ref tby, .int 0, .ref tki, .ref tva, .ref tpl, .int 0, .int 0, .int 0, .int 0, .int 0, .int 0])), (tki, .inl (cy 0, 401, .inl (fun _ => 0))), (tva, .inl (cy 0, 401, .inl (fun _ => 0))), (tpl, .inl (cy 0, 401, .inl (fun _ => 0)))] (S := Unit) (fun _ => True) (fun _ => [(tp, .inr (10, [.ref tby, .int 0, .ref tki, .ref tva, .ref tpl, .int 1, .int 0, .int 0, .int 0, .int 0, .int 0])), (tki, .inl (cy 0, 401, .inl (fun _ => 0))), (tva, .inl (cy 0, 401, .inl (fun _ => 0))), (tpl, .inl (cy 0, 401, .inl (fun _ => 0)))]) 0 0 := by
  refine KV.of (by decide) (Nat.le_of_ble_eq_true rfl) (fun p e s m below meth c ls A F hin hE hP hD hA hS hl => ?_)
  have F : kF p s m meth c cX10_addToken 4 none _ RX10 := F
  obtain ⟨hx, hb, hr, hml, hown, hG, hlk⟩ := id F
  have hl : lv_has ls 4 [(0, .ref tp), (1, .int 0), (2, .int 0), (3, .int 0)] := hl
  refine lv_aload_n hx hb dX10_addToken_0 rfl (lv_at hl 0 rfl) ?_
  refine va_get (D := D) (ci := 10) (v := .int 0) (C := RX10) (T := TX10) (N := 11) hx hb hG inG_X10 hown hE.1 hP 0 rfl rfl 5 (by decide) (hG _ q_f_X10_28) (fun _ h9 => h9) rfl dX10_addToken_1 ?_
  refine lv_sipush (v := 400) hx hb dX10_addToken_4 (by decide) ?_
  refine lv_icmp_gt (tgt := 50) hx hb dX10_addToken_7 (by decide) (fun q => absurd q (by decide)) (fun _ => ?_)
  refine lv_aload_n hx hb dX10_addToken_10 rfl (lv_at hl 0 rfl) ?_
  refine va_get (D := D) (ci := 10) (v := .ref tki) (C := RX10) (T := TX10) (N := 11) hx hb hG inG_X10 hown hE.1 hP 0 rfl rfl 2 (by decide) (hG _ q_f_X10_19) (fun _ h9 => h9) rfl dX10_addToken_11 ?_
  refine lv_aload_n hx hb dX10_addToken_14 rfl (lv_at hl 0 rfl) ?_
  refine va_get (D := D) (ci := 10) (v := .int 0) (C := RX10) (T := TX10) (N := 11) hx hb hG inG_X10 hown hE.1 hP 0 rfl rfl 5 (by decide) (hG _ q_f_X10_28) (fun _ h9 => h9) rfl dX10_addToken_15 ?_
  refine lv_iload_n hx hb dX10_addToken_18 rfl (lv_at hl 1 rfl) ?_
  refine va_iast hx hb hE.1 hP hD hS 1 0 rfl rfl (by unfold vp_in; decide) dX10_addToken_19 (fun H locs hP hD hS => ?_)
  rw [k_upd0] at hP hD
  have hP : va_P D vwCl [(tp, .inr (10, [.ref tby, .int 0, .ref tki, .ref tva, .ref tpl, .int 0, .int 0, .int 0, .int 0, .int 0, .int 0])), (tki, .inl (cy 0, 401, .inl (fun _ => 0))), (tva, .inl (cy 0, 401, .inl (fun _ => 0))), (tpl, .inl (cy 0, 401, .inl (fun _ => 0)))] H := hP
  have hD : va_D A [(tp, .inr (10, [.ref tby, .int 0, .ref tki, .ref tva, .ref tpl, .int 0, .int 0, .int 0, .int 0, .int 0, .int 0])), (tki, .inl (cy 0, 401, .inl (fun _ => 0))), (tva, .inl (cy 0, 401, .inl (fun _ => 0))), (tpl, .inl (cy 0, 401, .inl (fun _ => 0)))] := hD
  refine lv_aload_n hx hb dX10_addToken_20 rfl (lv_at hl 0 rfl) ?_
  refine va_get (D := D) (ci := 10) (v := .ref tva) (C := RX10) (T := TX10) (N := 11) hx hb hG inG_X10 hown hE.1 hP 0 rfl rfl 3 (by decide) (hG _ q_f_X10_22) (fun _ h9 => h9) rfl dX10_addToken_21 ?_
  refine lv_aload_n hx hb dX10_addToken_24 rfl (lv_at hl 0 rfl) ?_
  refine va_get (D := D) (ci := 10) (v := .int 0) (C := RX10) (T := TX10) (N := 11) hx hb hG inG_X10 hown hE.1 hP 0 rfl rfl 5 (by decide) (hG _ q_f_X10_28) (fun _ h9 => h9) rfl dX10_addToken_25 ?_
  refine lv_iload_n hx hb dX10_addToken_28 rfl (lv_at hl 2 rfl) ?_
  refine va_iast hx hb hE.1 hP hD hS 2 0 rfl rfl (by unfold vp_in; decide) dX10_addToken_29 (fun H locs hP hD hS => ?_)
  rw [k_upd0] at hP hD
  have hP : va_P D vwCl [(tp, .inr (10, [.ref tby, .int 0, .ref tki, .ref tva, .ref tpl, .int 0, .int 0, .int 0, .int 0, .int 0, .int 0])), (tki, .inl (cy 0, 401, .inl (fun _ => 0))), (tva, .inl (cy 0, 401, .inl (fun _ => 0))), (tpl, .inl (cy 0, 401, .inl (fun _ => 0)))] H := hP
  have hD : va_D A [(tp, .inr (10, [.ref tby, .int 0, .ref tki, .ref tva, .ref tpl, .int 0, .int 0, .int 0, .int 0, .int 0, .int 0])), (tki, .inl (cy 0, 401, .inl (fun _ => 0))), (tva, .inl (cy 0, 401, .inl (fun _ => 0))), (tpl, .inl (cy 0, 401, .inl (fun _ => 0)))] := hD
  refine lv_aload_n hx hb dX10_addToken_30 rfl (lv_at hl 0 rfl) ?_
  refine va_get (D := D) (ci := 10) (v := .ref tpl) (C := RX10) (T := TX10) (N := 11) hx hb hG inG_X10 hown hE.1 hP 0 rfl rfl 4 (by decide) (hG _ q_f_X10_25) (fun _ h9 => h9) rfl dX10_addToken_31 ?_
  refine lv_aload_n hx hb dX10_addToken_34 rfl (lv_at hl 0 rfl) ?_
  refine va_get (D := D) (ci := 10) (v := .int 0) (C := RX10) (T := TX10) (N := 11) hx hb hG inG_X10 hown hE.1 hP 0 rfl rfl 5 (by decide) (hG _ q_f_X10_28) (fun _ h9 => h9) rfl dX10_addToken_35 ?_
  refine lv_iload_n hx hb dX10_addToken_38 rfl (lv_at hl 3 rfl) ?_
  refine va_iast hx hb hE.1 hP hD hS 3 0 rfl rfl (by unfold vp_in; decide) dX10_addToken_39 (fun H locs hP hD hS => ?_)
  rw [k_upd0] at hP hD
  have hP : va_P D vwCl [(tp, .inr (10, [.ref tby, .int 0, .ref tki, .ref tva, .ref tpl, .int 0, .int 0, .int 0, .int 0, .int 0, .int 0])), (tki, .inl (cy 0, 401, .inl (fun _ => 0))), (tva, .inl (cy 0, 401, .inl (fun _ => 0))), (tpl, .inl (cy 0, 401, .inl (fun _ => 0)))] H := hP
  have hD : va_D A [(tp, .inr (10, [.ref tby, .int 0, .ref tki, .ref tva, .ref tpl, .int 0, .int 0, .int 0, .int 0, .int 0, .int 0])), (tki, .inl (cy 0, 401, .inl (fun _ => 0))), (tva, .inl (cy 0, 401, .inl (fun _ => 0))), (tpl, .inl (cy 0, 401, .inl (fun _ => 0)))] := hD
  refine lv_aload_n hx hb dX10_addToken_40 rfl (lv_at hl 0 rfl) ?_
  refine lv_dup hx hb dX10_addToken_41 rfl ?_
  refine va_get (D := D) (ci := 10) (v := .int 0) (C := RX10) (T := TX10) (N := 11) hx hb hG inG_X10 hown hE.1 hP 0 rfl rfl 5 (by decide) (hG _ q_f_X10_28) (fun _ h9 => h9) rfl dX10_addToken_42 ?_
  refine lv_iconst (v := 1) hx hb dX10_addToken_45 (by decide) ?_
  refine lv_iadd hx hb dX10_addToken_46 ?_
  refine k_top (z := 1) (by decide) ?_
  refine va_put (D := D) (ci := 10) (v := .int 1) (ty := .int) (C := RX10) (T := TX10) (N := 11) hx hb hG inG_X10 tyX10 tyX10_ok nmX10 hown hE.1 hP hD hS 0 rfl rfl 5 (by decide) (hG _ q_f_X10_28) (fun _ h9 => h9) rfl (by decide +kernel) rfl rfl (Nat.le_of_ble_eq_true rfl) dX10_addToken_47 (fun H locs hP hD hS => ?_)
  have hP : va_P D vwCl [(tp, .inr (10, [.ref tby, .int 0, .ref tki, .ref tva, .ref tpl, .int 1, .int 0, .int 0, .int 0, .int 0, .int 0])), (tki, .inl (cy 0, 401, .inl (fun _ => 0))), (tva, .inl (cy 0, 401, .inl (fun _ => 0))), (tpl, .inl (cy 0, 401, .inl (fun _ => 0)))] H := hP
  have hD : va_D A [(tp, .inr (10, [.ref tby, .int 0, .ref tki, .ref tva, .ref tpl, .int 1, .int 0, .int 0, .int 0, .int 0, .int 0])), (tki, .inl (cy 0, 401, .inl (fun _ => 0))), (tva, .inl (cy 0, 401, .inl (fun _ => 0))), (tpl, .inl (cy 0, 401, .inl (fun _ => 0)))] := hD
  exact KV.rt () F (hP.sub [0, 1, 2, 3] rfl) (hD.sub [0, 1, 2, 3] (by decide) rfl) hS (trivial) (Nat.le_of_ble_eq_true rfl) (Nat.le_of_ble_eq_true rfl) dX10_addToken_50

set_option maxHeartbeats 4000000 in
set_option maxRecDepth 100000 in
theorem c_advance (l : Launch) (D : va_G) (cy : Nat → ClassId) (tp tby tki tva tpl : Nat) : KV l yX10_advance cX10_advance 1 0 0 D (kTY cy) [.ref tp] [(tp, .inr (10, [.ref tby, .int 0, .ref tki, .ref tva, .ref tpl, .int 1, .int (-1), .int 0, .int 0, .int 0, .int 0])), (tki, .inl (cy 0, 401, .inl (fun _ => 0))), (tva, .inl (cy 0, 401, .inl (fun _ => 0))), (tpl, .inl (cy 0, 401, .inl (fun _ => 0)))] (S := Unit) (fun _ => True) (fun _ => [(tp, .inr (10, [.ref tby, .int 0, .ref tki, .ref tva, .ref tpl, .int 1, .int 0, .int 0, .int 0, .int 0, .int 0])), (tki, .inl (cy 0, 401, .inl (fun _ => 0))), (tva, .inl (cy 0, 401, .inl (fun _ => 0))), (tpl, .inl (cy 0, 401, .inl (fun _ => 0)))]) 0 0 := by
  refine KV.of (by decide) (Nat.le_of_ble_eq_true rfl) (fun p e s m below meth c ls A F hin hE hP hD hA hS hl => ?_)
  have F : kF p s m meth c cX10_advance 1 none _ RX10 := F
  obtain ⟨hx, hb, hr, hml, hown, hG, hlk⟩ := id F
  have hl : lv_has ls 1 [(0, .ref tp)] := hl
  refine lv_aload_n hx hb dX10_advance_0 rfl (lv_at hl 0 rfl) ?_
  refine va_get (D := D) (ci := 10) (v := .int (-1)) (C := RX10) (T := TX10) (N := 11) hx hb hG inG_X10 hown hE.1 hP 0 rfl rfl 6 (by decide) (hG _ q_f_X10_31) (fun _ h9 => h9) rfl dX10_advance_1 ?_
  refine lv_iconst (v := 1) hx hb dX10_advance_4 (by decide) ?_
  refine lv_iadd hx hb dX10_advance_5 ?_
  refine k_top (z := 0) (by decide) ?_
  refine lv_aload_n hx hb dX10_advance_6 rfl (lv_at hl 0 rfl) ?_
  refine va_get (D := D) (ci := 10) (v := .int 1) (C := RX10) (T := TX10) (N := 11) hx hb hG inG_X10 hown hE.1 hP 0 rfl rfl 5 (by decide) (hG _ q_f_X10_28) (fun _ h9 => h9) rfl dX10_advance_7 ?_
  refine lv_icmp_ge (tgt := 62) hx hb dX10_advance_10 (by decide) (fun q => absurd q (by decide)) (fun _ => ?_)
  refine lv_aload_n hx hb dX10_advance_13 rfl (lv_at hl 0 rfl) ?_
  refine lv_dup hx hb dX10_advance_14 rfl ?_
  refine va_get (D := D) (ci := 10) (v := .int (-1)) (C := RX10) (T := TX10) (N := 11) hx hb hG inG_X10 hown hE.1 hP 0 rfl rfl 6 (by decide) (hG _ q_f_X10_31) (fun _ h9 => h9) rfl dX10_advance_15 ?_
  refine lv_iconst (v := 1) hx hb dX10_advance_18 (by decide) ?_
  refine lv_iadd hx hb dX10_advance_19 ?_
  refine k_top (z := 0) (by decide) ?_
  refine va_put (D := D) (ci := 10) (v := .int 0) (ty := .int) (C := RX10) (T := TX10) (N := 11) hx hb hG inG_X10 tyX10 tyX10_ok nmX10 hown hE.1 hP hD hS 0 rfl rfl 6 (by decide) (hG _ q_f_X10_31) (fun _ h9 => h9) rfl (by decide +kernel) rfl rfl (Nat.le_of_ble_eq_true rfl) dX10_advance_20 (fun H locs hP hD hS => ?_)
  have hP : va_P D vwCl [(tp, .inr (10, [.ref tby, .int 0, .ref tki, .ref tva, .ref tpl, .int 1, .int 0, .int 0, .int 0, .int 0, .int 0])), (tki, .inl (cy 0, 401, .inl (fun _ => 0))), (tva, .inl (cy 0, 401, .inl (fun _ => 0))), (tpl, .inl (cy 0, 401, .inl (fun _ => 0)))] H := hP
  have hD : va_D A [(tp, .inr (10, [.ref tby, .int 0, .ref tki, .ref tva, .ref tpl, .int 1, .int 0, .int 0, .int 0, .int 0, .int 0])), (tki, .inl (cy 0, 401, .inl (fun _ => 0))), (tva, .inl (cy 0, 401, .inl (fun _ => 0))), (tpl, .inl (cy 0, 401, .inl (fun _ => 0)))] := hD
  refine lv_aload_n hx hb dX10_advance_23 rfl (lv_at hl 0 rfl) ?_
  refine lv_aload_n hx hb dX10_advance_24 rfl (lv_at hl 0 rfl) ?_
  refine va_get (D := D) (ci := 10) (v := .ref tki) (C := RX10) (T := TX10) (N := 11) hx hb hG inG_X10 hown hE.1 hP 0 rfl rfl 2 (by decide) (hG _ q_f_X10_19) (fun _ h9 => h9) rfl dX10_advance_25 ?_
  refine lv_aload_n hx hb dX10_advance_28 rfl (lv_at hl 0 rfl) ?_
  refine va_get (D := D) (ci := 10) (v := .int 0) (C := RX10) (T := TX10) (N := 11) hx hb hG inG_X10 hown hE.1 hP 0 rfl rfl 6 (by decide) (hG _ q_f_X10_31) (fun _ h9 => h9) rfl dX10_advance_29 ?_
  refine va_iald hx hb hE.1 hP 1 0 rfl rfl (by unfold vp_in; decide) dX10_advance_32 ?_
  refine k_top (z := 0) rfl ?_
  refine va_put (D := D) (ci := 10) (v := .int 0) (ty := .int) (C := RX10) (T := TX10) (N := 11) hx hb hG inG_X10 tyX10 tyX10_ok nmX10 hown hE.1 hP hD hS 0 rfl rfl 7 (by decide) (hG _ q_f_X10_34) (fun _ h9 => h9) rfl (by decide +kernel) rfl rfl (Nat.le_of_ble_eq_true rfl) dX10_advance_33 (fun H locs hP hD hS => ?_)
  have hP : va_P D vwCl [(tp, .inr (10, [.ref tby, .int 0, .ref tki, .ref tva, .ref tpl, .int 1, .int 0, .int 0, .int 0, .int 0, .int 0])), (tki, .inl (cy 0, 401, .inl (fun _ => 0))), (tva, .inl (cy 0, 401, .inl (fun _ => 0))), (tpl, .inl (cy 0, 401, .inl (fun _ => 0)))] H := hP
  have hD : va_D A [(tp, .inr (10, [.ref tby, .int 0, .ref tki, .ref tva, .ref tpl, .int 1, .int 0, .int 0, .int 0, .int 0, .int 0])), (tki, .inl (cy 0, 401, .inl (fun _ => 0))), (tva, .inl (cy 0, 401, .inl (fun _ => 0))), (tpl, .inl (cy 0, 401, .inl (fun _ => 0)))] := hD
  refine lv_aload_n hx hb dX10_advance_36 rfl (lv_at hl 0 rfl) ?_
  refine lv_aload_n hx hb dX10_advance_37 rfl (lv_at hl 0 rfl) ?_
  refine va_get (D := D) (ci := 10) (v := .ref tva) (C := RX10) (T := TX10) (N := 11) hx hb hG inG_X10 hown hE.1 hP 0 rfl rfl 3 (by decide) (hG _ q_f_X10_22) (fun _ h9 => h9) rfl dX10_advance_38 ?_
  refine lv_aload_n hx hb dX10_advance_41 rfl (lv_at hl 0 rfl) ?_
  refine va_get (D := D) (ci := 10) (v := .int 0) (C := RX10) (T := TX10) (N := 11) hx hb hG inG_X10 hown hE.1 hP 0 rfl rfl 6 (by decide) (hG _ q_f_X10_31) (fun _ h9 => h9) rfl dX10_advance_42 ?_
  refine va_iald hx hb hE.1 hP 2 0 rfl rfl (by unfold vp_in; decide) dX10_advance_45 ?_
  refine k_top (z := 0) rfl ?_
  refine va_put (D := D) (ci := 10) (v := .int 0) (ty := .int) (C := RX10) (T := TX10) (N := 11) hx hb hG inG_X10 tyX10 tyX10_ok nmX10 hown hE.1 hP hD hS 0 rfl rfl 8 (by decide) (hG _ q_f_X10_37) (fun _ h9 => h9) rfl (by decide +kernel) rfl rfl (Nat.le_of_ble_eq_true rfl) dX10_advance_46 (fun H locs hP hD hS => ?_)
  have hP : va_P D vwCl [(tp, .inr (10, [.ref tby, .int 0, .ref tki, .ref tva, .ref tpl, .int 1, .int 0, .int 0, .int 0, .int 0, .int 0])), (tki, .inl (cy 0, 401, .inl (fun _ => 0))), (tva, .inl (cy 0, 401, .inl (fun _ => 0))), (tpl, .inl (cy 0, 401, .inl (fun _ => 0)))] H := hP
  have hD : va_D A [(tp, .inr (10, [.ref tby, .int 0, .ref tki, .ref tva, .ref tpl, .int 1, .int 0, .int 0, .int 0, .int 0, .int 0])), (tki, .inl (cy 0, 401, .inl (fun _ => 0))), (tva, .inl (cy 0, 401, .inl (fun _ => 0))), (tpl, .inl (cy 0, 401, .inl (fun _ => 0)))] := hD
  refine lv_aload_n hx hb dX10_advance_49 rfl (lv_at hl 0 rfl) ?_
  refine lv_aload_n hx hb dX10_advance_50 rfl (lv_at hl 0 rfl) ?_
  refine va_get (D := D) (ci := 10) (v := .ref tpl) (C := RX10) (T := TX10) (N := 11) hx hb hG inG_X10 hown hE.1 hP 0 rfl rfl 4 (by decide) (hG _ q_f_X10_25) (fun _ h9 => h9) rfl dX10_advance_51 ?_
  refine lv_aload_n hx hb dX10_advance_54 rfl (lv_at hl 0 rfl) ?_
  refine va_get (D := D) (ci := 10) (v := .int 0) (C := RX10) (T := TX10) (N := 11) hx hb hG inG_X10 hown hE.1 hP 0 rfl rfl 6 (by decide) (hG _ q_f_X10_31) (fun _ h9 => h9) rfl dX10_advance_55 ?_
  refine va_iald hx hb hE.1 hP 3 0 rfl rfl (by unfold vp_in; decide) dX10_advance_58 ?_
  refine k_top (z := 0) rfl ?_
  refine va_put (D := D) (ci := 10) (v := .int 0) (ty := .int) (C := RX10) (T := TX10) (N := 11) hx hb hG inG_X10 tyX10 tyX10_ok nmX10 hown hE.1 hP hD hS 0 rfl rfl 9 (by decide) (hG _ q_f_X10_40) (fun _ h9 => h9) rfl (by decide +kernel) rfl rfl (Nat.le_of_ble_eq_true rfl) dX10_advance_59 (fun H locs hP hD hS => ?_)
  have hP : va_P D vwCl [(tp, .inr (10, [.ref tby, .int 0, .ref tki, .ref tva, .ref tpl, .int 1, .int 0, .int 0, .int 0, .int 0, .int 0])), (tki, .inl (cy 0, 401, .inl (fun _ => 0))), (tva, .inl (cy 0, 401, .inl (fun _ => 0))), (tpl, .inl (cy 0, 401, .inl (fun _ => 0)))] H := hP
  have hD : va_D A [(tp, .inr (10, [.ref tby, .int 0, .ref tki, .ref tva, .ref tpl, .int 1, .int 0, .int 0, .int 0, .int 0, .int 0])), (tki, .inl (cy 0, 401, .inl (fun _ => 0))), (tva, .inl (cy 0, 401, .inl (fun _ => 0))), (tpl, .inl (cy 0, 401, .inl (fun _ => 0)))] := hD
  exact KV.rt () F (hP.sub [0, 1, 2, 3] rfl) (hD.sub [0, 1, 2, 3] (by decide) rfl) hS (trivial) (Nat.le_of_ble_eq_true rfl) (Nat.le_of_ble_eq_true rfl) dX10_advance_62

set_option maxHeartbeats 4000000 in
set_option maxRecDepth 100000 in
theorem c_open (l : Launch) (D : va_G) (cy : Nat → ClassId) (tp tby tki tva tpl : Nat) : KV l yX10_open cX10_open 3 1 23 D (kTY cy) [.ref tp] [(tp, .inr (10, [.ref tby, .int 0, .ref tki, .ref tva, .ref tpl, .int 0, .int 0, .int 0, .int 0, .int 0, .int 0])), (tki, .inl (cy 0, 401, .inl (fun _ => 0))), (tva, .inl (cy 0, 401, .inl (fun _ => 0))), (tpl, .inl (cy 0, 401, .inl (fun _ => 0)))] (S := Unit) (fun _ => True) (fun _ => [(tp, .inr (10, [.ref tby, .int 0, .ref tki, .ref tva, .ref tpl, .int 1, .int 0, .int 0, .int 0, .int 0, .int 0])), (tki, .inl (cy 0, 401, .inl (fun _ => 0))), (tva, .inl (cy 0, 401, .inl (fun _ => 0))), (tpl, .inl (cy 0, 401, .inl (fun _ => 0)))]) 0 0 := by
  refine KV.of (by decide) (Nat.le_of_ble_eq_true rfl) (fun p e s m below meth c ls A F hin hE hP hD hA hS hl => ?_)
  have F : kF p s m meth c cX10_open 3 none _ RX10 := F
  obtain ⟨hx, hb, hr, hml, hown, hG, hlk⟩ := id F
  have hl : lv_has ls 3 [(0, .ref tp)] := hl
  refine lv_aload_n hx hb dX10_open_0 rfl (lv_at hl 0 rfl) ?_
  refine lv_iconst (v := 0) hx hb dX10_open_1 (by decide) ?_
  refine va_put (D := D) (ci := 10) (v := .int 0) (ty := .int) (C := RX10) (T := TX10) (N := 11) hx hb hG inG_X10 tyX10 tyX10_ok nmX10 hown hE.1 hP hD hS 0 rfl rfl 5 (by decide) (hG _ q_f_X10_28) (fun _ h9 => h9) rfl (by decide +kernel) rfl rfl (Nat.le_of_ble_eq_true rfl) dX10_open_2 (fun H locs hP hD hS => ?_)
  have hP : va_P D vwCl [(tp, .inr (10, [.ref tby, .int 0, .ref tki, .ref tva, .ref tpl, .int 0, .int 0, .int 0, .int 0, .int 0, .int 0])), (tki, .inl (cy 0, 401, .inl (fun _ => 0))), (tva, .inl (cy 0, 401, .inl (fun _ => 0))), (tpl, .inl (cy 0, 401, .inl (fun _ => 0)))] H := hP
  have hD : va_D A [(tp, .inr (10, [.ref tby, .int 0, .ref tki, .ref tva, .ref tpl, .int 0, .int 0, .int 0, .int 0, .int 0, .int 0])), (tki, .inl (cy 0, 401, .inl (fun _ => 0))), (tva, .inl (cy 0, 401, .inl (fun _ => 0))), (tpl, .inl (cy 0, 401, .inl (fun _ => 0)))] := hD
  refine lv_iconst (v := 0) hx hb dX10_open_5 (by decide) ?_
  refine lv_istore_n (lv' := [(1, .int 0), (0, .ref tp)]) hx hb dX10_open_6 rfl hl (by decide) rfl (fun ls hl => ?_)
  refine lv_iconst (v := 0) hx hb dX10_open_7 (by decide) ?_
  refine lv_istore_n (lv' := [(2, .int 0), (1, .int 0), (0, .ref tp)]) hx hb dX10_open_8 rfl hl (by decide) rfl (fun ls hl => ?_)
  refine lv_iload_n hx hb dX10_open_9 rfl (lv_at hl 0 rfl) ?_
  refine lv_sipush (v := 400) hx hb dX10_open_10 (by decide) ?_
  refine lv_icmp_ge (tgt := 53) hx hb dX10_open_13 (by decide) (fun q => absurd q (by decide)) (fun _ => ?_)
  refine lv_iload_n hx hb dX10_open_16 rfl (lv_at hl 1 rfl) ?_
  refine lv_aload_n hx hb dX10_open_17 rfl (lv_at hl 2 rfl) ?_
  refine va_get (D := D) (ci := 10) (v := .int 0) (C := RX10) (T := TX10) (N := 11) hx hb hG inG_X10 hown hE.1 hP 0 rfl rfl 1 (by decide) (hG _ q_f_X10_15) (fun _ h9 => h9) rfl dX10_open_18 ?_
  refine lv_icmp_ge (tgt := 53) hx hb dX10_open_21 (by decide) (fun _ => ?_) (fun q => absurd q (by decide))
  refine lv_aload_n hx hb dX10_open_53 rfl (lv_at hl 2 rfl) ?_
  refine lv_iconst (v := 0) hx hb dX10_open_54 (by decide) ?_
  refine lv_iconst (v := 0) hx hb dX10_open_55 (by decide) ?_
  refine lv_aload_n hx hb dX10_open_56 rfl (lv_at hl 2 rfl) ?_
  refine va_get (D := D) (ci := 10) (v := .int 0) (C := RX10) (T := TX10) (N := 11) hx hb hG inG_X10 hown hE.1 hP 0 rfl rfl 1 (by decide) (hG _ q_f_X10_15) (fun _ h9 => h9) rfl dX10_open_57 ?_
  refine kwVV (wr := []) (As := [.int 0, .int 0, .int 0]) (rest := []) F hE hP hD hS hA hl.1 (c_addToken l D cy (tp := tp) (tby := tby) (tki := tki) (tva := tva) (tpl := tpl)) q_m_X10_50 mv_X10_addToken ⟨(Nat.le_of_ble_eq_true rfl), (Nat.le_of_ble_eq_true rfl)⟩ [0, 1, 2, 3] [] (by decide) rfl rfl (by decide) (by decide) rfl rfl rfl rfl rfl (Nat.le_of_ble_eq_true rfl) ⟨(Nat.le_of_ble_eq_true rfl), (Nat.le_of_ble_eq_true rfl)⟩ dX10_open_60 (fun u_1 H locs eu_1 hP hD hS => ?_)
  have hP : va_P D vwCl [(tp, .inr (10, [.ref tby, .int 0, .ref tki, .ref tva, .ref tpl, .int 1, .int 0, .int 0, .int 0, .int 0, .int 0])), (tki, .inl (cy 0, 401, .inl (fun _ => 0))), (tva, .inl (cy 0, 401, .inl (fun _ => 0))), (tpl, .inl (cy 0, 401, .inl (fun _ => 0)))] H := hP
  have hD : va_D A [(tp, .inr (10, [.ref tby, .int 0, .ref tki, .ref tva, .ref tpl, .int 1, .int 0, .int 0, .int 0, .int 0, .int 0])), (tki, .inl (cy 0, 401, .inl (fun _ => 0))), (tva, .inl (cy 0, 401, .inl (fun _ => 0))), (tpl, .inl (cy 0, 401, .inl (fun _ => 0)))] := hD
  refine lv_aload_n hx hb dX10_open_63 rfl (lv_at hl 2 rfl) ?_
  refine lv_iconst (v := 0) hx hb dX10_open_64 (by decide) ?_
  refine va_put (D := D) (ci := 10) (v := .int 0) (ty := .int) (C := RX10) (T := TX10) (N := 11) hx hb hG inG_X10 tyX10 tyX10_ok nmX10 hown hE.1 hP hD hS 0 rfl rfl 10 (by decide) (hG _ q_f_X10_43) (fun _ h9 => h9) rfl (by decide +kernel) rfl rfl (Nat.le_of_ble_eq_true rfl) dX10_open_65 (fun H locs hP hD hS => ?_)
  have hP : va_P D vwCl [(tp, .inr (10, [.ref tby, .int 0, .ref tki, .ref tva, .ref tpl, .int 1, .int 0, .int 0, .int 0, .int 0, .int 0])), (tki, .inl (cy 0, 401, .inl (fun _ => 0))), (tva, .inl (cy 0, 401, .inl (fun _ => 0))), (tpl, .inl (cy 0, 401, .inl (fun _ => 0)))] H := hP
  have hD : va_D A [(tp, .inr (10, [.ref tby, .int 0, .ref tki, .ref tva, .ref tpl, .int 1, .int 0, .int 0, .int 0, .int 0, .int 0])), (tki, .inl (cy 0, 401, .inl (fun _ => 0))), (tva, .inl (cy 0, 401, .inl (fun _ => 0))), (tpl, .inl (cy 0, 401, .inl (fun _ => 0)))] := hD
  refine lv_aload_n hx hb dX10_open_68 rfl (lv_at hl 2 rfl) ?_
  refine lv_iconst (v := (-1)) hx hb dX10_open_69 (by decide) ?_
  refine va_put (D := D) (ci := 10) (v := .int (-1)) (ty := .int) (C := RX10) (T := TX10) (N := 11) hx hb hG inG_X10 tyX10 tyX10_ok nmX10 hown hE.1 hP hD hS 0 rfl rfl 6 (by decide) (hG _ q_f_X10_31) (fun _ h9 => h9) rfl (by decide +kernel) rfl rfl (Nat.le_of_ble_eq_true rfl) dX10_open_70 (fun H locs hP hD hS => ?_)
  have hP : va_P D vwCl [(tp, .inr (10, [.ref tby, .int 0, .ref tki, .ref tva, .ref tpl, .int 1, .int (-1), .int 0, .int 0, .int 0, .int 0])), (tki, .inl (cy 0, 401, .inl (fun _ => 0))), (tva, .inl (cy 0, 401, .inl (fun _ => 0))), (tpl, .inl (cy 0, 401, .inl (fun _ => 0)))] H := hP
  have hD : va_D A [(tp, .inr (10, [.ref tby, .int 0, .ref tki, .ref tva, .ref tpl, .int 1, .int (-1), .int 0, .int 0, .int 0, .int 0])), (tki, .inl (cy 0, 401, .inl (fun _ => 0))), (tva, .inl (cy 0, 401, .inl (fun _ => 0))), (tpl, .inl (cy 0, 401, .inl (fun _ => 0)))] := hD
  refine lv_aload_n hx hb dX10_open_73 rfl (lv_at hl 2 rfl) ?_
  refine kwVV (wr := []) (As := []) (rest := []) F hE hP hD hS hA hl.1 (c_advance l D cy (tp := tp) (tby := tby) (tki := tki) (tva := tva) (tpl := tpl)) q_m_X10_54 mv_X10_advance ⟨(Nat.le_of_ble_eq_true rfl), (Nat.le_of_ble_eq_true rfl)⟩ [0, 1, 2, 3] [] (by decide) rfl rfl (by decide) (by decide) rfl rfl rfl rfl rfl (Nat.le_of_ble_eq_true rfl) ⟨(Nat.le_of_ble_eq_true rfl), (Nat.le_of_ble_eq_true rfl)⟩ dX10_open_74 (fun u_2 H locs eu_2 hP hD hS => ?_)
  have hP : va_P D vwCl [(tp, .inr (10, [.ref tby, .int 0, .ref tki, .ref tva, .ref tpl, .int 1, .int 0, .int 0, .int 0, .int 0, .int 0])), (tki, .inl (cy 0, 401, .inl (fun _ => 0))), (tva, .inl (cy 0, 401, .inl (fun _ => 0))), (tpl, .inl (cy 0, 401, .inl (fun _ => 0)))] H := hP
  have hD : va_D A [(tp, .inr (10, [.ref tby, .int 0, .ref tki, .ref tva, .ref tpl, .int 1, .int 0, .int 0, .int 0, .int 0, .int 0])), (tki, .inl (cy 0, 401, .inl (fun _ => 0))), (tva, .inl (cy 0, 401, .inl (fun _ => 0))), (tpl, .inl (cy 0, 401, .inl (fun _ => 0)))] := hD
  exact KV.rt () F (hP.sub [0, 1, 2, 3] rfl) (hD.sub [0, 1, 2, 3] (by decide) rfl) hS (trivial) (Nat.le_of_ble_eq_true rfl) (Nat.le_of_ble_eq_true rfl) dX10_open_77

set_option maxHeartbeats 4000000 in
set_option maxRecDepth 100000 in
theorem c_failAt (l : Launch) (D : va_G) (cy : Nat → ClassId) (tp tby tki tva tpl : Nat) : KV l yX10_failAt cX10_failAt 3 0 0 D (kTY cy) [.ref tp, .int 0, .int 0] [(tp, .inr (10, [.ref tby, .int 0, .ref tki, .ref tva, .ref tpl, .int 1, .int 0, .int 0, .int 0, .int 0, .int 0]))] (S := Unit) (fun _ => True) (fun _ => [(tp, .inr (10, [.ref tby, .int 0, .ref tki, .ref tva, .ref tpl, .int 1, .int 0, .int 0, .int 0, .int 0, .int 1]))]) 0 0 := by
  refine KV.of (by decide) (Nat.le_of_ble_eq_true rfl) (fun p e s m below meth c ls A F hin hE hP hD hA hS hl => ?_)
  have F : kF p s m meth c cX10_failAt 3 none _ RX10 := F
  obtain ⟨hx, hb, hr, hml, hown, hG, hlk⟩ := id F
  have hl : lv_has ls 3 [(0, .ref tp), (1, .int 0), (2, .int 0)] := hl
  refine lv_aload_n hx hb dX10_failAt_0 rfl (lv_at hl 0 rfl) ?_
  refine va_get (D := D) (ci := 10) (v := .int 0) (C := RX10) (T := TX10) (N := 11) hx hb hG inG_X10 hown hE.1 hP 0 rfl rfl 10 (by decide) (hG _ q_f_X10_43) (fun _ h9 => h9) rfl dX10_failAt_1 ?_
  refine lv_if_ne (tgt := 19) hx hb dX10_failAt_4 (by decide) (fun q => absurd q (by decide)) (fun _ => ?_)
  refine lv_aload_n hx hb dX10_failAt_7 rfl (lv_at hl 0 rfl) ?_
  refine lv_iconst (v := 1) hx hb dX10_failAt_8 (by decide) ?_
  refine lv_bipush (v := 8) hx hb dX10_failAt_9 (by decide) ?_
  refine lv_iload_n hx hb dX10_failAt_11 rfl (lv_at hl 1 rfl) ?_
  refine lv_imul hx hb dX10_failAt_12 ?_
  refine k_top (z := 0) (by decide) ?_
  refine lv_iadd hx hb dX10_failAt_13 ?_
  refine k_top (z := 1) (by decide) ?_
  refine lv_iload_n hx hb dX10_failAt_14 rfl (lv_at hl 2 rfl) ?_
  refine lv_iadd hx hb dX10_failAt_15 ?_
  refine k_top (z := 1) (by decide) ?_
  refine va_put (D := D) (ci := 10) (v := .int 1) (ty := .int) (C := RX10) (T := TX10) (N := 11) hx hb hG inG_X10 tyX10 tyX10_ok nmX10 hown hE.1 hP hD hS 0 rfl rfl 10 (by decide) (hG _ q_f_X10_43) (fun _ h9 => h9) rfl (by decide +kernel) rfl rfl (Nat.le_of_ble_eq_true rfl) dX10_failAt_16 (fun H locs hP hD hS => ?_)
  have hP : va_P D vwCl [(tp, .inr (10, [.ref tby, .int 0, .ref tki, .ref tva, .ref tpl, .int 1, .int 0, .int 0, .int 0, .int 0, .int 1]))] H := hP
  have hD : va_D A [(tp, .inr (10, [.ref tby, .int 0, .ref tki, .ref tva, .ref tpl, .int 1, .int 0, .int 0, .int 0, .int 0, .int 1]))] := hD
  exact KV.rt () F (hP.sub [0] rfl) (hD.sub [0] (by decide) rfl) hS (trivial) (Nat.le_of_ble_eq_true rfl) (Nat.le_of_ble_eq_true rfl) dX10_failAt_19

set_option maxHeartbeats 4000000 in
set_option maxRecDepth 100000 in
theorem c_isSign (l : Launch) (D : va_G) (cy : Nat → ClassId) (tp tby tki tva tpl : Nat) (x0 : Int32) : KP l yX10_isSign cX10_isSign 2 (some .boolean) 0 0 D (kTY cy) [.ref tp, .int x0] [(tp, .inr (10, [.ref tby, .int 0, .ref tki, .ref tva, .ref tpl, .int 1, .int 0, .int 0, .int 0, .int 0, .int 1]))] (fun r => r = 0) := by
  refine KP.of (by decide) (Nat.le_of_ble_eq_true rfl) (fun p e s m below meth c ls F hE hP hl => ?_)
  have F : kF p s m meth c cX10_isSign 2 (some .boolean) _ RX10 := F
  obtain ⟨hx, hb, hr, hml, hown, hG, hlk⟩ := id F
  have hl : lv_has ls 2 [(0, .ref tp), (1, .int x0)] := hl
  refine lv_aload_n hx hb dX10_isSign_0 rfl (lv_at hl 0 rfl) ?_
  refine va_get (D := D) (ci := 10) (v := .int 0) (C := RX10) (T := TX10) (N := 11) hx hb hG inG_X10 hown hE.1 hP 0 rfl rfl 7 (by decide) (hG _ q_f_X10_34) (fun _ h9 => h9) rfl dX10_isSign_1 ?_
  refine lv_iconst (v := 4) hx hb dX10_isSign_4 (by decide) ?_
  refine lv_icmp_ne (tgt := 20) hx hb dX10_isSign_5 (by decide) (fun _ => ?_) (fun q => absurd q (by decide))
  refine lv_iconst (v := 0) hx hb dX10_isSign_20 (by decide) ?_
  exact KP.rt F rfl (rfl) dX10_isSign_21

set_option maxHeartbeats 4000000 in
set_option maxRecDepth 100000 in
theorem c_isWord (l : Launch) (D : va_G) (cy : Nat → ClassId) (tp tby tki tva tpl : Nat) (x0 : Int32) : KP l yX10_isWord cX10_isWord 2 (some .boolean) 0 0 D (kTY cy) [.ref tp, .int x0] [(tp, .inr (10, [.ref tby, .int 0, .ref tki, .ref tva, .ref tpl, .int 1, .int 0, .int 0, .int 0, .int 0, .int 0]))] (fun r => r = 0) := by
  refine KP.of (by decide) (Nat.le_of_ble_eq_true rfl) (fun p e s m below meth c ls F hE hP hl => ?_)
  have F : kF p s m meth c cX10_isWord 2 (some .boolean) _ RX10 := F
  obtain ⟨hx, hb, hr, hml, hown, hG, hlk⟩ := id F
  have hl : lv_has ls 2 [(0, .ref tp), (1, .int x0)] := hl
  refine lv_aload_n hx hb dX10_isWord_0 rfl (lv_at hl 0 rfl) ?_
  refine va_get (D := D) (ci := 10) (v := .int 0) (C := RX10) (T := TX10) (N := 11) hx hb hG inG_X10 hown hE.1 hP 0 rfl rfl 7 (by decide) (hG _ q_f_X10_34) (fun _ h9 => h9) rfl dX10_isWord_1 ?_
  refine lv_iconst (v := 3) hx hb dX10_isWord_4 (by decide) ?_
  refine lv_icmp_ne (tgt := 20) hx hb dX10_isWord_5 (by decide) (fun _ => ?_) (fun q => absurd q (by decide))
  refine lv_iconst (v := 0) hx hb dX10_isWord_20 (by decide) ?_
  exact KP.rt F rfl (rfl) dX10_isWord_21

set_option maxHeartbeats 4000000 in
set_option maxRecDepth 100000 in
theorem c_hasNext (l : Launch) (D : va_G) (cy : Nat → ClassId) (tp tby tki tva tpl : Nat) : KP l yX10_hasNextClause cX10_hasNextClause 2 (some .boolean) 1 21 D (kTY cy) [.ref tp] [(tp, .inr (10, [.ref tby, .int 0, .ref tki, .ref tva, .ref tpl, .int 1, .int 0, .int 0, .int 0, .int 0, .int 1]))] (fun r => r = 0) := by
  refine KP.of (by decide) (Nat.le_of_ble_eq_true rfl) (fun p e s m below meth c ls F hE hP hl => ?_)
  have F : kF p s m meth c cX10_hasNextClause 2 (some .boolean) _ RX10 := F
  obtain ⟨hx, hb, hr, hml, hown, hG, hlk⟩ := id F
  have hl : lv_has ls 2 [(0, .ref tp)] := hl
  refine lv_aload_n hx hb dX10_hasNextClause_0 rfl (lv_at hl 0 rfl) ?_
  refine lv_bipush (v := 59) hx hb dX10_hasNextClause_1 (by decide) ?_
  refine kcV (As := [.int 59]) (rest := []) F hE hP hl.1 (c_isSign l D cy (tp := tp) (x0 := 59) (tby := tby) (tki := tki) (tva := tva) (tpl := tpl)) q_m_X10_57 mv_X10_isSign ⟨(Nat.le_of_ble_eq_true rfl), (Nat.le_of_ble_eq_true rfl)⟩ [0] rfl rfl rfl rfl rfl rfl (Nat.le_of_ble_eq_true rfl) ⟨(Nat.le_of_ble_eq_true rfl), (Nat.le_of_ble_eq_true rfl)⟩ dX10_hasNextClause_3 (fun r_1 er_1 => ?_)
  subst er_1
  refine lv_istore_n (lv' := [(1, .int 0), (0, .ref tp)]) hx hb dX10_hasNextClause_6 rfl hl (by decide) rfl (fun ls hl => ?_)
  refine lv_iload_n hx hb dX10_hasNextClause_7 rfl (lv_at hl 0 rfl) ?_
  refine lv_if_eq (tgt := 18) hx hb dX10_hasNextClause_8 (by decide) (fun _ => ?_) (fun q => absurd q (by decide))
  refine lv_aload_n hx hb dX10_hasNextClause_18 rfl (lv_at hl 1 rfl) ?_
  refine va_get (D := D) (ci := 10) (v := .int 0) (C := RX10) (T := TX10) (N := 11) hx hb hG inG_X10 hown hE.1 hP 0 rfl rfl 7 (by decide) (hG _ q_f_X10_34) (fun _ h9 => h9) rfl dX10_hasNextClause_19 ?_
  refine lv_if_eq (tgt := 34) hx hb dX10_hasNextClause_22 (by decide) (fun _ => ?_) (fun q => absurd q (by decide))
  refine lv_iload_n hx hb dX10_hasNextClause_34 rfl (lv_at hl 0 rfl) ?_
  refine lv_if_eq (tgt := 49) hx hb dX10_hasNextClause_35 (by decide) (fun _ => ?_) (fun q => absurd q (by decide))
  refine lv_iconst (v := 0) hx hb dX10_hasNextClause_49 (by decide) ?_
  exact KP.rt F rfl (rfl) dX10_hasNextClause_50

set_option maxHeartbeats 4000000 in
set_option maxRecDepth 100000 in
/-- Arrays.fill(a, v) -/
theorem c_fill (l : Launch) (D : va_G) (cy : Nat → ClassId) (q n : Nat) (hn : n < 2 ^ 31) (f : Nat → Int32) (v : Int32) : KV l yJ7_fill_53178 cJ7_fill_53178 4 0 0 D (kTY cy) [.ref q, .int v] [(q, .inl (cy 0, n, .inl f))] (S := Nat → Int32) (fun h => ∀ j, j < n → h j = v) (fun h => [(q, .inl (cy 0, n, .inl h))]) 0 0 := by
  refine KV.of (by decide) (Nat.le_of_ble_eq_true rfl) (fun p e s m below meth c ls A F hin hE hP hD hA hS hl => ?_)
  have F : kF p s m meth c cJ7_fill_53178 4 none _ RJ7 := F
  obtain ⟨hx, hb, hr, hml, hown, hG, hlk⟩ := id F
  have hl : lv_has ls 4 [(0, .ref q), (1, .int v)] := hl
  have lp : ∀ (fu k : Nat) (h : Nat → Int32) (H : Heap) (locs : List Loc) (ls : Array Slot), k + fu = n → (∀ j, j < k → h j = v) → va_P D vwCl [(q, .inl (cy 0, n, .inl h))] H → va_D A [(q, .inl (cy 0, n, .inl h))] → va_S A s.heap H locs → lv_has ls 4 [(2, .int (nI k)), (3, .int (nI n)), (0, .ref q), (1, .int v)] → W p l e (kRm 0 0 0 0) s m ([.ref q, .int v] : List Value).toArray below meth c H locs 0 0 (MQ below (va_Qv (fun h : Nat → Int32 => ∀ j, j < n → h j = v) (kBw D A (fun h => [(q, .inl (cy 0, n, .inl h))])) A) ([.ref q, .int v] : List Value).toArray s 0 0 A) (F0 m 5 ls []) := by
    intro fu
    induction fu with
    | zero =>
      intro k h H locs ls hk hv hP hD hS hl
      have e0 : k = n := by omega
      subst e0
      refine lv_iload_n hx hb dJ7_fill_53178_5 rfl (lv_at hl 0 rfl) ?_
      refine lv_iload_n hx hb dJ7_fill_53178_6 rfl (lv_at hl 1 rfl) ?_
      refine lv_icmp_ge (tgt := 20) hx hb dJ7_fill_53178_7 (by decide) (fun _ => ?_) (fun q => absurd (Int32.le_refl _) q)
      exact KV.rt h F hP hD hS hv (Nat.le_refl 0) (Nat.le_refl 0) dJ7_fill_53178_20
    | succ fu ih =>
      intro k h H locs ls hk hv hP hD hS hl
      have hlt : k < n := by omega
      refine lv_iload_n hx hb dJ7_fill_53178_5 rfl (lv_at hl 0 rfl) ?_
      refine lv_iload_n hx hb dJ7_fill_53178_6 rfl (lv_at hl 1 rfl) ?_
      refine lv_icmp_ge (tgt := 20) hx hb dJ7_fill_53178_7 (by decide) (fun q => absurd q (nI_ge hlt hn)) (fun _ => ?_)
      refine lv_aload_n hx hb dJ7_fill_53178_10 rfl (lv_at hl 2 rfl) ?_
      refine lv_iload_n hx hb dJ7_fill_53178_11 rfl (lv_at hl 0 rfl) ?_
      refine lv_iload_n hx hb dJ7_fill_53178_12 rfl (lv_at hl 3 rfl) ?_
      refine va_iast hx hb hE.1 hP hD hS 0 0 rfl rfl (vp_in_nI hlt hn) dJ7_fill_53178_13 (fun H locs hP hD hS => ?_)
      refine lv_iinc (v := nI (k + 1)) (lv' := [(2, .int (nI (k + 1))), (3, .int (nI n)), (0, .ref q), (1, .int v)]) hx hb dJ7_fill_53178_14 hl (k := 0) rfl (nI_1 k) (by decide) rfl (fun ls hl => ?_)
      refine lv_goto (tgt := 5) hx hb dJ7_fill_53178_17 (by decide) ?_
      refine ih (k + 1) (upd h (nI k).toNatClampNeg v) H locs ls (by omega) (fun j hj => ?_) hP hD hS hl
      rw [nI_clamp (by omega)]
      by_cases e1 : j = k
      · subst e1; simp [upd]
      · simp [upd, e1]; exact hv j (by omega)
  refine lv_iconst (v := 0) hx hb dJ7_fill_53178_0 (by decide) ?_
  refine lv_istore_n (lv' := [(2, .int 0), (0, .ref q), (1, .int v)]) hx hb dJ7_fill_53178_1 rfl hl (by decide) rfl (fun ls hl => ?_)
  refine lv_aload_n hx hb dJ7_fill_53178_2 rfl (lv_at hl 1 rfl) ?_
  refine va_alen (v := nI n) hx hb hE.1 hP 0 0 rfl rfl rfl dJ7_fill_53178_3 ?_
  refine lv_istore_n (lv' := [(3, .int (nI n)), (2, .int 0), (0, .ref q), (1, .int v)]) hx hb dJ7_fill_53178_4 rfl hl (by decide) rfl (fun ls hl => ?_)
  exact lp n 0 f s.heap [] ls (by omega) (fun j hj => absurd hj (Nat.not_lt_zero j)) hP hD hS (lv_sub hl [1, 0, 2, 3] rfl)

set_option maxHeartbeats 4000000 in
set_option maxRecDepth 100000 in
theorem c_clear (l : Launch) (D : va_G) (cy : Nat → ClassId) (dr dc : Nat) (f : Nat → Int32) : KV l yX1_clear cX1_clear 1 1 23 D (kTY cy) [.ref dr] [(dr, .inr (1, [.ref dc])), (dc, .inl (cy 0, 63, .inl (f)))] (S := Nat → Int32) (fun h => ∀ j, j < 63 → h j = 0) (fun h => [(dr, .inr (1, [.ref dc])), (dc, .inl (cy 0, 63, .inl (h)))]) 0 0 := by
  refine KV.of (by decide) (Nat.le_of_ble_eq_true rfl) (fun p e s m below meth c ls A F hin hE hP hD hA hS hl => ?_)
  have F : kF p s m meth c cX1_clear 1 none _ RX1 := F
  obtain ⟨hx, hb, hr, hml, hown, hG, hlk⟩ := id F
  have hl : lv_has ls 1 [(0, .ref dr)] := hl
  refine lv_aload_n hx hb dX1_clear_0 rfl (lv_at hl 0 rfl) ?_
  refine va_get (D := D) (ci := 1) (v := .ref dc) (C := RX1) (T := TX1) (N := 1) hx hb hG inG_X1 hown hE.1 hP 0 rfl rfl 0 (by decide) (hG _ q_f_X1_11) (fun _ h9 => h9) rfl dX1_clear_1 ?_
  refine lv_iconst (v := 0) hx hb dX1_clear_4 (by decide) ?_
  refine kwSV (wr := [(dr, .inr (1, [.ref dc]))]) (As := [.ref dc, .int 0]) (rest := []) F hE hP hD hS hA hl.1 (c_fill l D cy (q := dc) (v := 0) (f := f) (n := 63) (hn := (by decide))) q_m_X1_21 ms_J7_fill_53178 ⟨(Nat.le_of_ble_eq_true rfl), (Nat.le_of_ble_eq_true rfl)⟩ [1] [0] (by decide) rfl rfl (by decide) (by decide) rfl rfl (Nat.le_of_ble_eq_true rfl) ⟨(Nat.le_of_ble_eq_true rfl), (Nat.le_of_ble_eq_true rfl)⟩ dX1_clear_5 (fun u_1 H locs eu_1 hP hD hS => ?_)
  have hP : va_P D vwCl [(dr, .inr (1, [.ref dc])), (dc, .inl (cy 0, 63, .inl (u_1)))] H := hP
  have hD : va_D A [(dr, .inr (1, [.ref dc])), (dc, .inl (cy 0, 63, .inl (u_1)))] := hD
  exact KV.rt u_1 F (hP.sub [0, 1] rfl) (hD.sub [0, 1] (by decide) rfl) hS (eu_1) (Nat.le_of_ble_eq_true rfl) (Nat.le_of_ble_eq_true rfl) dX1_clear_8

set_option maxHeartbeats 4000000 in
set_option maxRecDepth 100000 in
theorem c_opensClause (l : Launch) (D : va_G) (cy : Nat → ClassId)  : KP l yX3_opensClause cX3_opensClause 1 (some .boolean) 0 0 D (kTY cy) [.int (-1)] [] (fun r => r = 0) := by
  refine KP.of (by decide) (Nat.le_of_ble_eq_true rfl) (fun p e s m below meth c ls F hE hP hl => ?_)
  have F : kF p s m meth c cX3_opensClause 1 (some .boolean) _ RX3 := F
  obtain ⟨hx, hb, hr, hml, hown, hG, hlk⟩ := id F
  have hl : lv_has ls 1 [(0, .int (-1))] := hl
  refine lv_iload_n hx hb dX3_opensClause_0 rfl (lv_at hl 0 rfl) ?_
  refine lv_bipush (v := 13) hx hb dX3_opensClause_1 (by decide) ?_
  refine lv_icmp_eq (tgt := 21) hx hb dX3_opensClause_3 (by decide) (fun q => absurd q (by decide)) (fun _ => ?_)
  refine lv_iload_n hx hb dX3_opensClause_6 rfl (lv_at hl 0 rfl) ?_
  refine lv_bipush (v := 10) hx hb dX3_opensClause_7 (by decide) ?_
  refine lv_icmp_eq (tgt := 21) hx hb dX3_opensClause_9 (by decide) (fun q => absurd q (by decide)) (fun _ => ?_)
  refine lv_iload_n hx hb dX3_opensClause_12 rfl (lv_at hl 0 rfl) ?_
  refine lv_iconst (v := 1) hx hb dX3_opensClause_13 (by decide) ?_
  refine lv_icmp_eq (tgt := 21) hx hb dX3_opensClause_14 (by decide) (fun q => absurd q (by decide)) (fun _ => ?_)
  refine lv_iload_n hx hb dX3_opensClause_17 rfl (lv_at hl 0 rfl) ?_
  refine lv_if_ne (tgt := 25) hx hb dX3_opensClause_18 (by decide) (fun _ => ?_) (fun q => absurd q (by decide))
  refine lv_iconst (v := 0) hx hb dX3_opensClause_25 (by decide) ?_
  exact KP.rt F rfl (rfl) dX3_opensClause_26

set_option maxHeartbeats 4000000 in
set_option maxRecDepth 100000 in
theorem c_readClauseG (l : Launch) (D : va_G) (cy : Nat → ClassId) (gr dr : Nat) (tp tby tki tva tpl : Nat) : KV l yX3_readClause cX3_readClause 4 1 22 D (kTY cy) [.ref gr, .ref tp, .int 0] [(gr, .inr (3, [.ref dr])), (tp, .inr (10, [.ref tby, .int 0, .ref tki, .ref tva, .ref tpl, .int 1, .int 0, .int 0, .int 0, .int 0, .int 0]))] (S := Unit) (fun _ => True) (fun _ => [(gr, .inr (3, [.ref dr])), (tp, .inr (10, [.ref tby, .int 0, .ref tki, .ref tva, .ref tpl, .int 1, .int 0, .int 0, .int 0, .int 0, .int 1]))]) 0 0 := by
  refine KV.of (by decide) (Nat.le_of_ble_eq_true rfl) (fun p e s m below meth c ls A F hin hE hP hD hA hS hl => ?_)
  have F : kF p s m meth c cX3_readClause 4 none _ RX3 := F
  obtain ⟨hx, hb, hr, hml, hown, hG, hlk⟩ := id F
  have hl : lv_has ls 4 [(0, .ref gr), (1, .ref tp), (2, .int 0)] := hl
  refine lv_aload_n hx hb dX3_readClause_0 rfl (lv_at hl 1 rfl) ?_
  refine va_get (D := D) (ci := 10) (v := .int 0) (C := RX10) (T := TX10) (N := 11) hx hb hG inG_X10 hown hE.1 hP 1 rfl rfl 7 (by decide) (hG _ q_f_X3_41) (fun _ h9 => h9) rfl dX3_readClause_1 ?_
  refine lv_iconst (v := 3) hx hb dX3_readClause_4 (by decide) ?_
  refine lv_icmp_ne (tgt := 15) hx hb dX3_readClause_5 (by decide) (fun _ => ?_) (fun q => absurd q (by decide))
  refine lv_iconst (v := (-1)) hx hb dX3_readClause_15 (by decide) ?_
  refine lv_istore_n (lv' := [(3, .int (-1)), (0, .ref gr), (1, .ref tp), (2, .int 0)]) hx hb dX3_readClause_16 rfl hl (by decide) rfl (fun ls hl => ?_)
  refine lv_iload_n hx hb dX3_readClause_17 rfl (lv_at hl 0 rfl) ?_
  refine kcS (As := [.int (-1)]) (rest := []) F hE hP hl.1 (c_opensClause l D cy ) q_m_X3_47 ms_X3_opensClause ⟨(Nat.le_of_ble_eq_true rfl), (Nat.le_of_ble_eq_true rfl)⟩ [] rfl rfl rfl (Nat.le_of_ble_eq_true rfl) ⟨(Nat.le_of_ble_eq_true rfl), (Nat.le_of_ble_eq_true rfl)⟩ dX3_readClause_18 (fun r_1 er_1 => ?_)
  subst er_1
  refine lv_if_ne (tgt := 36) hx hb dX3_readClause_21 (by decide) (fun q => absurd q (by decide)) (fun _ => ?_)
  refine lv_aload_n hx hb dX3_readClause_24 rfl (lv_at hl 2 rfl) ?_
  refine lv_aload_n hx hb dX3_readClause_25 rfl (lv_at hl 2 rfl) ?_
  refine va_get (D := D) (ci := 10) (v := .int 0) (C := RX10) (T := TX10) (N := 11) hx hb hG inG_X10 hown hE.1 hP 1 rfl rfl 9 (by decide) (hG _ q_f_X3_51) (fun _ h9 => h9) rfl dX3_readClause_26 ?_
  refine lv_iconst (v := 0) hx hb dX3_readClause_29 (by decide) ?_
  refine kwVV (wr := [(gr, .inr (3, [.ref dr]))]) (As := [.int 0, .int 0]) (rest := []) F hE hP hD hS hA hl.1 (c_failAt l D cy (tp := tp) (tby := tby) (tki := tki) (tva := tva) (tpl := tpl)) q_m_X3_54 mv_X10_failAt ⟨(Nat.le_of_ble_eq_true rfl), (Nat.le_of_ble_eq_true rfl)⟩ [1] [0] (by decide) rfl rfl (by decide) (by decide) rfl rfl rfl rfl rfl (Nat.le_of_ble_eq_true rfl) ⟨(Nat.le_of_ble_eq_true rfl), (Nat.le_of_ble_eq_true rfl)⟩ dX3_readClause_30 (fun u_2 H locs eu_2 hP hD hS => ?_)
  have hP : va_P D vwCl [(gr, .inr (3, [.ref dr])), (tp, .inr (10, [.ref tby, .int 0, .ref tki, .ref tva, .ref tpl, .int 1, .int 0, .int 0, .int 0, .int 0, .int 1]))] H := hP
  have hD : va_D A [(gr, .inr (3, [.ref dr])), (tp, .inr (10, [.ref tby, .int 0, .ref tki, .ref tva, .ref tpl, .int 1, .int 0, .int 0, .int 0, .int 0, .int 1]))] := hD
  refine lv_goto (tgt := 95) hx hb dX3_readClause_33 (by decide) ?_
  exact KV.rt () F (hP.sub [0, 1] rfl) (hD.sub [0, 1] (by decide) rfl) hS (trivial) (Nat.le_of_ble_eq_true rfl) (Nat.le_of_ble_eq_true rfl) dX3_readClause_95

set_option maxHeartbeats 4000000 in
set_option maxRecDepth 100000 in
theorem c_readFromG (l : Launch) (D : va_G) (cy : Nat → ClassId) (gr dr dc : Nat) (tp tby tki tva tpl : Nat) (f : Nat → Int32) : KI l yX3_readFrom cX3_readFrom 3 (some .int) 2 45 D (kTY cy) [.ref gr, .ref tp] [(gr, .inr (3, [.ref dr])), (tp, .inr (10, [.ref tby, .int 0, .ref tki, .ref tva, .ref tpl, .int 0, .int 0, .int 0, .int 0, .int 0, .int 0])), (tki, .inl (cy 0, 401, .inl (fun _ => 0))), (tva, .inl (cy 0, 401, .inl (fun _ => 0))), (tpl, .inl (cy 0, 401, .inl (fun _ => 0))), (dr, .inr (1, [.ref dc])), (dc, .inl (cy 0, 63, .inl (f)))] (S := Unit) (fun r _ => r = 1) (fun _ => [(gr, .inr (3, [.ref dr])), (tp, .inr (10, [.ref tby, .int 0, .ref tki, .ref tva, .ref tpl, .int 1, .int 0, .int 0, .int 0, .int 0, .int 1]))]) 0 0 := by
  refine KI.of (by decide) (Nat.le_of_ble_eq_true rfl) (fun p e s m below meth c ls A F hE hP hD hA hS hl => ?_)
  have F : kF p s m meth c cX3_readFrom 3 (some .int) _ RX3 := F
  obtain ⟨hx, hb, hr, hml, hown, hG, hlk⟩ := id F
  have hl : lv_has ls 3 [(0, .ref gr), (1, .ref tp)] := hl
  refine lv_aload_n hx hb dX3_readFrom_0 rfl (lv_at hl 1 rfl) ?_
  refine kwVV (wr := [(gr, .inr (3, [.ref dr])), (dr, .inr (1, [.ref dc])), (dc, .inl (cy 0, 63, .inl (f)))]) (As := []) (rest := []) F hE hP hD hS hA hl.1 (c_open l D cy (tp := tp) (tby := tby) (tki := tki) (tva := tva) (tpl := tpl)) q_m_X3_18 mv_X10_open ⟨(Nat.le_of_ble_eq_true rfl), (Nat.le_of_ble_eq_true rfl)⟩ [1, 2, 3, 4] [0, 5, 6] (by decide) rfl rfl (by decide) (by decide) rfl rfl rfl rfl rfl (Nat.le_of_ble_eq_true rfl) ⟨(Nat.le_of_ble_eq_true rfl), (Nat.le_of_ble_eq_true rfl)⟩ dX3_readFrom_1 (fun u_1 H locs eu_1 hP hD hS => ?_)
  have hP : va_P D vwCl [(gr, .inr (3, [.ref dr])), (dr, .inr (1, [.ref dc])), (dc, .inl (cy 0, 63, .inl (f))), (tp, .inr (10, [.ref tby, .int 0, .ref tki, .ref tva, .ref tpl, .int 1, .int 0, .int 0, .int 0, .int 0, .int 0])), (tki, .inl (cy 0, 401, .inl (fun _ => 0))), (tva, .inl (cy 0, 401, .inl (fun _ => 0))), (tpl, .inl (cy 0, 401, .inl (fun _ => 0)))] H := hP
  have hD : va_D A [(gr, .inr (3, [.ref dr])), (dr, .inr (1, [.ref dc])), (dc, .inl (cy 0, 63, .inl (f))), (tp, .inr (10, [.ref tby, .int 0, .ref tki, .ref tva, .ref tpl, .int 1, .int 0, .int 0, .int 0, .int 0, .int 0])), (tki, .inl (cy 0, 401, .inl (fun _ => 0))), (tva, .inl (cy 0, 401, .inl (fun _ => 0))), (tpl, .inl (cy 0, 401, .inl (fun _ => 0)))] := hD
  refine lv_aload_n hx hb dX3_readFrom_4 rfl (lv_at hl 0 rfl) ?_
  refine va_get (D := D) (ci := 3) (v := .ref dr) (C := RX3) (T := TX3) (N := 1) hx hb hG inG_X3 hown hE.1 hP 0 rfl rfl 0 (by decide) (hG _ q_f_X3_12) (fun _ h9 => h9) rfl dX3_readFrom_5 ?_
  refine kwVV (wr := [(gr, .inr (3, [.ref dr])), (tp, .inr (10, [.ref tby, .int 0, .ref tki, .ref tva, .ref tpl, .int 1, .int 0, .int 0, .int 0, .int 0, .int 0])), (tki, .inl (cy 0, 401, .inl (fun _ => 0))), (tva, .inl (cy 0, 401, .inl (fun _ => 0))), (tpl, .inl (cy 0, 401, .inl (fun _ => 0)))]) (As := []) (rest := []) F hE hP hD hS hA hl.1 (c_clear l D cy (dr := dr) (dc := dc) (f := f)) q_m_X3_23 mv_X1_clear ⟨(Nat.le_of_ble_eq_true rfl), (Nat.le_of_ble_eq_true rfl)⟩ [1, 2] [0, 3, 4, 5, 6] (by decide) rfl rfl (by decide) (by decide) rfl rfl rfl rfl rfl (Nat.le_of_ble_eq_true rfl) ⟨(Nat.le_of_ble_eq_true rfl), (Nat.le_of_ble_eq_true rfl)⟩ dX3_readFrom_8 (fun u_2 H locs eu_2 hP hD hS => ?_)
  have hP : va_P D vwCl [(gr, .inr (3, [.ref dr])), (tp, .inr (10, [.ref tby, .int 0, .ref tki, .ref tva, .ref tpl, .int 1, .int 0, .int 0, .int 0, .int 0, .int 0])), (tki, .inl (cy 0, 401, .inl (fun _ => 0))), (tva, .inl (cy 0, 401, .inl (fun _ => 0))), (tpl, .inl (cy 0, 401, .inl (fun _ => 0))), (dr, .inr (1, [.ref dc])), (dc, .inl (cy 0, 63, .inl (u_2)))] H := hP
  have hD : va_D A [(gr, .inr (3, [.ref dr])), (tp, .inr (10, [.ref tby, .int 0, .ref tki, .ref tva, .ref tpl, .int 1, .int 0, .int 0, .int 0, .int 0, .int 0])), (tki, .inl (cy 0, 401, .inl (fun _ => 0))), (tva, .inl (cy 0, 401, .inl (fun _ => 0))), (tpl, .inl (cy 0, 401, .inl (fun _ => 0))), (dr, .inr (1, [.ref dc])), (dc, .inl (cy 0, 63, .inl (u_2)))] := hD
  refine lv_iconst (v := 0) hx hb dX3_readFrom_11 (by decide) ?_
  refine lv_istore_n (lv' := [(2, .int 0), (0, .ref gr), (1, .ref tp)]) hx hb dX3_readFrom_12 rfl hl (by decide) rfl (fun ls hl => ?_)
  refine lv_aload_n hx hb dX3_readFrom_13 rfl (lv_at hl 1 rfl) ?_
  refine lv_aload_n hx hb dX3_readFrom_14 rfl (lv_at hl 2 rfl) ?_
  refine lv_iload_n hx hb dX3_readFrom_15 rfl (lv_at hl 0 rfl) ?_
  refine kwVV (wr := [(tki, .inl (cy 0, 401, .inl (fun _ => 0))), (tva, .inl (cy 0, 401, .inl (fun _ => 0))), (tpl, .inl (cy 0, 401, .inl (fun _ => 0))), (dr, .inr (1, [.ref dc])), (dc, .inl (cy 0, 63, .inl (u_2)))]) (As := [.ref tp, .int 0]) (rest := []) F hE hP hD hS hA hl.1 (c_readClauseG l D cy (gr := gr) (tp := tp) (dr := dr) (tby := tby) (tki := tki) (tva := tva) (tpl := tpl)) q_m_X3_26 mv_X3_readClause ⟨(Nat.le_of_ble_eq_true rfl), (Nat.le_of_ble_eq_true rfl)⟩ [0, 1] [2, 3, 4, 5, 6] (by decide) rfl rfl (by decide) (by decide) rfl rfl rfl rfl rfl (Nat.le_of_ble_eq_true rfl) ⟨(Nat.le_of_ble_eq_true rfl), (Nat.le_of_ble_eq_true rfl)⟩ dX3_readFrom_16 (fun u_3 H locs eu_3 hP hD hS => ?_)
  have hP : va_P D vwCl [(tki, .inl (cy 0, 401, .inl (fun _ => 0))), (tva, .inl (cy 0, 401, .inl (fun _ => 0))), (tpl, .inl (cy 0, 401, .inl (fun _ => 0))), (dr, .inr (1, [.ref dc])), (dc, .inl (cy 0, 63, .inl (u_2))), (gr, .inr (3, [.ref dr])), (tp, .inr (10, [.ref tby, .int 0, .ref tki, .ref tva, .ref tpl, .int 1, .int 0, .int 0, .int 0, .int 0, .int 1]))] H := hP
  have hD : va_D A [(tki, .inl (cy 0, 401, .inl (fun _ => 0))), (tva, .inl (cy 0, 401, .inl (fun _ => 0))), (tpl, .inl (cy 0, 401, .inl (fun _ => 0))), (dr, .inr (1, [.ref dc])), (dc, .inl (cy 0, 63, .inl (u_2))), (gr, .inr (3, [.ref dr])), (tp, .inr (10, [.ref tby, .int 0, .ref tki, .ref tva, .ref tpl, .int 1, .int 0, .int 0, .int 0, .int 0, .int 1]))] := hD
  refine lv_iinc (v := 1) (lv' := [(2, .int 1), (0, .ref gr), (1, .ref tp)]) hx hb dX3_readFrom_19 hl (k := 0) rfl (by decide) (by decide) rfl (fun ls hl => ?_)
  refine lv_iload_n hx hb dX3_readFrom_22 rfl (lv_at hl 0 rfl) ?_
  refine lv_sipush (v := 400) hx hb dX3_readFrom_23 (by decide) ?_
  refine lv_icmp_gt (tgt := 36) hx hb dX3_readFrom_26 (by decide) (fun q => absurd q (by decide)) (fun _ => ?_)
  refine lv_aload_n hx hb dX3_readFrom_29 rfl (lv_at hl 2 rfl) ?_
  refine kcV (As := []) (rest := []) F hE hP hl.1 (c_hasNext l D cy (tp := tp) (tby := tby) (tki := tki) (tva := tva) (tpl := tpl)) q_m_X3_30 mv_X10_hasNextClause ⟨(Nat.le_of_ble_eq_true rfl), (Nat.le_of_ble_eq_true rfl)⟩ [6] rfl rfl rfl rfl rfl rfl (Nat.le_of_ble_eq_true rfl) ⟨(Nat.le_of_ble_eq_true rfl), (Nat.le_of_ble_eq_true rfl)⟩ dX3_readFrom_30 (fun r_4 er_4 => ?_)
  subst er_4
  refine lv_if_ne (tgt := 13) hx hb dX3_readFrom_33 (by decide) (fun q => absurd q (by decide)) (fun _ => ?_)
  refine lv_aload_n hx hb dX3_readFrom_36 rfl (lv_at hl 2 rfl) ?_
  refine va_get (D := D) (ci := 10) (v := .int 1) (C := RX10) (T := TX10) (N := 11) hx hb hG inG_X10 hown hE.1 hP 6 rfl rfl 10 (by decide) (hG _ q_f_X3_34) (fun _ h9 => h9) rfl dX3_readFrom_37 ?_
  refine lv_if_ne (tgt := 47) hx hb dX3_readFrom_40 (by decide) (fun _ => ?_) (fun q => absurd q (by decide))
  refine lv_aload_n hx hb dX3_readFrom_47 rfl (lv_at hl 2 rfl) ?_
  refine va_get (D := D) (ci := 10) (v := .int 1) (C := RX10) (T := TX10) (N := 11) hx hb hG inG_X10 hown hE.1 hP 6 rfl rfl 10 (by decide) (hG _ q_f_X3_34) (fun _ h9 => h9) rfl dX3_readFrom_48 ?_
  exact KI.rt () F rfl (hP.sub [5, 6] rfl) (hD.sub [5, 6] (by decide) rfl) hS (rfl) (Nat.le_of_ble_eq_true rfl) (Nat.le_of_ble_eq_true rfl) dX3_readFrom_51

set_option maxHeartbeats 4000000 in
set_option maxRecDepth 100000 in
theorem x_green (l : Launch) (D : va_G) (cy : Nat → ClassId) (h0 tp gr rr ru nw im ac py fo su : Nat) (dr dc tby tki tva tpl : Nat) : KI l yX11_green cX11_green 2 (some .int) 3 67 D (kTY cy) [.ref h0] [(h0, .inr (11, [.ref tp, .ref gr, .ref rr, .ref ru, .int 0, .ref nw, .ref im, .ref ac, .ref py, .ref fo, .ref su])), (gr, .inr (3, [.ref dr])), (tp, .inr (10, [.ref tby, .int 0, .ref tki, .ref tva, .ref tpl, .int 0, .int 0, .int 0, .int 0, .int 0, .int 0])), (tki, .inl (cy 0, 401, .inl (fun _ => 0))), (tva, .inl (cy 0, 401, .inl (fun _ => 0))), (tpl, .inl (cy 0, 401, .inl (fun _ => 0))), (dr, .inr (1, [.ref dc])), (dc, .inl (cy 0, 63, .inl (fun _ => 0)))] (S := Unit) (fun r _ => r = -3) (fun _ => []) 0 0 := by
  refine KI.of (by decide) (Nat.le_of_ble_eq_true rfl) (fun p e s m below meth c ls A F hE hP hD hA hS hl => ?_)
  have F : kF p s m meth c cX11_green 2 (some .int) _ RX11 := F
  obtain ⟨hx, hb, hr, hml, hown, hG, hlk⟩ := id F
  have hl : lv_has ls 2 [(0, .ref h0)] := hl
  refine lv_aload_n hx hb dX11_green_0 rfl (lv_at hl 0 rfl) ?_
  refine va_get (D := D) (ci := 11) (v := .ref gr) (C := RX11) (T := TX11) (N := 11) hx hb hG inG_X11 hown hE.1 hP 0 rfl rfl 1 (by decide) (hG _ q_f_X11_19) (fun _ h9 => h9) rfl dX11_green_1 ?_
  refine lv_aload_n hx hb dX11_green_4 rfl (lv_at hl 0 rfl) ?_
  refine va_get (D := D) (ci := 11) (v := .ref tp) (C := RX11) (T := TX11) (N := 11) hx hb hG inG_X11 hown hE.1 hP 0 rfl rfl 0 (by decide) (hG _ q_f_X11_10) (fun _ h9 => h9) rfl dX11_green_5 ?_
  refine kwVI (wr := [(h0, .inr (11, [.ref tp, .ref gr, .ref rr, .ref ru, .int 0, .ref nw, .ref im, .ref ac, .ref py, .ref fo, .ref su]))]) (As := [.ref tp]) (rest := []) F hE hP hD hS hA hl.1 (c_readFromG l D cy (gr := gr) (tp := tp) (dr := dr) (tby := tby) (tki := tki) (tva := tva) (tpl := tpl) (dc := dc) (f := (fun _ => 0))) q_m_X11_94 mv_X3_readFrom ⟨(Nat.le_of_ble_eq_true rfl), (Nat.le_of_ble_eq_true rfl)⟩ [1, 2, 3, 4, 5, 6, 7] [0] (by decide) rfl rfl (by decide) (by decide) rfl rfl rfl rfl rfl (Nat.le_of_ble_eq_true rfl) ⟨(Nat.le_of_ble_eq_true rfl), (Nat.le_of_ble_eq_true rfl)⟩ dX11_green_8 (fun r_2 u_1 H locs eu_1 hP hD hS => ?_)
  obtain rfl := eu_1
  have hP : va_P D vwCl [(h0, .inr (11, [.ref tp, .ref gr, .ref rr, .ref ru, .int 0, .ref nw, .ref im, .ref ac, .ref py, .ref fo, .ref su])), (gr, .inr (3, [.ref dr])), (tp, .inr (10, [.ref tby, .int 0, .ref tki, .ref tva, .ref tpl, .int 1, .int 0, .int 0, .int 0, .int 0, .int 1]))] H := hP
  have hD : va_D A [(h0, .inr (11, [.ref tp, .ref gr, .ref rr, .ref ru, .int 0, .ref nw, .ref im, .ref ac, .ref py, .ref fo, .ref su])), (gr, .inr (3, [.ref dr])), (tp, .inr (10, [.ref tby, .int 0, .ref tki, .ref tva, .ref tpl, .int 1, .int 0, .int 0, .int 0, .int 0, .int 1]))] := hD
  refine lv_istore_n (lv' := [(1, .int 1), (0, .ref h0)]) hx hb dX11_green_11 rfl hl (by decide) rfl (fun ls hl => ?_)
  refine lv_iload_n hx hb dX11_green_12 rfl (lv_at hl 0 rfl) ?_
  refine lv_if_eq (tgt := 21) hx hb dX11_green_13 (by decide) (fun q => absurd q (by decide)) (fun _ => ?_)
  refine lv_bipush (v := (-2)) hx hb dX11_green_16 (by decide) ?_
  refine lv_iload_n hx hb dX11_green_18 rfl (lv_at hl 0 rfl) ?_
  refine lv_isub hx hb dX11_green_19 ?_
  refine k_top (z := (-3)) (by decide) ?_
  exact KI.rt () F rfl (hP.sub [] rfl) (hD.sub [] (by decide) rfl) hS (rfl) (Nat.le_of_ble_eq_true rfl) (Nat.le_of_ble_eq_true rfl) dX11_green_20

set_option maxHeartbeats 4000000 in
set_option maxRecDepth 100000 in
theorem c_readClauseR (l : Launch) (D : va_G) (cy : Nat → ClassId) (rr rs : Nat) (tp tby tki tva tpl : Nat) : KV l yX8_readClause cX8_readClause 3 1 22 D (kTY cy) [.ref rr, .ref tp, .int 0] [(rr, .inr (8, [.ref rs, .int 0, .int 0])), (tp, .inr (10, [.ref tby, .int 0, .ref tki, .ref tva, .ref tpl, .int 1, .int 0, .int 0, .int 0, .int 0, .int 0]))] (S := Unit) (fun _ => True) (fun _ => [(rr, .inr (8, [.ref rs, .int 0, .int 0])), (tp, .inr (10, [.ref tby, .int 0, .ref tki, .ref tva, .ref tpl, .int 1, .int 0, .int 0, .int 0, .int 0, .int 1]))]) 0 0 := by
  refine KV.of (by decide) (Nat.le_of_ble_eq_true rfl) (fun p e s m below meth c ls A F hin hE hP hD hA hS hl => ?_)
  have F : kF p s m meth c cX8_readClause 3 none _ RX8 := F
  obtain ⟨hx, hb, hr, hml, hown, hG, hlk⟩ := id F
  have hl : lv_has ls 3 [(0, .ref rr), (1, .ref tp), (2, .int 0)] := hl
  refine lv_aload_n hx hb dX8_readClause_0 rfl (lv_at hl 1 rfl) ?_
  refine lv_bipush (v := 14) hx hb dX8_readClause_1 (by decide) ?_
  refine kcV (As := [.int 14]) (rest := []) F hE hP hl.1 (c_isWord l D cy (tp := tp) (x0 := 14) (tby := tby) (tki := tki) (tva := tva) (tpl := tpl)) q_m_X8_49 mv_X10_isWord ⟨(Nat.le_of_ble_eq_true rfl), (Nat.le_of_ble_eq_true rfl)⟩ [1] rfl rfl rfl rfl rfl rfl (Nat.le_of_ble_eq_true rfl) ⟨(Nat.le_of_ble_eq_true rfl), (Nat.le_of_ble_eq_true rfl)⟩ dX8_readClause_3 (fun r_1 er_1 => ?_)
  subst er_1
  refine lv_if_ne (tgt := 19) hx hb dX8_readClause_6 (by decide) (fun q => absurd q (by decide)) (fun _ => ?_)
  refine lv_aload_n hx hb dX8_readClause_9 rfl (lv_at hl 1 rfl) ?_
  refine lv_aload_n hx hb dX8_readClause_10 rfl (lv_at hl 1 rfl) ?_
  refine va_get (D := D) (ci := 10) (v := .int 0) (C := RX10) (T := TX10) (N := 11) hx hb hG inG_X10 hown hE.1 hP 1 rfl rfl 9 (by decide) (hG _ q_f_X8_53) (fun _ h9 => h9) rfl dX8_readClause_11 ?_
  refine lv_iconst (v := 0) hx hb dX8_readClause_14 (by decide) ?_
  refine kwVV (wr := [(rr, .inr (8, [.ref rs, .int 0, .int 0]))]) (As := [.int 0, .int 0]) (rest := []) F hE hP hD hS hA hl.1 (c_failAt l D cy (tp := tp) (tby := tby) (tki := tki) (tva := tva) (tpl := tpl)) q_m_X8_56 mv_X10_failAt ⟨(Nat.le_of_ble_eq_true rfl), (Nat.le_of_ble_eq_true rfl)⟩ [1] [0] (by decide) rfl rfl (by decide) (by decide) rfl rfl rfl rfl rfl (Nat.le_of_ble_eq_true rfl) ⟨(Nat.le_of_ble_eq_true rfl), (Nat.le_of_ble_eq_true rfl)⟩ dX8_readClause_15 (fun u_2 H locs eu_2 hP hD hS => ?_)
  have hP : va_P D vwCl [(rr, .inr (8, [.ref rs, .int 0, .int 0])), (tp, .inr (10, [.ref tby, .int 0, .ref tki, .ref tva, .ref tpl, .int 1, .int 0, .int 0, .int 0, .int 0, .int 1]))] H := hP
  have hD : va_D A [(rr, .inr (8, [.ref rs, .int 0, .int 0])), (tp, .inr (10, [.ref tby, .int 0, .ref tki, .ref tva, .ref tpl, .int 1, .int 0, .int 0, .int 0, .int 0, .int 1]))] := hD
  exact KV.rt () F (hP.sub [0, 1] rfl) (hD.sub [0, 1] (by decide) rfl) hS (trivial) (Nat.le_of_ble_eq_true rfl) (Nat.le_of_ble_eq_true rfl) dX8_readClause_18

set_option maxHeartbeats 4000000 in
set_option maxRecDepth 100000 in
theorem c_readFromR (l : Launch) (D : va_G) (cy : Nat → ClassId) (rr rs : Nat) (tp tby tki tva tpl : Nat) : KI l yX8_readFrom cX8_readFrom 3 (some .int) 2 45 D (kTY cy) [.ref rr, .ref tp] [(rr, .inr (8, [.ref rs, .int 0, .int 0])), (tp, .inr (10, [.ref tby, .int 0, .ref tki, .ref tva, .ref tpl, .int 0, .int 0, .int 0, .int 0, .int 0, .int 0])), (tki, .inl (cy 0, 401, .inl (fun _ => 0))), (tva, .inl (cy 0, 401, .inl (fun _ => 0))), (tpl, .inl (cy 0, 401, .inl (fun _ => 0)))] (S := Unit) (fun r _ => r = 1) (fun _ => [(rr, .inr (8, [.ref rs, .int 0, .int 0])), (tp, .inr (10, [.ref tby, .int 0, .ref tki, .ref tva, .ref tpl, .int 1, .int 0, .int 0, .int 0, .int 0, .int 1]))]) 0 0 := by
  refine KI.of (by decide) (Nat.le_of_ble_eq_true rfl) (fun p e s m below meth c ls A F hE hP hD hA hS hl => ?_)
  have F : kF p s m meth c cX8_readFrom 3 (some .int) _ RX8 := F
  obtain ⟨hx, hb, hr, hml, hown, hG, hlk⟩ := id F
  have hl : lv_has ls 3 [(0, .ref rr), (1, .ref tp)] := hl
  refine lv_aload_n hx hb dX8_readFrom_0 rfl (lv_at hl 1 rfl) ?_
  refine kwVV (wr := [(rr, .inr (8, [.ref rs, .int 0, .int 0]))]) (As := []) (rest := []) F hE hP hD hS hA hl.1 (c_open l D cy (tp := tp) (tby := tby) (tki := tki) (tva := tva) (tpl := tpl)) q_m_X8_24 mv_X10_open ⟨(Nat.le_of_ble_eq_true rfl), (Nat.le_of_ble_eq_true rfl)⟩ [1, 2, 3, 4] [0] (by decide) rfl rfl (by decide) (by decide) rfl rfl rfl rfl rfl (Nat.le_of_ble_eq_true rfl) ⟨(Nat.le_of_ble_eq_true rfl), (Nat.le_of_ble_eq_true rfl)⟩ dX8_readFrom_1 (fun u_1 H locs eu_1 hP hD hS => ?_)
  have hP : va_P D vwCl [(rr, .inr (8, [.ref rs, .int 0, .int 0])), (tp, .inr (10, [.ref tby, .int 0, .ref tki, .ref tva, .ref tpl, .int 1, .int 0, .int 0, .int 0, .int 0, .int 0])), (tki, .inl (cy 0, 401, .inl (fun _ => 0))), (tva, .inl (cy 0, 401, .inl (fun _ => 0))), (tpl, .inl (cy 0, 401, .inl (fun _ => 0)))] H := hP
  have hD : va_D A [(rr, .inr (8, [.ref rs, .int 0, .int 0])), (tp, .inr (10, [.ref tby, .int 0, .ref tki, .ref tva, .ref tpl, .int 1, .int 0, .int 0, .int 0, .int 0, .int 0])), (tki, .inl (cy 0, 401, .inl (fun _ => 0))), (tva, .inl (cy 0, 401, .inl (fun _ => 0))), (tpl, .inl (cy 0, 401, .inl (fun _ => 0)))] := hD
  refine lv_aload_n hx hb dX8_readFrom_4 rfl (lv_at hl 0 rfl) ?_
  refine lv_iconst (v := 0) hx hb dX8_readFrom_5 (by decide) ?_
  refine va_put (D := D) (ci := 8) (v := .int 0) (ty := .int) (C := RX8) (T := TX8) (N := 3) hx hb hG inG_X8 tyX8 tyX8_ok nmX8 hown hE.1 hP hD hS 0 rfl rfl 1 (by decide) (hG _ q_f_X8_17) (fun _ h9 => h9) rfl (by decide +kernel) rfl rfl (Nat.le_of_ble_eq_true rfl) dX8_readFrom_6 (fun H locs hP hD hS => ?_)
  have hP : va_P D vwCl [(rr, .inr (8, [.ref rs, .int 0, .int 0])), (tp, .inr (10, [.ref tby, .int 0, .ref tki, .ref tva, .ref tpl, .int 1, .int 0, .int 0, .int 0, .int 0, .int 0])), (tki, .inl (cy 0, 401, .inl (fun _ => 0))), (tva, .inl (cy 0, 401, .inl (fun _ => 0))), (tpl, .inl (cy 0, 401, .inl (fun _ => 0)))] H := hP
  have hD : va_D A [(rr, .inr (8, [.ref rs, .int 0, .int 0])), (tp, .inr (10, [.ref tby, .int 0, .ref tki, .ref tva, .ref tpl, .int 1, .int 0, .int 0, .int 0, .int 0, .int 0])), (tki, .inl (cy 0, 401, .inl (fun _ => 0))), (tva, .inl (cy 0, 401, .inl (fun _ => 0))), (tpl, .inl (cy 0, 401, .inl (fun _ => 0)))] := hD
  refine lv_aload_n hx hb dX8_readFrom_9 rfl (lv_at hl 0 rfl) ?_
  refine lv_iconst (v := 0) hx hb dX8_readFrom_10 (by decide) ?_
  refine va_put (D := D) (ci := 8) (v := .int 0) (ty := .int) (C := RX8) (T := TX8) (N := 3) hx hb hG inG_X8 tyX8 tyX8_ok nmX8 hown hE.1 hP hD hS 0 rfl rfl 2 (by decide) (hG _ q_f_X8_21) (fun _ h9 => h9) rfl (by decide +kernel) rfl rfl (Nat.le_of_ble_eq_true rfl) dX8_readFrom_11 (fun H locs hP hD hS => ?_)
  have hP : va_P D vwCl [(rr, .inr (8, [.ref rs, .int 0, .int 0])), (tp, .inr (10, [.ref tby, .int 0, .ref tki, .ref tva, .ref tpl, .int 1, .int 0, .int 0, .int 0, .int 0, .int 0])), (tki, .inl (cy 0, 401, .inl (fun _ => 0))), (tva, .inl (cy 0, 401, .inl (fun _ => 0))), (tpl, .inl (cy 0, 401, .inl (fun _ => 0)))] H := hP
  have hD : va_D A [(rr, .inr (8, [.ref rs, .int 0, .int 0])), (tp, .inr (10, [.ref tby, .int 0, .ref tki, .ref tva, .ref tpl, .int 1, .int 0, .int 0, .int 0, .int 0, .int 0])), (tki, .inl (cy 0, 401, .inl (fun _ => 0))), (tva, .inl (cy 0, 401, .inl (fun _ => 0))), (tpl, .inl (cy 0, 401, .inl (fun _ => 0)))] := hD
  refine lv_iconst (v := 0) hx hb dX8_readFrom_14 (by decide) ?_
  refine lv_istore_n (lv' := [(2, .int 0), (0, .ref rr), (1, .ref tp)]) hx hb dX8_readFrom_15 rfl hl (by decide) rfl (fun ls hl => ?_)
  refine lv_aload_n hx hb dX8_readFrom_16 rfl (lv_at hl 1 rfl) ?_
  refine lv_aload_n hx hb dX8_readFrom_17 rfl (lv_at hl 2 rfl) ?_
  refine lv_iload_n hx hb dX8_readFrom_18 rfl (lv_at hl 0 rfl) ?_
  refine kwVV (wr := [(tki, .inl (cy 0, 401, .inl (fun _ => 0))), (tva, .inl (cy 0, 401, .inl (fun _ => 0))), (tpl, .inl (cy 0, 401, .inl (fun _ => 0)))]) (As := [.ref tp, .int 0]) (rest := []) F hE hP hD hS hA hl.1 (c_readClauseR l D cy (rr := rr) (tp := tp) (rs := rs) (tby := tby) (tki := tki) (tva := tva) (tpl := tpl)) q_m_X8_27 mv_X8_readClause ⟨(Nat.le_of_ble_eq_true rfl), (Nat.le_of_ble_eq_true rfl)⟩ [0, 1] [2, 3, 4] (by decide) rfl rfl (by decide) (by decide) rfl rfl rfl rfl rfl (Nat.le_of_ble_eq_true rfl) ⟨(Nat.le_of_ble_eq_true rfl), (Nat.le_of_ble_eq_true rfl)⟩ dX8_readFrom_19 (fun u_2 H locs eu_2 hP hD hS => ?_)
  have hP : va_P D vwCl [(tki, .inl (cy 0, 401, .inl (fun _ => 0))), (tva, .inl (cy 0, 401, .inl (fun _ => 0))), (tpl, .inl (cy 0, 401, .inl (fun _ => 0))), (rr, .inr (8, [.ref rs, .int 0, .int 0])), (tp, .inr (10, [.ref tby, .int 0, .ref tki, .ref tva, .ref tpl, .int 1, .int 0, .int 0, .int 0, .int 0, .int 1]))] H := hP
  have hD : va_D A [(tki, .inl (cy 0, 401, .inl (fun _ => 0))), (tva, .inl (cy 0, 401, .inl (fun _ => 0))), (tpl, .inl (cy 0, 401, .inl (fun _ => 0))), (rr, .inr (8, [.ref rs, .int 0, .int 0])), (tp, .inr (10, [.ref tby, .int 0, .ref tki, .ref tva, .ref tpl, .int 1, .int 0, .int 0, .int 0, .int 0, .int 1]))] := hD
  refine lv_iinc (v := 1) (lv' := [(2, .int 1), (0, .ref rr), (1, .ref tp)]) hx hb dX8_readFrom_22 hl (k := 0) rfl (by decide) (by decide) rfl (fun ls hl => ?_)
  refine lv_iload_n hx hb dX8_readFrom_25 rfl (lv_at hl 0 rfl) ?_
  refine lv_sipush (v := 400) hx hb dX8_readFrom_26 (by decide) ?_
  refine lv_icmp_gt (tgt := 39) hx hb dX8_readFrom_29 (by decide) (fun q => absurd q (by decide)) (fun _ => ?_)
  refine lv_aload_n hx hb dX8_readFrom_32 rfl (lv_at hl 2 rfl) ?_
  refine kcV (As := []) (rest := []) F hE hP hl.1 (c_hasNext l D cy (tp := tp) (tby := tby) (tki := tki) (tva := tva) (tpl := tpl)) q_m_X8_31 mv_X10_hasNextClause ⟨(Nat.le_of_ble_eq_true rfl), (Nat.le_of_ble_eq_true rfl)⟩ [4] rfl rfl rfl rfl rfl rfl (Nat.le_of_ble_eq_true rfl) ⟨(Nat.le_of_ble_eq_true rfl), (Nat.le_of_ble_eq_true rfl)⟩ dX8_readFrom_33 (fun r_3 er_3 => ?_)
  subst er_3
  refine lv_if_ne (tgt := 16) hx hb dX8_readFrom_36 (by decide) (fun q => absurd q (by decide)) (fun _ => ?_)
  refine lv_aload_n hx hb dX8_readFrom_39 rfl (lv_at hl 2 rfl) ?_
  refine va_get (D := D) (ci := 10) (v := .int 1) (C := RX10) (T := TX10) (N := 11) hx hb hG inG_X10 hown hE.1 hP 4 rfl rfl 10 (by decide) (hG _ q_f_X8_35) (fun _ h9 => h9) rfl dX8_readFrom_40 ?_
  exact KI.rt () F rfl (hP.sub [3, 4] rfl) (hD.sub [3, 4] (by decide) rfl) hS (rfl) (Nat.le_of_ble_eq_true rfl) (Nat.le_of_ble_eq_true rfl) dX8_readFrom_43

set_option maxHeartbeats 4000000 in
set_option maxRecDepth 100000 in
theorem x_rule (l : Launch) (D : va_G) (cy : Nat → ClassId) (h0 tp gr rr ru nw im ac py fo su : Nat) (rs tby tki tva tpl : Nat) : KI l yX11_rule cX11_rule 2 (some .int) 3 67 D (kTY cy) [.ref h0] [(h0, .inr (11, [.ref tp, .ref gr, .ref rr, .ref ru, .int 0, .ref nw, .ref im, .ref ac, .ref py, .ref fo, .ref su])), (rr, .inr (8, [.ref rs, .int 0, .int 0])), (tp, .inr (10, [.ref tby, .int 0, .ref tki, .ref tva, .ref tpl, .int 0, .int 0, .int 0, .int 0, .int 0, .int 0])), (tki, .inl (cy 0, 401, .inl (fun _ => 0))), (tva, .inl (cy 0, 401, .inl (fun _ => 0))), (tpl, .inl (cy 0, 401, .inl (fun _ => 0)))] (S := Unit) (fun r _ => r = -3) (fun _ => []) 0 0 := by
  refine KI.of (by decide) (Nat.le_of_ble_eq_true rfl) (fun p e s m below meth c ls A F hE hP hD hA hS hl => ?_)
  have F : kF p s m meth c cX11_rule 2 (some .int) _ RX11 := F
  obtain ⟨hx, hb, hr, hml, hown, hG, hlk⟩ := id F
  have hl : lv_has ls 2 [(0, .ref h0)] := hl
  refine lv_aload_n hx hb dX11_rule_0 rfl (lv_at hl 0 rfl) ?_
  refine va_get (D := D) (ci := 11) (v := .int 0) (C := RX11) (T := TX11) (N := 11) hx hb hG inG_X11 hown hE.1 hP 0 rfl rfl 4 (by decide) (hG _ q_f_X11_36) (fun _ h9 => h9) rfl dX11_rule_1 ?_
  refine lv_bipush (v := 6) hx hb dX11_rule_4 (by decide) ?_
  refine lv_icmp_lt (tgt := 11) hx hb dX11_rule_6 (by decide) (fun _ => ?_) (fun q => absurd q (by decide))
  refine lv_aload_n hx hb dX11_rule_11 rfl (lv_at hl 0 rfl) ?_
  refine va_get (D := D) (ci := 11) (v := .ref rr) (C := RX11) (T := TX11) (N := 11) hx hb hG inG_X11 hown hE.1 hP 0 rfl rfl 2 (by decide) (hG _ q_f_X11_26) (fun _ h9 => h9) rfl dX11_rule_12 ?_
  refine lv_aload_n hx hb dX11_rule_15 rfl (lv_at hl 0 rfl) ?_
  refine va_get (D := D) (ci := 11) (v := .ref tp) (C := RX11) (T := TX11) (N := 11) hx hb hG inG_X11 hown hE.1 hP 0 rfl rfl 0 (by decide) (hG _ q_f_X11_10) (fun _ h9 => h9) rfl dX11_rule_16 ?_
  refine kwVI (wr := [(h0, .inr (11, [.ref tp, .ref gr, .ref rr, .ref ru, .int 0, .ref nw, .ref im, .ref ac, .ref py, .ref fo, .ref su]))]) (As := [.ref tp]) (rest := []) F hE hP hD hS hA hl.1 (c_readFromR l D cy (rr := rr) (tp := tp) (rs := rs) (tby := tby) (tki := tki) (tva := tva) (tpl := tpl)) q_m_X11_128 mv_X8_readFrom ⟨(Nat.le_of_ble_eq_true rfl), (Nat.le_of_ble_eq_true rfl)⟩ [1, 2, 3, 4, 5] [0] (by decide) rfl rfl (by decide) (by decide) rfl rfl rfl rfl rfl (Nat.le_of_ble_eq_true rfl) ⟨(Nat.le_of_ble_eq_true rfl), (Nat.le_of_ble_eq_true rfl)⟩ dX11_rule_19 (fun r_2 u_1 H locs eu_1 hP hD hS => ?_)
  obtain rfl := eu_1
  have hP : va_P D vwCl [(h0, .inr (11, [.ref tp, .ref gr, .ref rr, .ref ru, .int 0, .ref nw, .ref im, .ref ac, .ref py, .ref fo, .ref su])), (rr, .inr (8, [.ref rs, .int 0, .int 0])), (tp, .inr (10, [.ref tby, .int 0, .ref tki, .ref tva, .ref tpl, .int 1, .int 0, .int 0, .int 0, .int 0, .int 1]))] H := hP
  have hD : va_D A [(h0, .inr (11, [.ref tp, .ref gr, .ref rr, .ref ru, .int 0, .ref nw, .ref im, .ref ac, .ref py, .ref fo, .ref su])), (rr, .inr (8, [.ref rs, .int 0, .int 0])), (tp, .inr (10, [.ref tby, .int 0, .ref tki, .ref tva, .ref tpl, .int 1, .int 0, .int 0, .int 0, .int 0, .int 1]))] := hD
  refine lv_istore_n (lv' := [(1, .int 1), (0, .ref h0)]) hx hb dX11_rule_22 rfl hl (by decide) rfl (fun ls hl => ?_)
  refine lv_aload_n hx hb dX11_rule_23 rfl (lv_at hl 1 rfl) ?_
  refine va_get (D := D) (ci := 11) (v := .ref tp) (C := RX11) (T := TX11) (N := 11) hx hb hG inG_X11 hown hE.1 hP 0 rfl rfl 0 (by decide) (hG _ q_f_X11_10) (fun _ h9 => h9) rfl dX11_rule_24 ?_
  refine lv_iconst (v := 0) hx hb dX11_rule_27 (by decide) ?_
  refine va_put (D := D) (ci := 10) (v := .int 0) (ty := .int) (C := RX10) (T := TX10) (N := 11) hx hb hG inG_X10 tyX10 tyX10_ok nmX10 hown hE.1 hP hD hS 2 rfl rfl 1 (by decide) (hG _ q_f_X11_87) (fun _ h9 => h9) rfl (by decide +kernel) rfl rfl (Nat.le_of_ble_eq_true rfl) dX11_rule_28 (fun H locs hP hD hS => ?_)
  have hP : va_P D vwCl [(h0, .inr (11, [.ref tp, .ref gr, .ref rr, .ref ru, .int 0, .ref nw, .ref im, .ref ac, .ref py, .ref fo, .ref su])), (rr, .inr (8, [.ref rs, .int 0, .int 0])), (tp, .inr (10, [.ref tby, .int 0, .ref tki, .ref tva, .ref tpl, .int 1, .int 0, .int 0, .int 0, .int 0, .int 1]))] H := hP
  have hD : va_D A [(h0, .inr (11, [.ref tp, .ref gr, .ref rr, .ref ru, .int 0, .ref nw, .ref im, .ref ac, .ref py, .ref fo, .ref su])), (rr, .inr (8, [.ref rs, .int 0, .int 0])), (tp, .inr (10, [.ref tby, .int 0, .ref tki, .ref tva, .ref tpl, .int 1, .int 0, .int 0, .int 0, .int 0, .int 1]))] := hD
  refine lv_iload_n hx hb dX11_rule_31 rfl (lv_at hl 0 rfl) ?_
  refine lv_if_eq (tgt := 40) hx hb dX11_rule_32 (by decide) (fun q => absurd q (by decide)) (fun _ => ?_)
  refine lv_bipush (v := (-2)) hx hb dX11_rule_35 (by decide) ?_
  refine lv_iload_n hx hb dX11_rule_37 rfl (lv_at hl 0 rfl) ?_
  refine lv_isub hx hb dX11_rule_38 ?_
  refine k_top (z := (-3)) (by decide) ?_
  exact KI.rt () F rfl (hP.sub [] rfl) (hD.sub [] (by decide) rfl) hS (rfl) (Nat.le_of_ble_eq_true rfl) (Nat.le_of_ble_eq_true rfl) dX11_rule_39
