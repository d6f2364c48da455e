set_option maxHeartbeats 4000000 in
set_option maxRecDepth 100000 in
theorem c_addBytes0 (l : Launch) (D : va_G) (cy : Nat → ClassId) (tp tby tki tva tpl : Nat) (fb : Nat → Int32) (x0 : Int32) : KV l yX10_addBytes cX10_addBytes 3 0 0 D (kTY cy) [.ref tp, .int x0] [(tp, .inr (10, [.ref tby, .int 0, .ref tki, .ref tva, .ref tpl, .int 0, .int 0, .int 0, .int 0, .int 0, .int 0])), (tby, .inl (cy 0, 400, .inl (fb)))] (S := Nat → Int32) (fun _ => True) (fun f => [(tp, .inr (10, [.ref tby, .int 4, .ref tki, .ref tva, .ref tpl, .int 0, .int 0, .int 0, .int 0, .int 0, .int 0])), (tby, .inl (cy 0, 400, .inl (f)))]) 0 0 := by
  refine KV.of (by decide) (Nat.le_of_ble_eq_true rfl) (fun p e s m below meth c ls A F hin hE hP hD hA hS hl => ?_)
  have F : kF p s m meth c cX10_addBytes 3 none _ RX10 := F
  obtain ⟨hx, hb, hr, hml, hown, hG, hlk⟩ := id F
  have hl : lv_has ls 3 [(0, .ref tp), (1, .int x0)] := hl
  refine lv_bipush (v := 24) hx hb dX10_addBytes_0 (by decide) ?_
  refine lv_istore_n (lv' := [(2, .int 24), (0, .ref tp), (1, .int x0)]) hx hb dX10_addBytes_2 rfl hl (by decide) rfl (fun ls hl => ?_)
  refine lv_iload_n hx hb dX10_addBytes_3 rfl (lv_at hl 0 rfl) ?_
  refine lv_if_lt (tgt := 49) hx hb dX10_addBytes_4 (by decide) (fun q => absurd q (by decide)) (fun _ => ?_)
  refine lv_aload_n hx hb dX10_addBytes_7 rfl (lv_at hl 1 rfl) ?_
  refine va_get (D := D) (ci := 10) (v := .int 0) (C := RX10) (T := TX10) (N := 11) hx hb hG inG_X10 hown hE.1 hP 0 rfl rfl 1 (by decide) (hG _ q_f_X10_15) (fun _ h9 => h9) rfl dX10_addBytes_8 ?_
  refine lv_sipush (v := 400) hx hb dX10_addBytes_11 (by decide) ?_
  refine lv_icmp_ge (tgt := 49) hx hb dX10_addBytes_14 (by decide) (fun q => absurd q (by decide)) (fun _ => ?_)
  refine lv_aload_n hx hb dX10_addBytes_17 rfl (lv_at hl 1 rfl) ?_
  refine va_get (D := D) (ci := 10) (v := .ref tby) (C := RX10) (T := TX10) (N := 11) hx hb hG inG_X10 hown hE.1 hP 0 rfl rfl 0 (by decide) (hG _ q_f_X10_11) (fun _ h9 => h9) rfl dX10_addBytes_18 ?_
  refine lv_aload_n hx hb dX10_addBytes_21 rfl (lv_at hl 1 rfl) ?_
  refine va_get (D := D) (ci := 10) (v := .int 0) (C := RX10) (T := TX10) (N := 11) hx hb hG inG_X10 hown hE.1 hP 0 rfl rfl 1 (by decide) (hG _ q_f_X10_15) (fun _ h9 => h9) rfl dX10_addBytes_22 ?_
  refine lv_iload_n hx hb dX10_addBytes_25 rfl (lv_at hl 2 rfl) ?_
  refine lv_iload_n hx hb dX10_addBytes_26 rfl (lv_at hl 0 rfl) ?_
  refine lv_iushr hx hb dX10_addBytes_27 rfl ?_
  refine lv_topi (fun z_1 ez_1 => ?_)
  refine lv_sipush (v := 255) hx hb dX10_addBytes_28 (by decide) ?_
  refine lv_iand hx hb dX10_addBytes_31 ?_
  refine lv_topi (fun z_2 ez_2 => ?_)
  refine va_iast hx hb hE.1 hP hD hS 1 0 rfl rfl (by unfold vp_in; decide) dX10_addBytes_32 (fun H locs hP hD hS => ?_)
  generalize upd (fb) (Int32.toNatClampNeg 0) z_2 = fn_3 at hP hD
  have hP : va_P D vwCl [(tp, .inr (10, [.ref tby, .int 0, .ref tki, .ref tva, .ref tpl, .int 0, .int 0, .int 0, .int 0, .int 0, .int 0])), (tby, .inl (cy 0, 400, .inl (fn_3)))] H := hP
  have hD : va_D A [(tp, .inr (10, [.ref tby, .int 0, .ref tki, .ref tva, .ref tpl, .int 0, .int 0, .int 0, .int 0, .int 0, .int 0])), (tby, .inl (cy 0, 400, .inl (fn_3)))] := hD
  refine lv_aload_n hx hb dX10_addBytes_33 rfl (lv_at hl 1 rfl) ?_
  refine lv_dup hx hb dX10_addBytes_34 rfl ?_
  refine va_get (D := D) (ci := 10) (v := .int 0) (C := RX10) (T := TX10) (N := 11) hx hb hG inG_X10 hown hE.1 hP 0 rfl rfl 1 (by decide) (hG _ q_f_X10_15) (fun _ h9 => h9) rfl dX10_addBytes_35 ?_
  refine lv_iconst (v := 1) hx hb dX10_addBytes_38 (by decide) ?_
  refine lv_iadd hx hb dX10_addBytes_39 ?_
  refine k_top (z := 1) (by decide) ?_
  refine va_put (D := D) (ci := 10) (v := .int 1) (ty := .int) (C := RX10) (T := TX10) (N := 11) hx hb hG inG_X10 tyX10 tyX10_ok nmX10 hown hE.1 hP hD hS 0 rfl rfl 1 (by decide) (hG _ q_f_X10_15) (fun _ h9 => h9) rfl (by decide +kernel) rfl rfl (Nat.le_of_ble_eq_true rfl) dX10_addBytes_40 (fun H locs hP hD hS => ?_)
  have hP : va_P D vwCl [(tp, .inr (10, [.ref tby, .int 1, .ref tki, .ref tva, .ref tpl, .int 0, .int 0, .int 0, .int 0, .int 0, .int 0])), (tby, .inl (cy 0, 400, .inl (fn_3)))] H := hP
  have hD : va_D A [(tp, .inr (10, [.ref tby, .int 1, .ref tki, .ref tva, .ref tpl, .int 0, .int 0, .int 0, .int 0, .int 0, .int 0])), (tby, .inl (cy 0, 400, .inl (fn_3)))] := hD
  refine lv_iinc (v := 16) (lv' := [(2, .int 16), (0, .ref tp), (1, .int x0)]) hx hb dX10_addBytes_43 hl (k := 0) rfl (by decide) (by decide) rfl (fun ls hl => ?_)
  refine lv_goto (tgt := 3) hx hb dX10_addBytes_46 (by decide) ?_
  refine lv_iload_n hx hb dX10_addBytes_3 rfl (lv_at hl 0 rfl) ?_
  refine lv_if_lt (tgt := 49) hx hb dX10_addBytes_4 (by decide) (fun q => absurd q (by decide)) (fun _ => ?_)
  refine lv_aload_n hx hb dX10_addBytes_7 rfl (lv_at hl 1 rfl) ?_
  refine va_get (D := D) (ci := 10) (v := .int 1) (C := RX10) (T := TX10) (N := 11) hx hb hG inG_X10 hown hE.1 hP 0 rfl rfl 1 (by decide) (hG _ q_f_X10_15) (fun _ h9 => h9) rfl dX10_addBytes_8 ?_
  refine lv_sipush (v := 400) hx hb dX10_addBytes_11 (by decide) ?_
  refine lv_icmp_ge (tgt := 49) hx hb dX10_addBytes_14 (by decide) (fun q => absurd q (by decide)) (fun _ => ?_)
  refine lv_aload_n hx hb dX10_addBytes_17 rfl (lv_at hl 1 rfl) ?_
  refine va_get (D := D) (ci := 10) (v := .ref tby) (C := RX10) (T := TX10) (N := 11) hx hb hG inG_X10 hown hE.1 hP 0 rfl rfl 0 (by decide) (hG _ q_f_X10_11) (fun _ h9 => h9) rfl dX10_addBytes_18 ?_
  refine lv_aload_n hx hb dX10_addBytes_21 rfl (lv_at hl 1 rfl) ?_
  refine va_get (D := D) (ci := 10) (v := .int 1) (C := RX10) (T := TX10) (N := 11) hx hb hG inG_X10 hown hE.1 hP 0 rfl rfl 1 (by decide) (hG _ q_f_X10_15) (fun _ h9 => h9) rfl dX10_addBytes_22 ?_
  refine lv_iload_n hx hb dX10_addBytes_25 rfl (lv_at hl 2 rfl) ?_
  refine lv_iload_n hx hb dX10_addBytes_26 rfl (lv_at hl 0 rfl) ?_
  refine lv_iushr hx hb dX10_addBytes_27 rfl ?_
  refine lv_topi (fun z_4 ez_4 => ?_)
  refine lv_sipush (v := 255) hx hb dX10_addBytes_28 (by decide) ?_
  refine lv_iand hx hb dX10_addBytes_31 ?_
  refine lv_topi (fun z_5 ez_5 => ?_)
  refine va_iast hx hb hE.1 hP hD hS 1 0 rfl rfl (by unfold vp_in; decide) dX10_addBytes_32 (fun H locs hP hD hS => ?_)
  generalize upd (fn_3) (Int32.toNatClampNeg 1) z_5 = fn_6 at hP hD
  have hP : va_P D vwCl [(tp, .inr (10, [.ref tby, .int 1, .ref tki, .ref tva, .ref tpl, .int 0, .int 0, .int 0, .int 0, .int 0, .int 0])), (tby, .inl (cy 0, 400, .inl (fn_6)))] H := hP
  have hD : va_D A [(tp, .inr (10, [.ref tby, .int 1, .ref tki, .ref tva, .ref tpl, .int 0, .int 0, .int 0, .int 0, .int 0, .int 0])), (tby, .inl (cy 0, 400, .inl (fn_6)))] := hD
  refine lv_aload_n hx hb dX10_addBytes_33 rfl (lv_at hl 1 rfl) ?_
  refine lv_dup hx hb dX10_addBytes_34 rfl ?_
  refine va_get (D := D) (ci := 10) (v := .int 1) (C := RX10) (T := TX10) (N := 11) hx hb hG inG_X10 hown hE.1 hP 0 rfl rfl 1 (by decide) (hG _ q_f_X10_15) (fun _ h9 => h9) rfl dX10_addBytes_35 ?_
  refine lv_iconst (v := 1) hx hb dX10_addBytes_38 (by decide) ?_
  refine lv_iadd hx hb dX10_addBytes_39 ?_
  refine k_top (z := 2) (by decide) ?_
  refine va_put (D := D) (ci := 10) (v := .int 2) (ty := .int) (C := RX10) (T := TX10) (N := 11) hx hb hG inG_X10 tyX10 tyX10_ok nmX10 hown hE.1 hP hD hS 0 rfl rfl 1 (by decide) (hG _ q_f_X10_15) (fun _ h9 => h9) rfl (by decide +kernel) rfl rfl (Nat.le_of_ble_eq_true rfl) dX10_addBytes_40 (fun H locs hP hD hS => ?_)
  have hP : va_P D vwCl [(tp, .inr (10, [.ref tby, .int 2, .ref tki, .ref tva, .ref tpl, .int 0, .int 0, .int 0, .int 0, .int 0, .int 0])), (tby, .inl (cy 0, 400, .inl (fn_6)))] H := hP
  have hD : va_D A [(tp, .inr (10, [.ref tby, .int 2, .ref tki, .ref tva, .ref tpl, .int 0, .int 0, .int 0, .int 0, .int 0, .int 0])), (tby, .inl (cy 0, 400, .inl (fn_6)))] := hD
  refine lv_iinc (v := 8) (lv' := [(2, .int 8), (0, .ref tp), (1, .int x0)]) hx hb dX10_addBytes_43 hl (k := 0) rfl (by decide) (by decide) rfl (fun ls hl => ?_)
  refine lv_goto (tgt := 3) hx hb dX10_addBytes_46 (by decide) ?_
  refine lv_iload_n hx hb dX10_addBytes_3 rfl (lv_at hl 0 rfl) ?_
  refine lv_if_lt (tgt := 49) hx hb dX10_addBytes_4 (by decide) (fun q => absurd q (by decide)) (fun _ => ?_)
  refine lv_aload_n hx hb dX10_addBytes_7 rfl (lv_at hl 1 rfl) ?_
  refine va_get (D := D) (ci := 10) (v := .int 2) (C := RX10) (T := TX10) (N := 11) hx hb hG inG_X10 hown hE.1 hP 0 rfl rfl 1 (by decide) (hG _ q_f_X10_15) (fun _ h9 => h9) rfl dX10_addBytes_8 ?_
  refine lv_sipush (v := 400) hx hb dX10_addBytes_11 (by decide) ?_
  refine lv_icmp_ge (tgt := 49) hx hb dX10_addBytes_14 (by decide) (fun q => absurd q (by decide)) (fun _ => ?_)
  refine lv_aload_n hx hb dX10_addBytes_17 rfl (lv_at hl 1 rfl) ?_
  refine va_get (D := D) (ci := 10) (v := .ref tby) (C := RX10) (T := TX10) (N := 11) hx hb hG inG_X10 hown hE.1 hP 0 rfl rfl 0 (by decide) (hG _ q_f_X10_11) (fun _ h9 => h9) rfl dX10_addBytes_18 ?_
  refine lv_aload_n hx hb dX10_addBytes_21 rfl (lv_at hl 1 rfl) ?_
  refine va_get (D := D) (ci := 10) (v := .int 2) (C := RX10) (T := TX10) (N := 11) hx hb hG inG_X10 hown hE.1 hP 0 rfl rfl 1 (by decide) (hG _ q_f_X10_15) (fun _ h9 => h9) rfl dX10_addBytes_22 ?_
  refine lv_iload_n hx hb dX10_addBytes_25 rfl (lv_at hl 2 rfl) ?_
  refine lv_iload_n hx hb dX10_addBytes_26 rfl (lv_at hl 0 rfl) ?_
  refine lv_iushr hx hb dX10_addBytes_27 rfl ?_
  refine lv_topi (fun z_7 ez_7 => ?_)
  refine lv_sipush (v := 255) hx hb dX10_addBytes_28 (by decide) ?_
  refine lv_iand hx hb dX10_addBytes_31 ?_
  refine lv_topi (fun z_8 ez_8 => ?_)
  refine va_iast hx hb hE.1 hP hD hS 1 0 rfl rfl (by unfold vp_in; decide) dX10_addBytes_32 (fun H locs hP hD hS => ?_)
  generalize upd (fn_6) (Int32.toNatClampNeg 2) z_8 = fn_9 at hP hD
  have hP : va_P D vwCl [(tp, .inr (10, [.ref tby, .int 2, .ref tki, .ref tva, .ref tpl, .int 0, .int 0, .int 0, .int 0, .int 0, .int 0])), (tby, .inl (cy 0, 400, .inl (fn_9)))] H := hP
  have hD : va_D A [(tp, .inr (10, [.ref tby, .int 2, .ref tki, .ref tva, .ref tpl, .int 0, .int 0, .int 0, .int 0, .int 0, .int 0])), (tby, .inl (cy 0, 400, .inl (fn_9)))] := hD
  refine lv_aload_n hx hb dX10_addBytes_33 rfl (lv_at hl 1 rfl) ?_
  refine lv_dup hx hb dX10_addBytes_34 rfl ?_
  refine va_get (D := D) (ci := 10) (v := .int 2) (C := RX10) (T := TX10) (N := 11) hx hb hG inG_X10 hown hE.1 hP 0 rfl rfl 1 (by decide) (hG _ q_f_X10_15) (fun _ h9 => h9) rfl dX10_addBytes_35 ?_
  refine lv_iconst (v := 1) hx hb dX10_addBytes_38 (by decide) ?_
  refine lv_iadd hx hb dX10_addBytes_39 ?_
  refine k_top (z := 3) (by decide) ?_
  refine va_put (D := D) (ci := 10) (v := .int 3) (ty := .int) (C := RX10) (T := TX10) (N := 11) hx hb hG inG_X10 tyX10 tyX10_ok nmX10 hown hE.1 hP hD hS 0 rfl rfl 1 (by decide) (hG _ q_f_X10_15) (fun _ h9 => h9) rfl (by decide +kernel) rfl rfl (Nat.le_of_ble_eq_true rfl) dX10_addBytes_40 (fun H locs hP hD hS => ?_)
  have hP : va_P D vwCl [(tp, .inr (10, [.ref tby, .int 3, .ref tki, .ref tva, .ref tpl, .int 0, .int 0, .int 0, .int 0, .int 0, .int 0])), (tby, .inl (cy 0, 400, .inl (fn_9)))] H := hP
  have hD : va_D A [(tp, .inr (10, [.ref tby, .int 3, .ref tki, .ref tva, .ref tpl, .int 0, .int 0, .int 0, .int 0, .int 0, .int 0])), (tby, .inl (cy 0, 400, .inl (fn_9)))] := hD
  refine lv_iinc (v := 0) (lv' := [(2, .int 0), (0, .ref tp), (1, .int x0)]) hx hb dX10_addBytes_43 hl (k := 0) rfl (by decide) (by decide) rfl (fun ls hl => ?_)
  refine lv_goto (tgt := 3) hx hb dX10_addBytes_46 (by decide) ?_
  refine lv_iload_n hx hb dX10_addBytes_3 rfl (lv_at hl 0 rfl) ?_
  refine lv_if_lt (tgt := 49) hx hb dX10_addBytes_4 (by decide) (fun q => absurd q (by decide)) (fun _ => ?_)
  refine lv_aload_n hx hb dX10_addBytes_7 rfl (lv_at hl 1 rfl) ?_
  refine va_get (D := D) (ci := 10) (v := .int 3) (C := RX10) (T := TX10) (N := 11) hx hb hG inG_X10 hown hE.1 hP 0 rfl rfl 1 (by decide) (hG _ q_f_X10_15) (fun _ h9 => h9) rfl dX10_addBytes_8 ?_
  refine lv_sipush (v := 400) hx hb dX10_addBytes_11 (by decide) ?_
  refine lv_icmp_ge (tgt := 49) hx hb dX10_addBytes_14 (by decide) (fun q => absurd q (by decide)) (fun _ => ?_)
  refine lv_aload_n hx hb dX10_addBytes_17 rfl (lv_at hl 1 rfl) ?_
  refine va_get (D := D) (ci := 10) (v := .ref tby) (C := RX10) (T := TX10) (N := 11) hx hb hG inG_X10 hown hE.1 hP 0 rfl rfl 0 (by decide) (hG _ q_f_X10_11) (fun _ h9 => h9) rfl dX10_addBytes_18 ?_
  refine lv_aload_n hx hb dX10_addBytes_21 rfl (lv_at hl 1 rfl) ?_
  refine va_get (D := D) (ci := 10) (v := .int 3) (C := RX10) (T := TX10) (N := 11) hx hb hG inG_X10 hown hE.1 hP 0 rfl rfl 1 (by decide) (hG _ q_f_X10_15) (fun _ h9 => h9) rfl dX10_addBytes_22 ?_
  refine lv_iload_n hx hb dX10_addBytes_25 rfl (lv_at hl 2 rfl) ?_
  refine lv_iload_n hx hb dX10_addBytes_26 rfl (lv_at hl 0 rfl) ?_
  refine lv_iushr hx hb dX10_addBytes_27 rfl ?_
  refine lv_topi (fun z_10 ez_10 => ?_)
  refine lv_sipush (v := 255) hx hb dX10_addBytes_28 (by decide) ?_
  refine lv_iand hx hb dX10_addBytes_31 ?_
  refine lv_topi (fun z_11 ez_11 => ?_)
  refine va_iast hx hb hE.1 hP hD hS 1 0 rfl rfl (by unfold vp_in; decide) dX10_addBytes_32 (fun H locs hP hD hS => ?_)
  generalize upd (fn_9) (Int32.toNatClampNeg 3) z_11 = fn_12 at hP hD
  have hP : va_P D vwCl [(tp, .inr (10, [.ref tby, .int 3, .ref tki, .ref tva, .ref tpl, .int 0, .int 0, .int 0, .int 0, .int 0, .int 0])), (tby, .inl (cy 0, 400, .inl (fn_12)))] H := hP
  have hD : va_D A [(tp, .inr (10, [.ref tby, .int 3, .ref tki, .ref tva, .ref tpl, .int 0, .int 0, .int 0, .int 0, .int 0, .int 0])), (tby, .inl (cy 0, 400, .inl (fn_12)))] := hD
  refine lv_aload_n hx hb dX10_addBytes_33 rfl (lv_at hl 1 rfl) ?_
  refine lv_dup hx hb dX10_addBytes_34 rfl ?_
  refine va_get (D := D) (ci := 10) (v := .int 3) (C := RX10) (T := TX10) (N := 11) hx hb hG inG_X10 hown hE.1 hP 0 rfl rfl 1 (by decide) (hG _ q_f_X10_15) (fun _ h9 => h9) rfl dX10_addBytes_35 ?_
  refine lv_iconst (v := 1) hx hb dX10_addBytes_38 (by decide) ?_
  refine lv_iadd hx hb dX10_addBytes_39 ?_
  refine k_top (z := 4) (by decide) ?_
  refine va_put (D := D) (ci := 10) (v := .int 4) (ty := .int) (C := RX10) (T := TX10) (N := 11) hx hb hG inG_X10 tyX10 tyX10_ok nmX10 hown hE.1 hP hD hS 0 rfl rfl 1 (by decide) (hG _ q_f_X10_15) (fun _ h9 => h9) rfl (by decide +kernel) rfl rfl (Nat.le_of_ble_eq_true rfl) dX10_addBytes_40 (fun H locs hP hD hS => ?_)
  have hP : va_P D vwCl [(tp, .inr (10, [.ref tby, .int 4, .ref tki, .ref tva, .ref tpl, .int 0, .int 0, .int 0, .int 0, .int 0, .int 0])), (tby, .inl (cy 0, 400, .inl (fn_12)))] H := hP
  have hD : va_D A [(tp, .inr (10, [.ref tby, .int 4, .ref tki, .ref tva, .ref tpl, .int 0, .int 0, .int 0, .int 0, .int 0, .int 0])), (tby, .inl (cy 0, 400, .inl (fn_12)))] := hD
  refine lv_iinc (v := (-8)) (lv' := [(2, .int (-8)), (0, .ref tp), (1, .int x0)]) hx hb dX10_addBytes_43 hl (k := 0) rfl (by decide) (by decide) rfl (fun ls hl => ?_)
  refine lv_goto (tgt := 3) hx hb dX10_addBytes_46 (by decide) ?_
  refine lv_iload_n hx hb dX10_addBytes_3 rfl (lv_at hl 0 rfl) ?_
  refine lv_if_lt (tgt := 49) hx hb dX10_addBytes_4 (by decide) (fun _ => ?_) (fun q => absurd q (by decide))
  exact KV.rt fn_12 F (hP.sub [0, 1] rfl) (hD.sub [0, 1] (by decide) rfl) hS (trivial) (Nat.le_of_ble_eq_true rfl) (Nat.le_of_ble_eq_true rfl) dX10_addBytes_49

set_option maxHeartbeats 4000000 in
set_option maxRecDepth 100000 in
theorem c_addBytes4 (l : Launch) (D : va_G) (cy : Nat → ClassId) (tp tby tki tva tpl : Nat) (fb : Nat → Int32) (x0 : Int32) : KV l yX10_addBytes cX10_addBytes 3 0 0 D (kTY cy) [.ref tp, .int x0] [(tp, .inr (10, [.ref tby, .int 4, .ref tki, .ref tva, .ref tpl, .int 0, .int 0, .int 0, .int 0, .int 0, .int 0])), (tby, .inl (cy 0, 400, .inl (fb)))] (S := Nat → Int32) (fun _ => True) (fun f => [(tp, .inr (10, [.ref tby, .int 8, .ref tki, .ref tva, .ref tpl, .int 0, .int 0, .int 0, .int 0, .int 0, .int 0])), (tby, .inl (cy 0, 400, .inl (f)))]) 0 0 := by
  refine KV.of (by decide) (Nat.le_of_ble_eq_true rfl) (fun p e s m below meth c ls A F hin hE hP hD hA hS hl => ?_)
  have F : kF p s m meth c cX10_addBytes 3 none _ RX10 := F
  obtain ⟨hx, hb, hr, hml, hown, hG, hlk⟩ := id F
  have hl : lv_has ls 3 [(0, .ref tp), (1, .int x0)] := hl
  refine lv_bipush (v := 24) hx hb dX10_addBytes_0 (by decide) ?_
  refine lv_istore_n (lv' := [(2, .int 24), (0, .ref tp), (1, .int x0)]) hx hb dX10_addBytes_2 rfl hl (by decide) rfl (fun ls hl => ?_)
  refine lv_iload_n hx hb dX10_addBytes_3 rfl (lv_at hl 0 rfl) ?_
  refine lv_if_lt (tgt := 49) hx hb dX10_addBytes_4 (by decide) (fun q => absurd q (by decide)) (fun _ => ?_)
  refine lv_aload_n hx hb dX10_addBytes_7 rfl (lv_at hl 1 rfl) ?_
  refine va_get (D := D) (ci := 10) (v := .int 4) (C := RX10) (T := TX10) (N := 11) hx hb hG inG_X10 hown hE.1 hP 0 rfl rfl 1 (by decide) (hG _ q_f_X10_15) (fun _ h9 => h9) rfl dX10_addBytes_8 ?_
  refine lv_sipush (v := 400) hx hb dX10_addBytes_11 (by decide) ?_
  refine lv_icmp_ge (tgt := 49) hx hb dX10_addBytes_14 (by decide) (fun q => absurd q (by decide)) (fun _ => ?_)
  refine lv_aload_n hx hb dX10_addBytes_17 rfl (lv_at hl 1 rfl) ?_
  refine va_get (D := D) (ci := 10) (v := .ref tby) (C := RX10) (T := TX10) (N := 11) hx hb hG inG_X10 hown hE.1 hP 0 rfl rfl 0 (by decide) (hG _ q_f_X10_11) (fun _ h9 => h9) rfl dX10_addBytes_18 ?_
  refine lv_aload_n hx hb dX10_addBytes_21 rfl (lv_at hl 1 rfl) ?_
  refine va_get (D := D) (ci := 10) (v := .int 4) (C := RX10) (T := TX10) (N := 11) hx hb hG inG_X10 hown hE.1 hP 0 rfl rfl 1 (by decide) (hG _ q_f_X10_15) (fun _ h9 => h9) rfl dX10_addBytes_22 ?_
  refine lv_iload_n hx hb dX10_addBytes_25 rfl (lv_at hl 2 rfl) ?_
  refine lv_iload_n hx hb dX10_addBytes_26 rfl (lv_at hl 0 rfl) ?_
  refine lv_iushr hx hb dX10_addBytes_27 rfl ?_
  refine lv_topi (fun z_1 ez_1 => ?_)
  refine lv_sipush (v := 255) hx hb dX10_addBytes_28 (by decide) ?_
  refine lv_iand hx hb dX10_addBytes_31 ?_
  refine lv_topi (fun z_2 ez_2 => ?_)
  refine va_iast hx hb hE.1 hP hD hS 1 0 rfl rfl (by unfold vp_in; decide) dX10_addBytes_32 (fun H locs hP hD hS => ?_)
  generalize upd (fb) (Int32.toNatClampNeg 4) z_2 = fn_3 at hP hD
  have hP : va_P D vwCl [(tp, .inr (10, [.ref tby, .int 4, .ref tki, .ref tva, .ref tpl, .int 0, .int 0, .int 0, .int 0, .int 0, .int 0])), (tby, .inl (cy 0, 400, .inl (fn_3)))] H := hP
  have hD : va_D A [(tp, .inr (10, [.ref tby, .int 4, .ref tki, .ref tva, .ref tpl, .int 0, .int 0, .int 0, .int 0, .int 0, .int 0])), (tby, .inl (cy 0, 400, .inl (fn_3)))] := hD
  refine lv_aload_n hx hb dX10_addBytes_33 rfl (lv_at hl 1 rfl) ?_
  refine lv_dup hx hb dX10_addBytes_34 rfl ?_
  refine va_get (D := D) (ci := 10) (v := .int 4) (C := RX10) (T := TX10) (N := 11) hx hb hG inG_X10 hown hE.1 hP 0 rfl rfl 1 (by decide) (hG _ q_f_X10_15) (fun _ h9 => h9) rfl dX10_addBytes_35 ?_
  refine lv_iconst (v := 1) hx hb dX10_addBytes_38 (by decide) ?_
  refine lv_iadd hx hb dX10_addBytes_39 ?_
  refine k_top (z := 5) (by decide) ?_
  refine va_put (D := D) (ci := 10) (v := .int 5) (ty := .int) (C := RX10) (T := TX10) (N := 11) hx hb hG inG_X10 tyX10 tyX10_ok nmX10 hown hE.1 hP hD hS 0 rfl rfl 1 (by decide) (hG _ q_f_X10_15) (fun _ h9 => h9) rfl (by decide +kernel) rfl rfl (Nat.le_of_ble_eq_true rfl) dX10_addBytes_40 (fun H locs hP hD hS => ?_)
  have hP : va_P D vwCl [(tp, .inr (10, [.ref tby, .int 5, .ref tki, .ref tva, .ref tpl, .int 0, .int 0, .int 0, .int 0, .int 0, .int 0])), (tby, .inl (cy 0, 400, .inl (fn_3)))] H := hP
  have hD : va_D A [(tp, .inr (10, [.ref tby, .int 5, .ref tki, .ref tva, .ref tpl, .int 0, .int 0, .int 0, .int 0, .int 0, .int 0])), (tby, .inl (cy 0, 400, .inl (fn_3)))] := hD
  refine lv_iinc (v := 16) (lv' := [(2, .int 16), (0, .ref tp), (1, .int x0)]) hx hb dX10_addBytes_43 hl (k := 0) rfl (by decide) (by decide) rfl (fun ls hl => ?_)
  refine lv_goto (tgt := 3) hx hb dX10_addBytes_46 (by decide) ?_
  refine lv_iload_n hx hb dX10_addBytes_3 rfl (lv_at hl 0 rfl) ?_
  refine lv_if_lt (tgt := 49) hx hb dX10_addBytes_4 (by decide) (fun q => absurd q (by decide)) (fun _ => ?_)
  refine lv_aload_n hx hb dX10_addBytes_7 rfl (lv_at hl 1 rfl) ?_
  refine va_get (D := D) (ci := 10) (v := .int 5) (C := RX10) (T := TX10) (N := 11) hx hb hG inG_X10 hown hE.1 hP 0 rfl rfl 1 (by decide) (hG _ q_f_X10_15) (fun _ h9 => h9) rfl dX10_addBytes_8 ?_
  refine lv_sipush (v := 400) hx hb dX10_addBytes_11 (by decide) ?_
  refine lv_icmp_ge (tgt := 49) hx hb dX10_addBytes_14 (by decide) (fun q => absurd q (by decide)) (fun _ => ?_)
  refine lv_aload_n hx hb dX10_addBytes_17 rfl (lv_at hl 1 rfl) ?_
  refine va_get (D := D) (ci := 10) (v := .ref tby) (C := RX10) (T := TX10) (N := 11) hx hb hG inG_X10 hown hE.1 hP 0 rfl rfl 0 (by decide) (hG _ q_f_X10_11) (fun _ h9 => h9) rfl dX10_addBytes_18 ?_
  refine lv_aload_n hx hb dX10_addBytes_21 rfl (lv_at hl 1 rfl) ?_
  refine va_get (D := D) (ci := 10) (v := .int 5) (C := RX10) (T := TX10) (N := 11) hx hb hG inG_X10 hown hE.1 hP 0 rfl rfl 1 (by decide) (hG _ q_f_X10_15) (fun _ h9 => h9) rfl dX10_addBytes_22 ?_
  refine lv_iload_n hx hb dX10_addBytes_25 rfl (lv_at hl 2 rfl) ?_
  refine lv_iload_n hx hb dX10_addBytes_26 rfl (lv_at hl 0 rfl) ?_
  refine lv_iushr hx hb dX10_addBytes_27 rfl ?_
  refine lv_topi (fun z_4 ez_4 => ?_)
  refine lv_sipush (v := 255) hx hb dX10_addBytes_28 (by decide) ?_
  refine lv_iand hx hb dX10_addBytes_31 ?_
  refine lv_topi (fun z_5 ez_5 => ?_)
  refine va_iast hx hb hE.1 hP hD hS 1 0 rfl rfl (by unfold vp_in; decide) dX10_addBytes_32 (fun H locs hP hD hS => ?_)
  generalize upd (fn_3) (Int32.toNatClampNeg 5) z_5 = fn_6 at hP hD
  have hP : va_P D vwCl [(tp, .inr (10, [.ref tby, .int 5, .ref tki, .ref tva, .ref tpl, .int 0, .int 0, .int 0, .int 0, .int 0, .int 0])), (tby, .inl (cy 0, 400, .inl (fn_6)))] H := hP
  have hD : va_D A [(tp, .inr (10, [.ref tby, .int 5, .ref tki, .ref tva, .ref tpl, .int 0, .int 0, .int 0, .int 0, .int 0, .int 0])), (tby, .inl (cy 0, 400, .inl (fn_6)))] := hD
  refine lv_aload_n hx hb dX10_addBytes_33 rfl (lv_at hl 1 rfl) ?_
  refine lv_dup hx hb dX10_addBytes_34 rfl ?_
  refine va_get (D := D) (ci := 10) (v := .int 5) (C := RX10) (T := TX10) (N := 11) hx hb hG inG_X10 hown hE.1 hP 0 rfl rfl 1 (by decide) (hG _ q_f_X10_15) (fun _ h9 => h9) rfl dX10_addBytes_35 ?_
  refine lv_iconst (v := 1) hx hb dX10_addBytes_38 (by decide) ?_
  refine lv_iadd hx hb dX10_addBytes_39 ?_
  refine k_top (z := 6) (by decide) ?_
  refine va_put (D := D) (ci := 10) (v := .int 6) (ty := .int) (C := RX10) (T := TX10) (N := 11) hx hb hG inG_X10 tyX10 tyX10_ok nmX10 hown hE.1 hP hD hS 0 rfl rfl 1 (by decide) (hG _ q_f_X10_15) (fun _ h9 => h9) rfl (by decide +kernel) rfl rfl (Nat.le_of_ble_eq_true rfl) dX10_addBytes_40 (fun H locs hP hD hS => ?_)
  have hP : va_P D vwCl [(tp, .inr (10, [.ref tby, .int 6, .ref tki, .ref tva, .ref tpl, .int 0, .int 0, .int 0, .int 0, .int 0, .int 0])), (tby, .inl (cy 0, 400, .inl (fn_6)))] H := hP
  have hD : va_D A [(tp, .inr (10, [.ref tby, .int 6, .ref tki, .ref tva, .ref tpl, .int 0, .int 0, .int 0, .int 0, .int 0, .int 0])), (tby, .inl (cy 0, 400, .inl (fn_6)))] := hD
  refine lv_iinc (v := 8) (lv' := [(2, .int 8), (0, .ref tp), (1, .int x0)]) hx hb dX10_addBytes_43 hl (k := 0) rfl (by decide) (by decide) rfl (fun ls hl => ?_)
  refine lv_goto (tgt := 3) hx hb dX10_addBytes_46 (by decide) ?_
  refine lv_iload_n hx hb dX10_addBytes_3 rfl (lv_at hl 0 rfl) ?_
  refine lv_if_lt (tgt := 49) hx hb dX10_addBytes_4 (by decide) (fun q => absurd q (by decide)) (fun _ => ?_)
  refine lv_aload_n hx hb dX10_addBytes_7 rfl (lv_at hl 1 rfl) ?_
  refine va_get (D := D) (ci := 10) (v := .int 6) (C := RX10) (T := TX10) (N := 11) hx hb hG inG_X10 hown hE.1 hP 0 rfl rfl 1 (by decide) (hG _ q_f_X10_15) (fun _ h9 => h9) rfl dX10_addBytes_8 ?_
  refine lv_sipush (v := 400) hx hb dX10_addBytes_11 (by decide) ?_
  refine lv_icmp_ge (tgt := 49) hx hb dX10_addBytes_14 (by decide) (fun q => absurd q (by decide)) (fun _ => ?_)
  refine lv_aload_n hx hb dX10_addBytes_17 rfl (lv_at hl 1 rfl) ?_
  refine va_get (D := D) (ci := 10) (v := .ref tby) (C := RX10) (T := TX10) (N := 11) hx hb hG inG_X10 hown hE.1 hP 0 rfl rfl 0 (by decide) (hG _ q_f_X10_11) (fun _ h9 => h9) rfl dX10_addBytes_18 ?_
  refine lv_aload_n hx hb dX10_addBytes_21 rfl (lv_at hl 1 rfl) ?_
  refine va_get (D := D) (ci := 10) (v := .int 6) (C := RX10) (T := TX10) (N := 11) hx hb hG inG_X10 hown hE.1 hP 0 rfl rfl 1 (by decide) (hG _ q_f_X10_15) (fun _ h9 => h9) rfl dX10_addBytes_22 ?_
  refine lv_iload_n hx hb dX10_addBytes_25 rfl (lv_at hl 2 rfl) ?_
  refine lv_iload_n hx hb dX10_addBytes_26 rfl (lv_at hl 0 rfl) ?_
  refine lv_iushr hx hb dX10_addBytes_27 rfl ?_
  refine lv_topi (fun z_7 ez_7 => ?_)
  refine lv_sipush (v := 255) hx hb dX10_addBytes_28 (by decide) ?_
  refine lv_iand hx hb dX10_addBytes_31 ?_
  refine lv_topi (fun z_8 ez_8 => ?_)
  refine va_iast hx hb hE.1 hP hD hS 1 0 rfl rfl (by unfold vp_in; decide) dX10_addBytes_32 (fun H locs hP hD hS => ?_)
  generalize upd (fn_6) (Int32.toNatClampNeg 6) z_8 = fn_9 at hP hD
  have hP : va_P D vwCl [(tp, .inr (10, [.ref tby, .int 6, .ref tki, .ref tva, .ref tpl, .int 0, .int 0, .int 0, .int 0, .int 0, .int 0])), (tby, .inl (cy 0, 400, .inl (fn_9)))] H := hP
  have hD : va_D A [(tp, .inr (10, [.ref tby, .int 6, .ref tki, .ref tva, .ref tpl, .int 0, .int 0, .int 0, .int 0, .int 0, .int 0])), (tby, .inl (cy 0, 400, .inl (fn_9)))] := hD
  refine lv_aload_n hx hb dX10_addBytes_33 rfl (lv_at hl 1 rfl) ?_
  refine lv_dup hx hb dX10_addBytes_34 rfl ?_
  refine va_get (D := D) (ci := 10) (v := .int 6) (C := RX10) (T := TX10) (N := 11) hx hb hG inG_X10 hown hE.1 hP 0 rfl rfl 1 (by decide) (hG _ q_f_X10_15) (fun _ h9 => h9) rfl dX10_addBytes_35 ?_
  refine lv_iconst (v := 1) hx hb dX10_addBytes_38 (by decide) ?_
  refine lv_iadd hx hb dX10_addBytes_39 ?_
  refine k_top (z := 7) (by decide) ?_
  refine va_put (D := D) (ci := 10) (v := .int 7) (ty := .int) (C := RX10) (T := TX10) (N := 11) hx hb hG inG_X10 tyX10 tyX10_ok nmX10 hown hE.1 hP hD hS 0 rfl rfl 1 (by decide) (hG _ q_f_X10_15) (fun _ h9 => h9) rfl (by decide +kernel) rfl rfl (Nat.le_of_ble_eq_true rfl) dX10_addBytes_40 (fun H locs hP hD hS => ?_)
  have hP : va_P D vwCl [(tp, .inr (10, [.ref tby, .int 7, .ref tki, .ref tva, .ref tpl, .int 0, .int 0, .int 0, .int 0, .int 0, .int 0])), (tby, .inl (cy 0, 400, .inl (fn_9)))] H := hP
  have hD : va_D A [(tp, .inr (10, [.ref tby, .int 7, .ref tki, .ref tva, .ref tpl, .int 0, .int 0, .int 0, .int 0, .int 0, .int 0])), (tby, .inl (cy 0, 400, .inl (fn_9)))] := hD
  refine lv_iinc (v := 0) (lv' := [(2, .int 0), (0, .ref tp), (1, .int x0)]) hx hb dX10_addBytes_43 hl (k := 0) rfl (by decide) (by decide) rfl (fun ls hl => ?_)
  refine lv_goto (tgt := 3) hx hb dX10_addBytes_46 (by decide) ?_
  refine lv_iload_n hx hb dX10_addBytes_3 rfl (lv_at hl 0 rfl) ?_
  refine lv_if_lt (tgt := 49) hx hb dX10_addBytes_4 (by decide) (fun q => absurd q (by decide)) (fun _ => ?_)
  refine lv_aload_n hx hb dX10_addBytes_7 rfl (lv_at hl 1 rfl) ?_
  refine va_get (D := D) (ci := 10) (v := .int 7) (C := RX10) (T := TX10) (N := 11) hx hb hG inG_X10 hown hE.1 hP 0 rfl rfl 1 (by decide) (hG _ q_f_X10_15) (fun _ h9 => h9) rfl dX10_addBytes_8 ?_
  refine lv_sipush (v := 400) hx hb dX10_addBytes_11 (by decide) ?_
  refine lv_icmp_ge (tgt := 49) hx hb dX10_addBytes_14 (by decide) (fun q => absurd q (by decide)) (fun _ => ?_)
  refine lv_aload_n hx hb dX10_addBytes_17 rfl (lv_at hl 1 rfl) ?_
  refine va_get (D := D) (ci := 10) (v := .ref tby) (C := RX10) (T := TX10) (N := 11) hx hb hG inG_X10 hown hE.1 hP 0 rfl rfl 0 (by decide) (hG _ q_f_X10_11) (fun _ h9 => h9) rfl dX10_addBytes_18 ?_
  refine lv_aload_n hx hb dX10_addBytes_21 rfl (lv_at hl 1 rfl) ?_
  refine va_get (D := D) (ci := 10) (v := .int 7) (C := RX10) (T := TX10) (N := 11) hx hb hG inG_X10 hown hE.1 hP 0 rfl rfl 1 (by decide) (hG _ q_f_X10_15) (fun _ h9 => h9) rfl dX10_addBytes_22 ?_
  refine lv_iload_n hx hb dX10_addBytes_25 rfl (lv_at hl 2 rfl) ?_
  refine lv_iload_n hx hb dX10_addBytes_26 rfl (lv_at hl 0 rfl) ?_
  refine lv_iushr hx hb dX10_addBytes_27 rfl ?_
  refine lv_topi (fun z_10 ez_10 => ?_)
  refine lv_sipush (v := 255) hx hb dX10_addBytes_28 (by decide) ?_
  refine lv_iand hx hb dX10_addBytes_31 ?_
  refine lv_topi (fun z_11 ez_11 => ?_)
  refine va_iast hx hb hE.1 hP hD hS 1 0 rfl rfl (by unfold vp_in; decide) dX10_addBytes_32 (fun H locs hP hD hS => ?_)
  generalize upd (fn_9) (Int32.toNatClampNeg 7) z_11 = fn_12 at hP hD
  have hP : va_P D vwCl [(tp, .inr (10, [.ref tby, .int 7, .ref tki, .ref tva, .ref tpl, .int 0, .int 0, .int 0, .int 0, .int 0, .int 0])), (tby, .inl (cy 0, 400, .inl (fn_12)))] H := hP
  have hD : va_D A [(tp, .inr (10, [.ref tby, .int 7, .ref tki, .ref tva, .ref tpl, .int 0, .int 0, .int 0, .int 0, .int 0, .int 0])), (tby, .inl (cy 0, 400, .inl (fn_12)))] := hD
  refine lv_aload_n hx hb dX10_addBytes_33 rfl (lv_at hl 1 rfl) ?_
  refine lv_dup hx hb dX10_addBytes_34 rfl ?_
  refine va_get (D := D) (ci := 10) (v := .int 7) (C := RX10) (T := TX10) (N := 11) hx hb hG inG_X10 hown hE.1 hP 0 rfl rfl 1 (by decide) (hG _ q_f_X10_15) (fun _ h9 => h9) rfl dX10_addBytes_35 ?_
  refine lv_iconst (v := 1) hx hb dX10_addBytes_38 (by decide) ?_
  refine lv_iadd hx hb dX10_addBytes_39 ?_
  refine k_top (z := 8) (by decide) ?_
  refine va_put (D := D) (ci := 10) (v := .int 8) (ty := .int) (C := RX10) (T := TX10) (N := 11) hx hb hG inG_X10 tyX10 tyX10_ok nmX10 hown hE.1 hP hD hS 0 rfl rfl 1 (by decide) (hG _ q_f_X10_15) (fun _ h9 => h9) rfl (by decide +kernel) rfl rfl (Nat.le_of_ble_eq_true rfl) dX10_addBytes_40 (fun H locs hP hD hS => ?_)
  have hP : va_P D vwCl [(tp, .inr (10, [.ref tby, .int 8, .ref tki, .ref tva, .ref tpl, .int 0, .int 0, .int 0, .int 0, .int 0, .int 0])), (tby, .inl (cy 0, 400, .inl (fn_12)))] H := hP
  have hD : va_D A [(tp, .inr (10, [.ref tby, .int 8, .ref tki, .ref tva, .ref tpl, .int 0, .int 0, .int 0, .int 0, .int 0, .int 0])), (tby, .inl (cy 0, 400, .inl (fn_12)))] := hD
  refine lv_iinc (v := (-8)) (lv' := [(2, .int (-8)), (0, .ref tp), (1, .int x0)]) hx hb dX10_addBytes_43 hl (k := 0) rfl (by decide) (by decide) rfl (fun ls hl => ?_)
  refine lv_goto (tgt := 3) hx hb dX10_addBytes_46 (by decide) ?_
  refine lv_iload_n hx hb dX10_addBytes_3 rfl (lv_at hl 0 rfl) ?_
  refine lv_if_lt (tgt := 49) hx hb dX10_addBytes_4 (by decide) (fun _ => ?_) (fun q => absurd q (by decide))
  exact KV.rt fn_12 F (hP.sub [0, 1] rfl) (hD.sub [0, 1] (by decide) rfl) hS (trivial) (Nat.le_of_ble_eq_true rfl) (Nat.le_of_ble_eq_true rfl) dX10_addBytes_49

set_option maxHeartbeats 4000000 in
set_option maxRecDepth 100000 in
theorem c_addBytes8 (l : Launch) (D : va_G) (cy : Nat → ClassId) (tp tby tki tva tpl : Nat) (fb : Nat → Int32) (x0 : Int32) : KV l yX10_addBytes cX10_addBytes 3 0 0 D (kTY cy) [.ref tp, .int x0] [(tp, .inr (10, [.ref tby, .int 8, .ref tki, .ref tva, .ref tpl, .int 0, .int 0, .int 0, .int 0, .int 0, .int 0])), (tby, .inl (cy 0, 400, .inl (fb)))] (S := Nat → Int32) (fun _ => True) (fun f => [(tp, .inr (10, [.ref tby, .int 12, .ref tki, .ref tva, .ref tpl, .int 0, .int 0, .int 0, .int 0, .int 0, .int 0])), (tby, .inl (cy 0, 400, .inl (f)))]) 0 0 := by
  refine KV.of (by decide) (Nat.le_of_ble_eq_true rfl) (fun p e s m below meth c ls A F hin hE hP hD hA hS hl => ?_)
  have F : kF p s m meth c cX10_addBytes 3 none _ RX10 := F
  obtain ⟨hx, hb, hr, hml, hown, hG, hlk⟩ := id F
  have hl : lv_has ls 3 [(0, .ref tp), (1, .int x0)] := hl
  refine lv_bipush (v := 24) hx hb dX10_addBytes_0 (by decide) ?_
  refine lv_istore_n (lv' := [(2, .int 24), (0, .ref tp), (1, .int x0)]) hx hb dX10_addBytes_2 rfl hl (by decide) rfl (fun ls hl => ?_)
  refine lv_iload_n hx hb dX10_addBytes_3 rfl (lv_at hl 0 rfl) ?_
  refine lv_if_lt (tgt := 49) hx hb dX10_addBytes_4 (by decide) (fun q => absurd q (by decide)) (fun _ => ?_)
  refine lv_aload_n hx hb dX10_addBytes_7 rfl (lv_at hl 1 rfl) ?_
  refine va_get (D := D) (ci := 10) (v := .int 8) (C := RX10) (T := TX10) (N := 11) hx hb hG inG_X10 hown hE.1 hP 0 rfl rfl 1 (by decide) (hG _ q_f_X10_15) (fun _ h9 => h9) rfl dX10_addBytes_8 ?_
  refine lv_sipush (v := 400) hx hb dX10_addBytes_11 (by decide) ?_
  refine lv_icmp_ge (tgt := 49) hx hb dX10_addBytes_14 (by decide) (fun q => absurd q (by decide)) (fun _ => ?_)
  refine lv_aload_n hx hb dX10_addBytes_17 rfl (lv_at hl 1 rfl) ?_
  refine va_get (D := D) (ci := 10) (v := .ref tby) (C := RX10) (T := TX10) (N := 11) hx hb hG inG_X10 hown hE.1 hP 0 rfl rfl 0 (by decide) (hG _ q_f_X10_11) (fun _ h9 => h9) rfl dX10_addBytes_18 ?_
  refine lv_aload_n hx hb dX10_addBytes_21 rfl (lv_at hl 1 rfl) ?_
  refine va_get (D := D) (ci := 10) (v := .int 8) (C := RX10) (T := TX10) (N := 11) hx hb hG inG_X10 hown hE.1 hP 0 rfl rfl 1 (by decide) (hG _ q_f_X10_15) (fun _ h9 => h9) rfl dX10_addBytes_22 ?_
  refine lv_iload_n hx hb dX10_addBytes_25 rfl (lv_at hl 2 rfl) ?_
  refine lv_iload_n hx hb dX10_addBytes_26 rfl (lv_at hl 0 rfl) ?_
  refine lv_iushr hx hb dX10_addBytes_27 rfl ?_
  refine lv_topi (fun z_1 ez_1 => ?_)
  refine lv_sipush (v := 255) hx hb dX10_addBytes_28 (by decide) ?_
  refine lv_iand hx hb dX10_addBytes_31 ?_
  refine lv_topi (fun z_2 ez_2 => ?_)
  refine va_iast hx hb hE.1 hP hD hS 1 0 rfl rfl (by unfold vp_in; decide) dX10_addBytes_32 (fun H locs hP hD hS => ?_)
  generalize upd (fb) (Int32.toNatClampNeg 8) z_2 = fn_3 at hP hD
  have hP : va_P D vwCl [(tp, .inr (10, [.ref tby, .int 8, .ref tki, .ref tva, .ref tpl, .int 0, .int 0, .int 0, .int 0, .int 0, .int 0])), (tby, .inl (cy 0, 400, .inl (fn_3)))] H := hP
  have hD : va_D A [(tp, .inr (10, [.ref tby, .int 8, .ref tki, .ref tva, .ref tpl, .int 0, .int 0, .int 0, .int 0, .int 0, .int 0])), (tby, .inl (cy 0, 400, .inl (fn_3)))] := hD
  refine lv_aload_n hx hb dX10_addBytes_33 rfl (lv_at hl 1 rfl) ?_
  refine lv_dup hx hb dX10_addBytes_34 rfl ?_
  refine va_get (D := D) (ci := 10) (v := .int 8) (C := RX10) (T := TX10) (N := 11) hx hb hG inG_X10 hown hE.1 hP 0 rfl rfl 1 (by decide) (hG _ q_f_X10_15) (fun _ h9 => h9) rfl dX10_addBytes_35 ?_
  refine lv_iconst (v := 1) hx hb dX10_addBytes_38 (by decide) ?_
  refine lv_iadd hx hb dX10_addBytes_39 ?_
  refine k_top (z := 9) (by decide) ?_
  refine va_put (D := D) (ci := 10) (v := .int 9) (ty := .int) (C := RX10) (T := TX10) (N := 11) hx hb hG inG_X10 tyX10 tyX10_ok nmX10 hown hE.1 hP hD hS 0 rfl rfl 1 (by decide) (hG _ q_f_X10_15) (fun _ h9 => h9) rfl (by decide +kernel) rfl rfl (Nat.le_of_ble_eq_true rfl) dX10_addBytes_40 (fun H locs hP hD hS => ?_)
  have hP : va_P D vwCl [(tp, .inr (10, [.ref tby, .int 9, .ref tki, .ref tva, .ref tpl, .int 0, .int 0, .int 0, .int 0, .int 0, .int 0])), (tby, .inl (cy 0, 400, .inl (fn_3)))] H := hP
  have hD : va_D A [(tp, .inr (10, [.ref tby, .int 9, .ref tki, .ref tva, .ref tpl, .int 0, .int 0, .int 0, .int 0, .int 0, .int 0])), (tby, .inl (cy 0, 400, .inl (fn_3)))] := hD
  refine lv_iinc (v := 16) (lv' := [(2, .int 16), (0, .ref tp), (1, .int x0)]) hx hb dX10_addBytes_43 hl (k := 0) rfl (by decide) (by decide) rfl (fun ls hl => ?_)
  refine lv_goto (tgt := 3) hx hb dX10_addBytes_46 (by decide) ?_
  refine lv_iload_n hx hb dX10_addBytes_3 rfl (lv_at hl 0 rfl) ?_
  refine lv_if_lt (tgt := 49) hx hb dX10_addBytes_4 (by decide) (fun q => absurd q (by decide)) (fun _ => ?_)
  refine lv_aload_n hx hb dX10_addBytes_7 rfl (lv_at hl 1 rfl) ?_
  refine va_get (D := D) (ci := 10) (v := .int 9) (C := RX10) (T := TX10) (N := 11) hx hb hG inG_X10 hown hE.1 hP 0 rfl rfl 1 (by decide) (hG _ q_f_X10_15) (fun _ h9 => h9) rfl dX10_addBytes_8 ?_
  refine lv_sipush (v := 400) hx hb dX10_addBytes_11 (by decide) ?_
  refine lv_icmp_ge (tgt := 49) hx hb dX10_addBytes_14 (by decide) (fun q => absurd q (by decide)) (fun _ => ?_)
  refine lv_aload_n hx hb dX10_addBytes_17 rfl (lv_at hl 1 rfl) ?_
  refine va_get (D := D) (ci := 10) (v := .ref tby) (C := RX10) (T := TX10) (N := 11) hx hb hG inG_X10 hown hE.1 hP 0 rfl rfl 0 (by decide) (hG _ q_f_X10_11) (fun _ h9 => h9) rfl dX10_addBytes_18 ?_
  refine lv_aload_n hx hb dX10_addBytes_21 rfl (lv_at hl 1 rfl) ?_
  refine va_get (D := D) (ci := 10) (v := .int 9) (C := RX10) (T := TX10) (N := 11) hx hb hG inG_X10 hown hE.1 hP 0 rfl rfl 1 (by decide) (hG _ q_f_X10_15) (fun _ h9 => h9) rfl dX10_addBytes_22 ?_
  refine lv_iload_n hx hb dX10_addBytes_25 rfl (lv_at hl 2 rfl) ?_
  refine lv_iload_n hx hb dX10_addBytes_26 rfl (lv_at hl 0 rfl) ?_
  refine lv_iushr hx hb dX10_addBytes_27 rfl ?_
  refine lv_topi (fun z_4 ez_4 => ?_)
  refine lv_sipush (v := 255) hx hb dX10_addBytes_28 (by decide) ?_
  refine lv_iand hx hb dX10_addBytes_31 ?_
  refine lv_topi (fun z_5 ez_5 => ?_)
  refine va_iast hx hb hE.1 hP hD hS 1 0 rfl rfl (by unfold vp_in; decide) dX10_addBytes_32 (fun H locs hP hD hS => ?_)
  generalize upd (fn_3) (Int32.toNatClampNeg 9) z_5 = fn_6 at hP hD
  have hP : va_P D vwCl [(tp, .inr (10, [.ref tby, .int 9, .ref tki, .ref tva, .ref tpl, .int 0, .int 0, .int 0, .int 0, .int 0, .int 0])), (tby, .inl (cy 0, 400, .inl (fn_6)))] H := hP
  have hD : va_D A [(tp, .inr (10, [.ref tby, .int 9, .ref tki, .ref tva, .ref tpl, .int 0, .int 0, .int 0, .int 0, .int 0, .int 0])), (tby, .inl (cy 0, 400, .inl (fn_6)))] := hD
  refine lv_aload_n hx hb dX10_addBytes_33 rfl (lv_at hl 1 rfl) ?_
  refine lv_dup hx hb dX10_addBytes_34 rfl ?_
  refine va_get (D := D) (ci := 10) (v := .int 9) (C := RX10) (T := TX10) (N := 11) hx hb hG inG_X10 hown hE.1 hP 0 rfl rfl 1 (by decide) (hG _ q_f_X10_15) (fun _ h9 => h9) rfl dX10_addBytes_35 ?_
  refine lv_iconst (v := 1) hx hb dX10_addBytes_38 (by decide) ?_
  refine lv_iadd hx hb dX10_addBytes_39 ?_
  refine k_top (z := 10) (by decide) ?_
  refine va_put (D := D) (ci := 10) (v := .int 10) (ty := .int) (C := RX10) (T := TX10) (N := 11) hx hb hG inG_X10 tyX10 tyX10_ok nmX10 hown hE.1 hP hD hS 0 rfl rfl 1 (by decide) (hG _ q_f_X10_15) (fun _ h9 => h9) rfl (by decide +kernel) rfl rfl (Nat.le_of_ble_eq_true rfl) dX10_addBytes_40 (fun H locs hP hD hS => ?_)
  have hP : va_P D vwCl [(tp, .inr (10, [.ref tby, .int 10, .ref tki, .ref tva, .ref tpl, .int 0, .int 0, .int 0, .int 0, .int 0, .int 0])), (tby, .inl (cy 0, 400, .inl (fn_6)))] H := hP
  have hD : va_D A [(tp, .inr (10, [.ref tby, .int 10, .ref tki, .ref tva, .ref tpl, .int 0, .int 0, .int 0, .int 0, .int 0, .int 0])), (tby, .inl (cy 0, 400, .inl (fn_6)))] := hD
  refine lv_iinc (v := 8) (lv' := [(2, .int 8), (0, .ref tp), (1, .int x0)]) hx hb dX10_addBytes_43 hl (k := 0) rfl (by decide) (by decide) rfl (fun ls hl => ?_)
  refine lv_goto (tgt := 3) hx hb dX10_addBytes_46 (by decide) ?_
  refine lv_iload_n hx hb dX10_addBytes_3 rfl (lv_at hl 0 rfl) ?_
  refine lv_if_lt (tgt := 49) hx hb dX10_addBytes_4 (by decide) (fun q => absurd q (by decide)) (fun _ => ?_)
  refine lv_aload_n hx hb dX10_addBytes_7 rfl (lv_at hl 1 rfl) ?_
  refine va_get (D := D) (ci := 10) (v := .int 10) (C := RX10) (T := TX10) (N := 11) hx hb hG inG_X10 hown hE.1 hP 0 rfl rfl 1 (by decide) (hG _ q_f_X10_15) (fun _ h9 => h9) rfl dX10_addBytes_8 ?_
  refine lv_sipush (v := 400) hx hb dX10_addBytes_11 (by decide) ?_
  refine lv_icmp_ge (tgt := 49) hx hb dX10_addBytes_14 (by decide) (fun q => absurd q (by decide)) (fun _ => ?_)
  refine lv_aload_n hx hb dX10_addBytes_17 rfl (lv_at hl 1 rfl) ?_
  refine va_get (D := D) (ci := 10) (v := .ref tby) (C := RX10) (T := TX10) (N := 11) hx hb hG inG_X10 hown hE.1 hP 0 rfl rfl 0 (by decide) (hG _ q_f_X10_11) (fun _ h9 => h9) rfl dX10_addBytes_18 ?_
  refine lv_aload_n hx hb dX10_addBytes_21 rfl (lv_at hl 1 rfl) ?_
  refine va_get (D := D) (ci := 10) (v := .int 10) (C := RX10) (T := TX10) (N := 11) hx hb hG inG_X10 hown hE.1 hP 0 rfl rfl 1 (by decide) (hG _ q_f_X10_15) (fun _ h9 => h9) rfl dX10_addBytes_22 ?_
  refine lv_iload_n hx hb dX10_addBytes_25 rfl (lv_at hl 2 rfl) ?_
  refine lv_iload_n hx hb dX10_addBytes_26 rfl (lv_at hl 0 rfl) ?_
  refine lv_iushr hx hb dX10_addBytes_27 rfl ?_
  refine lv_topi (fun z_7 ez_7 => ?_)
  refine lv_sipush (v := 255) hx hb dX10_addBytes_28 (by decide) ?_
  refine lv_iand hx hb dX10_addBytes_31 ?_
  refine lv_topi (fun z_8 ez_8 => ?_)
  refine va_iast hx hb hE.1 hP hD hS 1 0 rfl rfl (by unfold vp_in; decide) dX10_addBytes_32 (fun H locs hP hD hS => ?_)
  generalize upd (fn_6) (Int32.toNatClampNeg 10) z_8 = fn_9 at hP hD
  have hP : va_P D vwCl [(tp, .inr (10, [.ref tby, .int 10, .ref tki, .ref tva, .ref tpl, .int 0, .int 0, .int 0, .int 0, .int 0, .int 0])), (tby, .inl (cy 0, 400, .inl (fn_9)))] H := hP
  have hD : va_D A [(tp, .inr (10, [.ref tby, .int 10, .ref tki, .ref tva, .ref tpl, .int 0, .int 0, .int 0, .int 0, .int 0, .int 0])), (tby, .inl (cy 0, 400, .inl (fn_9)))] := hD
  refine lv_aload_n hx hb dX10_addBytes_33 rfl (lv_at hl 1 rfl) ?_
  refine lv_dup hx hb dX10_addBytes_34 rfl ?_
  refine va_get (D := D) (ci := 10) (v := .int 10) (C := RX10) (T := TX10) (N := 11) hx hb hG inG_X10 hown hE.1 hP 0 rfl rfl 1 (by decide) (hG _ q_f_X10_15) (fun _ h9 => h9) rfl dX10_addBytes_35 ?_
  refine lv_iconst (v := 1) hx hb dX10_addBytes_38 (by decide) ?_
  refine lv_iadd hx hb dX10_addBytes_39 ?_
  refine k_top (z := 11) (by decide) ?_
  refine va_put (D := D) (ci := 10) (v := .int 11) (ty := .int) (C := RX10) (T := TX10) (N := 11) hx hb hG inG_X10 tyX10 tyX10_ok nmX10 hown hE.1 hP hD hS 0 rfl rfl 1 (by decide) (hG _ q_f_X10_15) (fun _ h9 => h9) rfl (by decide +kernel) rfl rfl (Nat.le_of_ble_eq_true rfl) dX10_addBytes_40 (fun H locs hP hD hS => ?_)
  have hP : va_P D vwCl [(tp, .inr (10, [.ref tby, .int 11, .ref tki, .ref tva, .ref tpl, .int 0, .int 0, .int 0, .int 0, .int 0, .int 0])), (tby, .inl (cy 0, 400, .inl (fn_9)))] H := hP
  have hD : va_D A [(tp, .inr (10, [.ref tby, .int 11, .ref tki, .ref tva, .ref tpl, .int 0, .int 0, .int 0, .int 0, .int 0, .int 0])), (tby, .inl (cy 0, 400, .inl (fn_9)))] := hD
  refine lv_iinc (v := 0) (lv' := [(2, .int 0), (0, .ref tp), (1, .int x0)]) hx hb dX10_addBytes_43 hl (k := 0) rfl (by decide) (by decide) rfl (fun ls hl => ?_)
  refine lv_goto (tgt := 3) hx hb dX10_addBytes_46 (by decide) ?_
  refine lv_iload_n hx hb dX10_addBytes_3 rfl (lv_at hl 0 rfl) ?_
  refine lv_if_lt (tgt := 49) hx hb dX10_addBytes_4 (by decide) (fun q => absurd q (by decide)) (fun _ => ?_)
  refine lv_aload_n hx hb dX10_addBytes_7 rfl (lv_at hl 1 rfl) ?_
  refine va_get (D := D) (ci := 10) (v := .int 11) (C := RX10) (T := TX10) (N := 11) hx hb hG inG_X10 hown hE.1 hP 0 rfl rfl 1 (by decide) (hG _ q_f_X10_15) (fun _ h9 => h9) rfl dX10_addBytes_8 ?_
  refine lv_sipush (v := 400) hx hb dX10_addBytes_11 (by decide) ?_
  refine lv_icmp_ge (tgt := 49) hx hb dX10_addBytes_14 (by decide) (fun q => absurd q (by decide)) (fun _ => ?_)
  refine lv_aload_n hx hb dX10_addBytes_17 rfl (lv_at hl 1 rfl) ?_
  refine va_get (D := D) (ci := 10) (v := .ref tby) (C := RX10) (T := TX10) (N := 11) hx hb hG inG_X10 hown hE.1 hP 0 rfl rfl 0 (by decide) (hG _ q_f_X10_11) (fun _ h9 => h9) rfl dX10_addBytes_18 ?_
  refine lv_aload_n hx hb dX10_addBytes_21 rfl (lv_at hl 1 rfl) ?_
  refine va_get (D := D) (ci := 10) (v := .int 11) (C := RX10) (T := TX10) (N := 11) hx hb hG inG_X10 hown hE.1 hP 0 rfl rfl 1 (by decide) (hG _ q_f_X10_15) (fun _ h9 => h9) rfl dX10_addBytes_22 ?_
  refine lv_iload_n hx hb dX10_addBytes_25 rfl (lv_at hl 2 rfl) ?_
  refine lv_iload_n hx hb dX10_addBytes_26 rfl (lv_at hl 0 rfl) ?_
  refine lv_iushr hx hb dX10_addBytes_27 rfl ?_
  refine lv_topi (fun z_10 ez_10 => ?_)
  refine lv_sipush (v := 255) hx hb dX10_addBytes_28 (by decide) ?_
  refine lv_iand hx hb dX10_addBytes_31 ?_
  refine lv_topi (fun z_11 ez_11 => ?_)
  refine va_iast hx hb hE.1 hP hD hS 1 0 rfl rfl (by unfold vp_in; decide) dX10_addBytes_32 (fun H locs hP hD hS => ?_)
  generalize upd (fn_9) (Int32.toNatClampNeg 11) z_11 = fn_12 at hP hD
  have hP : va_P D vwCl [(tp, .inr (10, [.ref tby, .int 11, .ref tki, .ref tva, .ref tpl, .int 0, .int 0, .int 0, .int 0, .int 0, .int 0])), (tby, .inl (cy 0, 400, .inl (fn_12)))] H := hP
  have hD : va_D A [(tp, .inr (10, [.ref tby, .int 11, .ref tki, .ref tva, .ref tpl, .int 0, .int 0, .int 0, .int 0, .int 0, .int 0])), (tby, .inl (cy 0, 400, .inl (fn_12)))] := hD
  refine lv_aload_n hx hb dX10_addBytes_33 rfl (lv_at hl 1 rfl) ?_
  refine lv_dup hx hb dX10_addBytes_34 rfl ?_
  refine va_get (D := D) (ci := 10) (v := .int 11) (C := RX10) (T := TX10) (N := 11) hx hb hG inG_X10 hown hE.1 hP 0 rfl rfl 1 (by decide) (hG _ q_f_X10_15) (fun _ h9 => h9) rfl dX10_addBytes_35 ?_
  refine lv_iconst (v := 1) hx hb dX10_addBytes_38 (by decide) ?_
  refine lv_iadd hx hb dX10_addBytes_39 ?_
  refine k_top (z := 12) (by decide) ?_
  refine va_put (D := D) (ci := 10) (v := .int 12) (ty := .int) (C := RX10) (T := TX10) (N := 11) hx hb hG inG_X10 tyX10 tyX10_ok nmX10 hown hE.1 hP hD hS 0 rfl rfl 1 (by decide) (hG _ q_f_X10_15) (fun _ h9 => h9) rfl (by decide +kernel) rfl rfl (Nat.le_of_ble_eq_true rfl) dX10_addBytes_40 (fun H locs hP hD hS => ?_)
  have hP : va_P D vwCl [(tp, .inr (10, [.ref tby, .int 12, .ref tki, .ref tva, .ref tpl, .int 0, .int 0, .int 0, .int 0, .int 0, .int 0])), (tby, .inl (cy 0, 400, .inl (fn_12)))] H := hP
  have hD : va_D A [(tp, .inr (10, [.ref tby, .int 12, .ref tki, .ref tva, .ref tpl, .int 0, .int 0, .int 0, .int 0, .int 0, .int 0])), (tby, .inl (cy 0, 400, .inl (fn_12)))] := hD
  refine lv_iinc (v := (-8)) (lv' := [(2, .int (-8)), (0, .ref tp), (1, .int x0)]) hx hb dX10_addBytes_43 hl (k := 0) rfl (by decide) (by decide) rfl (fun ls hl => ?_)
  refine lv_goto (tgt := 3) hx hb dX10_addBytes_46 (by decide) ?_
  refine lv_iload_n hx hb dX10_addBytes_3 rfl (lv_at hl 0 rfl) ?_
  refine lv_if_lt (tgt := 49) hx hb dX10_addBytes_4 (by decide) (fun _ => ?_) (fun q => absurd q (by decide))
  exact KV.rt fn_12 F (hP.sub [0, 1] rfl) (hD.sub [0, 1] (by decide) rfl) hS (trivial) (Nat.le_of_ble_eq_true rfl) (Nat.le_of_ble_eq_true rfl) dX10_addBytes_49

set_option maxHeartbeats 4000000 in
set_option maxRecDepth 100000 in
theorem c_addBytes12 (l : Launch) (D : va_G) (cy : Nat → ClassId) (tp tby tki tva tpl : Nat) (fb : Nat → Int32) (x0 : Int32) : KV l yX10_addBytes cX10_addBytes 3 0 0 D (kTY cy) [.ref tp, .int x0] [(tp, .inr (10, [.ref tby, .int 12, .ref tki, .ref tva, .ref tpl, .int 0, .int 0, .int 0, .int 0, .int 0, .int 0])), (tby, .inl (cy 0, 400, .inl (fb)))] (S := Nat → Int32) (fun _ => True) (fun f => [(tp, .inr (10, [.ref tby, .int 16, .ref tki, .ref tva, .ref tpl, .int 0, .int 0, .int 0, .int 0, .int 0, .int 0])), (tby, .inl (cy 0, 400, .inl (f)))]) 0 0 := by
  refine KV.of (by decide) (Nat.le_of_ble_eq_true rfl) (fun p e s m below meth c ls A F hin hE hP hD hA hS hl => ?_)
  have F : kF p s m meth c cX10_addBytes 3 none _ RX10 := F
  obtain ⟨hx, hb, hr, hml, hown, hG, hlk⟩ := id F
  have hl : lv_has ls 3 [(0, .ref tp), (1, .int x0)] := hl
  refine lv_bipush (v := 24) hx hb dX10_addBytes_0 (by decide) ?_
  refine lv_istore_n (lv' := [(2, .int 24), (0, .ref tp), (1, .int x0)]) hx hb dX10_addBytes_2 rfl hl (by decide) rfl (fun ls hl => ?_)
  refine lv_iload_n hx hb dX10_addBytes_3 rfl (lv_at hl 0 rfl) ?_
  refine lv_if_lt (tgt := 49) hx hb dX10_addBytes_4 (by decide) (fun q => absurd q (by decide)) (fun _ => ?_)
  refine lv_aload_n hx hb dX10_addBytes_7 rfl (lv_at hl 1 rfl) ?_
  refine va_get (D := D) (ci := 10) (v := .int 12) (C := RX10) (T := TX10) (N := 11) hx hb hG inG_X10 hown hE.1 hP 0 rfl rfl 1 (by decide) (hG _ q_f_X10_15) (fun _ h9 => h9) rfl dX10_addBytes_8 ?_
  refine lv_sipush (v := 400) hx hb dX10_addBytes_11 (by decide) ?_
  refine lv_icmp_ge (tgt := 49) hx hb dX10_addBytes_14 (by decide) (fun q => absurd q (by decide)) (fun _ => ?_)
  refine lv_aload_n hx hb dX10_addBytes_17 rfl (lv_at hl 1 rfl) ?_
  refine va_get (D := D) (ci := 10) (v := .ref tby) (C := RX10) (T := TX10) (N := 11) hx hb hG inG_X10 hown hE.1 hP 0 rfl rfl 0 (by decide) (hG _ q_f_X10_11) (fun _ h9 => h9) rfl dX10_addBytes_18 ?_
  refine lv_aload_n hx hb dX10_addBytes_21 rfl (lv_at hl 1 rfl) ?_
  refine va_get (D := D) (ci := 10) (v := .int 12) (C := RX10) (T := TX10) (N := 11) hx hb hG inG_X10 hown hE.1 hP 0 rfl rfl 1 (by decide) (hG _ q_f_X10_15) (fun _ h9 => h9) rfl dX10_addBytes_22 ?_
  refine lv_iload_n hx hb dX10_addBytes_25 rfl (lv_at hl 2 rfl) ?_
  refine lv_iload_n hx hb dX10_addBytes_26 rfl (lv_at hl 0 rfl) ?_
  refine lv_iushr hx hb dX10_addBytes_27 rfl ?_
  refine lv_topi (fun z_1 ez_1 => ?_)
  refine lv_sipush (v := 255) hx hb dX10_addBytes_28 (by decide) ?_
  refine lv_iand hx hb dX10_addBytes_31 ?_
  refine lv_topi (fun z_2 ez_2 => ?_)
  refine va_iast hx hb hE.1 hP hD hS 1 0 rfl rfl (by unfold vp_in; decide) dX10_addBytes_32 (fun H locs hP hD hS => ?_)
  generalize upd (fb) (Int32.toNatClampNeg 12) z_2 = fn_3 at hP hD
  have hP : va_P D vwCl [(tp, .inr (10, [.ref tby, .int 12, .ref tki, .ref tva, .ref tpl, .int 0, .int 0, .int 0, .int 0, .int 0, .int 0])), (tby, .inl (cy 0, 400, .inl (fn_3)))] H := hP
  have hD : va_D A [(tp, .inr (10, [.ref tby, .int 12, .ref tki, .ref tva, .ref tpl, .int 0, .int 0, .int 0, .int 0, .int 0, .int 0])), (tby, .inl (cy 0, 400, .inl (fn_3)))] := hD
  refine lv_aload_n hx hb dX10_addBytes_33 rfl (lv_at hl 1 rfl) ?_
  refine lv_dup hx hb dX10_addBytes_34 rfl ?_
  refine va_get (D := D) (ci := 10) (v := .int 12) (C := RX10) (T := TX10) (N := 11) hx hb hG inG_X10 hown hE.1 hP 0 rfl rfl 1 (by decide) (hG _ q_f_X10_15) (fun _ h9 => h9) rfl dX10_addBytes_35 ?_
  refine lv_iconst (v := 1) hx hb dX10_addBytes_38 (by decide) ?_
  refine lv_iadd hx hb dX10_addBytes_39 ?_
  refine k_top (z := 13) (by decide) ?_
  refine va_put (D := D) (ci := 10) (v := .int 13) (ty := .int) (C := RX10) (T := TX10) (N := 11) hx hb hG inG_X10 tyX10 tyX10_ok nmX10 hown hE.1 hP hD hS 0 rfl rfl 1 (by decide) (hG _ q_f_X10_15) (fun _ h9 => h9) rfl (by decide +kernel) rfl rfl (Nat.le_of_ble_eq_true rfl) dX10_addBytes_40 (fun H locs hP hD hS => ?_)
  have hP : va_P D vwCl [(tp, .inr (10, [.ref tby, .int 13, .ref tki, .ref tva, .ref tpl, .int 0, .int 0, .int 0, .int 0, .int 0, .int 0])), (tby, .inl (cy 0, 400, .inl (fn_3)))] H := hP
  have hD : va_D A [(tp, .inr (10, [.ref tby, .int 13, .ref tki, .ref tva, .ref tpl, .int 0, .int 0, .int 0, .int 0, .int 0, .int 0])), (tby, .inl (cy 0, 400, .inl (fn_3)))] := hD
  refine lv_iinc (v := 16) (lv' := [(2, .int 16), (0, .ref tp), (1, .int x0)]) hx hb dX10_addBytes_43 hl (k := 0) rfl (by decide) (by decide) rfl (fun ls hl => ?_)
  refine lv_goto (tgt := 3) hx hb dX10_addBytes_46 (by decide) ?_
  refine lv_iload_n hx hb dX10_addBytes_3 rfl (lv_at hl 0 rfl) ?_
  refine lv_if_lt (tgt := 49) hx hb dX10_addBytes_4 (by decide) (fun q => absurd q (by decide)) (fun _ => ?_)
  refine lv_aload_n hx hb dX10_addBytes_7 rfl (lv_at hl 1 rfl) ?_
  refine va_get (D := D) (ci := 10) (v := .int 13) (C := RX10) (T := TX10) (N := 11) hx hb hG inG_X10 hown hE.1 hP 0 rfl rfl 1 (by decide) (hG _ q_f_X10_15) (fun _ h9 => h9) rfl dX10_addBytes_8 ?_
  refine lv_sipush (v := 400) hx hb dX10_addBytes_11 (by decide) ?_
  refine lv_icmp_ge (tgt := 49) hx hb dX10_addBytes_14 (by decide) (fun q => absurd q (by decide)) (fun _ => ?_)
  refine lv_aload_n hx hb dX10_addBytes_17 rfl (lv_at hl 1 rfl) ?_
  refine va_get (D := D) (ci := 10) (v := .ref tby) (C := RX10) (T := TX10) (N := 11) hx hb hG inG_X10 hown hE.1 hP 0 rfl rfl 0 (by decide) (hG _ q_f_X10_11) (fun _ h9 => h9) rfl dX10_addBytes_18 ?_
  refine lv_aload_n hx hb dX10_addBytes_21 rfl (lv_at hl 1 rfl) ?_
  refine va_get (D := D) (ci := 10) (v := .int 13) (C := RX10) (T := TX10) (N := 11) hx hb hG inG_X10 hown hE.1 hP 0 rfl rfl 1 (by decide) (hG _ q_f_X10_15) (fun _ h9 => h9) rfl dX10_addBytes_22 ?_
  refine lv_iload_n hx hb dX10_addBytes_25 rfl (lv_at hl 2 rfl) ?_
  refine lv_iload_n hx hb dX10_addBytes_26 rfl (lv_at hl 0 rfl) ?_
  refine lv_iushr hx hb dX10_addBytes_27 rfl ?_
  refine lv_topi (fun z_4 ez_4 => ?_)
  refine lv_sipush (v := 255) hx hb dX10_addBytes_28 (by decide) ?_
  refine lv_iand hx hb dX10_addBytes_31 ?_
  refine lv_topi (fun z_5 ez_5 => ?_)
  refine va_iast hx hb hE.1 hP hD hS 1 0 rfl rfl (by unfold vp_in; decide) dX10_addBytes_32 (fun H locs hP hD hS => ?_)
  generalize upd (fn_3) (Int32.toNatClampNeg 13) z_5 = fn_6 at hP hD
  have hP : va_P D vwCl [(tp, .inr (10, [.ref tby, .int 13, .ref tki, .ref tva, .ref tpl, .int 0, .int 0, .int 0, .int 0, .int 0, .int 0])), (tby, .inl (cy 0, 400, .inl (fn_6)))] H := hP
  have hD : va_D A [(tp, .inr (10, [.ref tby, .int 13, .ref tki, .ref tva, .ref tpl, .int 0, .int 0, .int 0, .int 0, .int 0, .int 0])), (tby, .inl (cy 0, 400, .inl (fn_6)))] := hD
  refine lv_aload_n hx hb dX10_addBytes_33 rfl (lv_at hl 1 rfl) ?_
  refine lv_dup hx hb dX10_addBytes_34 rfl ?_
  refine va_get (D := D) (ci := 10) (v := .int 13) (C := RX10) (T := TX10) (N := 11) hx hb hG inG_X10 hown hE.1 hP 0 rfl rfl 1 (by decide) (hG _ q_f_X10_15) (fun _ h9 => h9) rfl dX10_addBytes_35 ?_
  refine lv_iconst (v := 1) hx hb dX10_addBytes_38 (by decide) ?_
  refine lv_iadd hx hb dX10_addBytes_39 ?_
  refine k_top (z := 14) (by decide) ?_
  refine va_put (D := D) (ci := 10) (v := .int 14) (ty := .int) (C := RX10) (T := TX10) (N := 11) hx hb hG inG_X10 tyX10 tyX10_ok nmX10 hown hE.1 hP hD hS 0 rfl rfl 1 (by decide) (hG _ q_f_X10_15) (fun _ h9 => h9) rfl (by decide +kernel) rfl rfl (Nat.le_of_ble_eq_true rfl) dX10_addBytes_40 (fun H locs hP hD hS => ?_)
  have hP : va_P D vwCl [(tp, .inr (10, [.ref tby, .int 14, .ref tki, .ref tva, .ref tpl, .int 0, .int 0, .int 0, .int 0, .int 0, .int 0])), (tby, .inl (cy 0, 400, .inl (fn_6)))] H := hP
  have hD : va_D A [(tp, .inr (10, [.ref tby, .int 14, .ref tki, .ref tva, .ref tpl, .int 0, .int 0, .int 0, .int 0, .int 0, .int 0])), (tby, .inl (cy 0, 400, .inl (fn_6)))] := hD
  refine lv_iinc (v := 8) (lv' := [(2, .int 8), (0, .ref tp), (1, .int x0)]) hx hb dX10_addBytes_43 hl (k := 0) rfl (by decide) (by decide) rfl (fun ls hl => ?_)
  refine lv_goto (tgt := 3) hx hb dX10_addBytes_46 (by decide) ?_
  refine lv_iload_n hx hb dX10_addBytes_3 rfl (lv_at hl 0 rfl) ?_
  refine lv_if_lt (tgt := 49) hx hb dX10_addBytes_4 (by decide) (fun q => absurd q (by decide)) (fun _ => ?_)
  refine lv_aload_n hx hb dX10_addBytes_7 rfl (lv_at hl 1 rfl) ?_
  refine va_get (D := D) (ci := 10) (v := .int 14) (C := RX10) (T := TX10) (N := 11) hx hb hG inG_X10 hown hE.1 hP 0 rfl rfl 1 (by decide) (hG _ q_f_X10_15) (fun _ h9 => h9) rfl dX10_addBytes_8 ?_
  refine lv_sipush (v := 400) hx hb dX10_addBytes_11 (by decide) ?_
  refine lv_icmp_ge (tgt := 49) hx hb dX10_addBytes_14 (by decide) (fun q => absurd q (by decide)) (fun _ => ?_)
  refine lv_aload_n hx hb dX10_addBytes_17 rfl (lv_at hl 1 rfl) ?_
  refine va_get (D := D) (ci := 10) (v := .ref tby) (C := RX10) (T := TX10) (N := 11) hx hb hG inG_X10 hown hE.1 hP 0 rfl rfl 0 (by decide) (hG _ q_f_X10_11) (fun _ h9 => h9) rfl dX10_addBytes_18 ?_
  refine lv_aload_n hx hb dX10_addBytes_21 rfl (lv_at hl 1 rfl) ?_
  refine va_get (D := D) (ci := 10) (v := .int 14) (C := RX10) (T := TX10) (N := 11) hx hb hG inG_X10 hown hE.1 hP 0 rfl rfl 1 (by decide) (hG _ q_f_X10_15) (fun _ h9 => h9) rfl dX10_addBytes_22 ?_
  refine lv_iload_n hx hb dX10_addBytes_25 rfl (lv_at hl 2 rfl) ?_
  refine lv_iload_n hx hb dX10_addBytes_26 rfl (lv_at hl 0 rfl) ?_
  refine lv_iushr hx hb dX10_addBytes_27 rfl ?_
  refine lv_topi (fun z_7 ez_7 => ?_)
  refine lv_sipush (v := 255) hx hb dX10_addBytes_28 (by decide) ?_
  refine lv_iand hx hb dX10_addBytes_31 ?_
  refine lv_topi (fun z_8 ez_8 => ?_)
  refine va_iast hx hb hE.1 hP hD hS 1 0 rfl rfl (by unfold vp_in; decide) dX10_addBytes_32 (fun H locs hP hD hS => ?_)
  generalize upd (fn_6) (Int32.toNatClampNeg 14) z_8 = fn_9 at hP hD
  have hP : va_P D vwCl [(tp, .inr (10, [.ref tby, .int 14, .ref tki, .ref tva, .ref tpl, .int 0, .int 0, .int 0, .int 0, .int 0, .int 0])), (tby, .inl (cy 0, 400, .inl (fn_9)))] H := hP
  have hD : va_D A [(tp, .inr (10, [.ref tby, .int 14, .ref tki, .ref tva, .ref tpl, .int 0, .int 0, .int 0, .int 0, .int 0, .int 0])), (tby, .inl (cy 0, 400, .inl (fn_9)))] := hD
  refine lv_aload_n hx hb dX10_addBytes_33 rfl (lv_at hl 1 rfl) ?_
  refine lv_dup hx hb dX10_addBytes_34 rfl ?_
  refine va_get (D := D) (ci := 10) (v := .int 14) (C := RX10) (T := TX10) (N := 11) hx hb hG inG_X10 hown hE.1 hP 0 rfl rfl 1 (by decide) (hG _ q_f_X10_15) (fun _ h9 => h9) rfl dX10_addBytes_35 ?_
  refine lv_iconst (v := 1) hx hb dX10_addBytes_38 (by decide) ?_
  refine lv_iadd hx hb dX10_addBytes_39 ?_
  refine k_top (z := 15) (by decide) ?_
  refine va_put (D := D) (ci := 10) (v := .int 15) (ty := .int) (C := RX10) (T := TX10) (N := 11) hx hb hG inG_X10 tyX10 tyX10_ok nmX10 hown hE.1 hP hD hS 0 rfl rfl 1 (by decide) (hG _ q_f_X10_15) (fun _ h9 => h9) rfl (by decide +kernel) rfl rfl (Nat.le_of_ble_eq_true rfl) dX10_addBytes_40 (fun H locs hP hD hS => ?_)
  have hP : va_P D vwCl [(tp, .inr (10, [.ref tby, .int 15, .ref tki, .ref tva, .ref tpl, .int 0, .int 0, .int 0, .int 0, .int 0, .int 0])), (tby, .inl (cy 0, 400, .inl (fn_9)))] H := hP
  have hD : va_D A [(tp, .inr (10, [.ref tby, .int 15, .ref tki, .ref tva, .ref tpl, .int 0, .int 0, .int 0, .int 0, .int 0, .int 0])), (tby, .inl (cy 0, 400, .inl (fn_9)))] := hD
  refine lv_iinc (v := 0) (lv' := [(2, .int 0), (0, .ref tp), (1, .int x0)]) hx hb dX10_addBytes_43 hl (k := 0) rfl (by decide) (by decide) rfl (fun ls hl => ?_)
  refine lv_goto (tgt := 3) hx hb dX10_addBytes_46 (by decide) ?_
  refine lv_iload_n hx hb dX10_addBytes_3 rfl (lv_at hl 0 rfl) ?_
  refine lv_if_lt (tgt := 49) hx hb dX10_addBytes_4 (by decide) (fun q => absurd q (by decide)) (fun _ => ?_)
  refine lv_aload_n hx hb dX10_addBytes_7 rfl (lv_at hl 1 rfl) ?_
  refine va_get (D := D) (ci := 10) (v := .int 15) (C := RX10) (T := TX10) (N := 11) hx hb hG inG_X10 hown hE.1 hP 0 rfl rfl 1 (by decide) (hG _ q_f_X10_15) (fun _ h9 => h9) rfl dX10_addBytes_8 ?_
  refine lv_sipush (v := 400) hx hb dX10_addBytes_11 (by decide) ?_
  refine lv_icmp_ge (tgt := 49) hx hb dX10_addBytes_14 (by decide) (fun q => absurd q (by decide)) (fun _ => ?_)
  refine lv_aload_n hx hb dX10_addBytes_17 rfl (lv_at hl 1 rfl) ?_
  refine va_get (D := D) (ci := 10) (v := .ref tby) (C := RX10) (T := TX10) (N := 11) hx hb hG inG_X10 hown hE.1 hP 0 rfl rfl 0 (by decide) (hG _ q_f_X10_11) (fun _ h9 => h9) rfl dX10_addBytes_18 ?_
  refine lv_aload_n hx hb dX10_addBytes_21 rfl (lv_at hl 1 rfl) ?_
  refine va_get (D := D) (ci := 10) (v := .int 15) (C := RX10) (T := TX10) (N := 11) hx hb hG inG_X10 hown hE.1 hP 0 rfl rfl 1 (by decide) (hG _ q_f_X10_15) (fun _ h9 => h9) rfl dX10_addBytes_22 ?_
  refine lv_iload_n hx hb dX10_addBytes_25 rfl (lv_at hl 2 rfl) ?_
  refine lv_iload_n hx hb dX10_addBytes_26 rfl (lv_at hl 0 rfl) ?_
  refine lv_iushr hx hb dX10_addBytes_27 rfl ?_
  refine lv_topi (fun z_10 ez_10 => ?_)
  refine lv_sipush (v := 255) hx hb dX10_addBytes_28 (by decide) ?_
  refine lv_iand hx hb dX10_addBytes_31 ?_
  refine lv_topi (fun z_11 ez_11 => ?_)
  refine va_iast hx hb hE.1 hP hD hS 1 0 rfl rfl (by unfold vp_in; decide) dX10_addBytes_32 (fun H locs hP hD hS => ?_)
  generalize upd (fn_9) (Int32.toNatClampNeg 15) z_11 = fn_12 at hP hD
  have hP : va_P D vwCl [(tp, .inr (10, [.ref tby, .int 15, .ref tki, .ref tva, .ref tpl, .int 0, .int 0, .int 0, .int 0, .int 0, .int 0])), (tby, .inl (cy 0, 400, .inl (fn_12)))] H := hP
  have hD : va_D A [(tp, .inr (10, [.ref tby, .int 15, .ref tki, .ref tva, .ref tpl, .int 0, .int 0, .int 0, .int 0, .int 0, .int 0])), (tby, .inl (cy 0, 400, .inl (fn_12)))] := hD
  refine lv_aload_n hx hb dX10_addBytes_33 rfl (lv_at hl 1 rfl) ?_
  refine lv_dup hx hb dX10_addBytes_34 rfl ?_
  refine va_get (D := D) (ci := 10) (v := .int 15) (C := RX10) (T := TX10) (N := 11) hx hb hG inG_X10 hown hE.1 hP 0 rfl rfl 1 (by decide) (hG _ q_f_X10_15) (fun _ h9 => h9) rfl dX10_addBytes_35 ?_
  refine lv_iconst (v := 1) hx hb dX10_addBytes_38 (by decide) ?_
  refine lv_iadd hx hb dX10_addBytes_39 ?_
  refine k_top (z := 16) (by decide) ?_
  refine va_put (D := D) (ci := 10) (v := .int 16) (ty := .int) (C := RX10) (T := TX10) (N := 11) hx hb hG inG_X10 tyX10 tyX10_ok nmX10 hown hE.1 hP hD hS 0 rfl rfl 1 (by decide) (hG _ q_f_X10_15) (fun _ h9 => h9) rfl (by decide +kernel) rfl rfl (Nat.le_of_ble_eq_true rfl) dX10_addBytes_40 (fun H locs hP hD hS => ?_)
  have hP : va_P D vwCl [(tp, .inr (10, [.ref tby, .int 16, .ref tki, .ref tva, .ref tpl, .int 0, .int 0, .int 0, .int 0, .int 0, .int 0])), (tby, .inl (cy 0, 400, .inl (fn_12)))] H := hP
  have hD : va_D A [(tp, .inr (10, [.ref tby, .int 16, .ref tki, .ref tva, .ref tpl, .int 0, .int 0, .int 0, .int 0, .int 0, .int 0])), (tby, .inl (cy 0, 400, .inl (fn_12)))] := hD
  refine lv_iinc (v := (-8)) (lv' := [(2, .int (-8)), (0, .ref tp), (1, .int x0)]) hx hb dX10_addBytes_43 hl (k := 0) rfl (by decide) (by decide) rfl (fun ls hl => ?_)
  refine lv_goto (tgt := 3) hx hb dX10_addBytes_46 (by decide) ?_
  refine lv_iload_n hx hb dX10_addBytes_3 rfl (lv_at hl 0 rfl) ?_
  refine lv_if_lt (tgt := 49) hx hb dX10_addBytes_4 (by decide) (fun _ => ?_) (fun q => absurd q (by decide))
  exact KV.rt fn_12 F (hP.sub [0, 1] rfl) (hD.sub [0, 1] (by decide) rfl) hS (trivial) (Nat.le_of_ble_eq_true rfl) (Nat.le_of_ble_eq_true rfl) dX10_addBytes_49

set_option maxHeartbeats 4000000 in
set_option maxRecDepth 100000 in
theorem c_addBytes16 (l : Launch) (D : va_G) (cy : Nat → ClassId) (tp tby tki tva tpl : Nat) (fb : Nat → Int32) (x0 : Int32) : KV l yX10_addBytes cX10_addBytes 3 0 0 D (kTY cy) [.ref tp, .int x0] [(tp, .inr (10, [.ref tby, .int 16, .ref tki, .ref tva, .ref tpl, .int 0, .int 0, .int 0, .int 0, .int 0, .int 0])), (tby, .inl (cy 0, 400, .inl (fb)))] (S := Nat → Int32) (fun _ => True) (fun f => [(tp, .inr (10, [.ref tby, .int 20, .ref tki, .ref tva, .ref tpl, .int 0, .int 0, .int 0, .int 0, .int 0, .int 0])), (tby, .inl (cy 0, 400, .inl (f)))]) 0 0 := by
  refine KV.of (by decide) (Nat.le_of_ble_eq_true rfl) (fun p e s m below meth c ls A F hin hE hP hD hA hS hl => ?_)
  have F : kF p s m meth c cX10_addBytes 3 none _ RX10 := F
  obtain ⟨hx, hb, hr, hml, hown, hG, hlk⟩ := id F
  have hl : lv_has ls 3 [(0, .ref tp), (1, .int x0)] := hl
  refine lv_bipush (v := 24) hx hb dX10_addBytes_0 (by decide) ?_
  refine lv_istore_n (lv' := [(2, .int 24), (0, .ref tp), (1, .int x0)]) hx hb dX10_addBytes_2 rfl hl (by decide) rfl (fun ls hl => ?_)
  refine lv_iload_n hx hb dX10_addBytes_3 rfl (lv_at hl 0 rfl) ?_
  refine lv_if_lt (tgt := 49) hx hb dX10_addBytes_4 (by decide) (fun q => absurd q (by decide)) (fun _ => ?_)
  refine lv_aload_n hx hb dX10_addBytes_7 rfl (lv_at hl 1 rfl) ?_
  refine va_get (D := D) (ci := 10) (v := .int 16) (C := RX10) (T := TX10) (N := 11) hx hb hG inG_X10 hown hE.1 hP 0 rfl rfl 1 (by decide) (hG _ q_f_X10_15) (fun _ h9 => h9) rfl dX10_addBytes_8 ?_
  refine lv_sipush (v := 400) hx hb dX10_addBytes_11 (by decide) ?_
  refine lv_icmp_ge (tgt := 49) hx hb dX10_addBytes_14 (by decide) (fun q => absurd q (by decide)) (fun _ => ?_)
  refine lv_aload_n hx hb dX10_addBytes_17 rfl (lv_at hl 1 rfl) ?_
  refine va_get (D := D) (ci := 10) (v := .ref tby) (C := RX10) (T := TX10) (N := 11) hx hb hG inG_X10 hown hE.1 hP 0 rfl rfl 0 (by decide) (hG _ q_f_X10_11) (fun _ h9 => h9) rfl dX10_addBytes_18 ?_
  refine lv_aload_n hx hb dX10_addBytes_21 rfl (lv_at hl 1 rfl) ?_
  refine va_get (D := D) (ci := 10) (v := .int 16) (C := RX10) (T := TX10) (N := 11) hx hb hG inG_X10 hown hE.1 hP 0 rfl rfl 1 (by decide) (hG _ q_f_X10_15) (fun _ h9 => h9) rfl dX10_addBytes_22 ?_
  refine lv_iload_n hx hb dX10_addBytes_25 rfl (lv_at hl 2 rfl) ?_
  refine lv_iload_n hx hb dX10_addBytes_26 rfl (lv_at hl 0 rfl) ?_
  refine lv_iushr hx hb dX10_addBytes_27 rfl ?_
  refine lv_topi (fun z_1 ez_1 => ?_)
  refine lv_sipush (v := 255) hx hb dX10_addBytes_28 (by decide) ?_
  refine lv_iand hx hb dX10_addBytes_31 ?_
  refine lv_topi (fun z_2 ez_2 => ?_)
  refine va_iast hx hb hE.1 hP hD hS 1 0 rfl rfl (by unfold vp_in; decide) dX10_addBytes_32 (fun H locs hP hD hS => ?_)
  generalize upd (fb) (Int32.toNatClampNeg 16) z_2 = fn_3 at hP hD
  have hP : va_P D vwCl [(tp, .inr (10, [.ref tby, .int 16, .ref tki, .ref tva, .ref tpl, .int 0, .int 0, .int 0, .int 0, .int 0, .int 0])), (tby, .inl (cy 0, 400, .inl (fn_3)))] H := hP
  have hD : va_D A [(tp, .inr (10, [.ref tby, .int 16, .ref tki, .ref tva, .ref tpl, .int 0, .int 0, .int 0, .int 0, .int 0, .int 0])), (tby, .inl (cy 0, 400, .inl (fn_3)))] := hD
  refine lv_aload_n hx hb dX10_addBytes_33 rfl (lv_at hl 1 rfl) ?_
  refine lv_dup hx hb dX10_addBytes_34 rfl ?_
  refine va_get (D := D) (ci := 10) (v := .int 16) (C := RX10) (T := TX10) (N := 11) hx hb hG inG_X10 hown hE.1 hP 0 rfl rfl 1 (by decide) (hG _ q_f_X10_15) (fun _ h9 => h9) rfl dX10_addBytes_35 ?_
  refine lv_iconst (v := 1) hx hb dX10_addBytes_38 (by decide) ?_
  refine lv_iadd hx hb dX10_addBytes_39 ?_
  refine k_top (z := 17) (by decide) ?_
  refine va_put (D := D) (ci := 10) (v := .int 17) (ty := .int) (C := RX10) (T := TX10) (N := 11) hx hb hG inG_X10 tyX10 tyX10_ok nmX10 hown hE.1 hP hD hS 0 rfl rfl 1 (by decide) (hG _ q_f_X10_15) (fun _ h9 => h9) rfl (by decide +kernel) rfl rfl (Nat.le_of_ble_eq_true rfl) dX10_addBytes_40 (fun H locs hP hD hS => ?_)
  have hP : va_P D vwCl [(tp, .inr (10, [.ref tby, .int 17, .ref tki, .ref tva, .ref tpl, .int 0, .int 0, .int 0, .int 0, .int 0, .int 0])), (tby, .inl (cy 0, 400, .inl (fn_3)))] H := hP
  have hD : va_D A [(tp, .inr (10, [.ref tby, .int 17, .ref tki, .ref tva, .ref tpl, .int 0, .int 0, .int 0, .int 0, .int 0, .int 0])), (tby, .inl (cy 0, 400, .inl (fn_3)))] := hD
  refine lv_iinc (v := 16) (lv' := [(2, .int 16), (0, .ref tp), (1, .int x0)]) hx hb dX10_addBytes_43 hl (k := 0) rfl (by decide) (by decide) rfl (fun ls hl => ?_)
  refine lv_goto (tgt := 3) hx hb dX10_addBytes_46 (by decide) ?_
  refine lv_iload_n hx hb dX10_addBytes_3 rfl (lv_at hl 0 rfl) ?_
  refine lv_if_lt (tgt := 49) hx hb dX10_addBytes_4 (by decide) (fun q => absurd q (by decide)) (fun _ => ?_)
  refine lv_aload_n hx hb dX10_addBytes_7 rfl (lv_at hl 1 rfl) ?_
  refine va_get (D := D) (ci := 10) (v := .int 17) (C := RX10) (T := TX10) (N := 11) hx hb hG inG_X10 hown hE.1 hP 0 rfl rfl 1 (by decide) (hG _ q_f_X10_15) (fun _ h9 => h9) rfl dX10_addBytes_8 ?_
  refine lv_sipush (v := 400) hx hb dX10_addBytes_11 (by decide) ?_
  refine lv_icmp_ge (tgt := 49) hx hb dX10_addBytes_14 (by decide) (fun q => absurd q (by decide)) (fun _ => ?_)
  refine lv_aload_n hx hb dX10_addBytes_17 rfl (lv_at hl 1 rfl) ?_
  refine va_get (D := D) (ci := 10) (v := .ref tby) (C := RX10) (T := TX10) (N := 11) hx hb hG inG_X10 hown hE.1 hP 0 rfl rfl 0 (by decide) (hG _ q_f_X10_11) (fun _ h9 => h9) rfl dX10_addBytes_18 ?_
  refine lv_aload_n hx hb dX10_addBytes_21 rfl (lv_at hl 1 rfl) ?_
  refine va_get (D := D) (ci := 10) (v := .int 17) (C := RX10) (T := TX10) (N := 11) hx hb hG inG_X10 hown hE.1 hP 0 rfl rfl 1 (by decide) (hG _ q_f_X10_15) (fun _ h9 => h9) rfl dX10_addBytes_22 ?_
  refine lv_iload_n hx hb dX10_addBytes_25 rfl (lv_at hl 2 rfl) ?_
  refine lv_iload_n hx hb dX10_addBytes_26 rfl (lv_at hl 0 rfl) ?_
  refine lv_iushr hx hb dX10_addBytes_27 rfl ?_
  refine lv_topi (fun z_4 ez_4 => ?_)
  refine lv_sipush (v := 255) hx hb dX10_addBytes_28 (by decide) ?_
  refine lv_iand hx hb dX10_addBytes_31 ?_
  refine lv_topi (fun z_5 ez_5 => ?_)
  refine va_iast hx hb hE.1 hP hD hS 1 0 rfl rfl (by unfold vp_in; decide) dX10_addBytes_32 (fun H locs hP hD hS => ?_)
  generalize upd (fn_3) (Int32.toNatClampNeg 17) z_5 = fn_6 at hP hD
  have hP : va_P D vwCl [(tp, .inr (10, [.ref tby, .int 17, .ref tki, .ref tva, .ref tpl, .int 0, .int 0, .int 0, .int 0, .int 0, .int 0])), (tby, .inl (cy 0, 400, .inl (fn_6)))] H := hP
  have hD : va_D A [(tp, .inr (10, [.ref tby, .int 17, .ref tki, .ref tva, .ref tpl, .int 0, .int 0, .int 0, .int 0, .int 0, .int 0])), (tby, .inl (cy 0, 400, .inl (fn_6)))] := hD
  refine lv_aload_n hx hb dX10_addBytes_33 rfl (lv_at hl 1 rfl) ?_
  refine lv_dup hx hb dX10_addBytes_34 rfl ?_
  refine va_get (D := D) (ci := 10) (v := .int 17) (C := RX10) (T := TX10) (N := 11) hx hb hG inG_X10 hown hE.1 hP 0 rfl rfl 1 (by decide) (hG _ q_f_X10_15) (fun _ h9 => h9) rfl dX10_addBytes_35 ?_
  refine lv_iconst (v := 1) hx hb dX10_addBytes_38 (by decide) ?_
  refine lv_iadd hx hb dX10_addBytes_39 ?_
  refine k_top (z := 18) (by decide) ?_
  refine va_put (D := D) (ci := 10) (v := .int 18) (ty := .int) (C := RX10) (T := TX10) (N := 11) hx hb hG inG_X10 tyX10 tyX10_ok nmX10 hown hE.1 hP hD hS 0 rfl rfl 1 (by decide) (hG _ q_f_X10_15) (fun _ h9 => h9) rfl (by decide +kernel) rfl rfl (Nat.le_of_ble_eq_true rfl) dX10_addBytes_40 (fun H locs hP hD hS => ?_)
  have hP : va_P D vwCl [(tp, .inr (10, [.ref tby, .int 18, .ref tki, .ref tva, .ref tpl, .int 0, .int 0, .int 0, .int 0, .int 0, .int 0])), (tby, .inl (cy 0, 400, .inl (fn_6)))] H := hP
  have hD : va_D A [(tp, .inr (10, [.ref tby, .int 18, .ref tki, .ref tva, .ref tpl, .int 0, .int 0, .int 0, .int 0, .int 0, .int 0])), (tby, .inl (cy 0, 400, .inl (fn_6)))] := hD
  refine lv_iinc (v := 8) (lv' := [(2, .int 8), (0, .ref tp), (1, .int x0)]) hx hb dX10_addBytes_43 hl (k := 0) rfl (by decide) (by decide) rfl (fun ls hl => ?_)
  refine lv_goto (tgt := 3) hx hb dX10_addBytes_46 (by decide) ?_
  refine lv_iload_n hx hb dX10_addBytes_3 rfl (lv_at hl 0 rfl) ?_
  refine lv_if_lt (tgt := 49) hx hb dX10_addBytes_4 (by decide) (fun q => absurd q (by decide)) (fun _ => ?_)
  refine lv_aload_n hx hb dX10_addBytes_7 rfl (lv_at hl 1 rfl) ?_
  refine va_get (D := D) (ci := 10) (v := .int 18) (C := RX10) (T := TX10) (N := 11) hx hb hG inG_X10 hown hE.1 hP 0 rfl rfl 1 (by decide) (hG _ q_f_X10_15) (fun _ h9 => h9) rfl dX10_addBytes_8 ?_
  refine lv_sipush (v := 400) hx hb dX10_addBytes_11 (by decide) ?_
  refine lv_icmp_ge (tgt := 49) hx hb dX10_addBytes_14 (by decide) (fun q => absurd q (by decide)) (fun _ => ?_)
  refine lv_aload_n hx hb dX10_addBytes_17 rfl (lv_at hl 1 rfl) ?_
  refine va_get (D := D) (ci := 10) (v := .ref tby) (C := RX10) (T := TX10) (N := 11) hx hb hG inG_X10 hown hE.1 hP 0 rfl rfl 0 (by decide) (hG _ q_f_X10_11) (fun _ h9 => h9) rfl dX10_addBytes_18 ?_
  refine lv_aload_n hx hb dX10_addBytes_21 rfl (lv_at hl 1 rfl) ?_
  refine va_get (D := D) (ci := 10) (v := .int 18) (C := RX10) (T := TX10) (N := 11) hx hb hG inG_X10 hown hE.1 hP 0 rfl rfl 1 (by decide) (hG _ q_f_X10_15) (fun _ h9 => h9) rfl dX10_addBytes_22 ?_
  refine lv_iload_n hx hb dX10_addBytes_25 rfl (lv_at hl 2 rfl) ?_
  refine lv_iload_n hx hb dX10_addBytes_26 rfl (lv_at hl 0 rfl) ?_
  refine lv_iushr hx hb dX10_addBytes_27 rfl ?_
  refine lv_topi (fun z_7 ez_7 => ?_)
  refine lv_sipush (v := 255) hx hb dX10_addBytes_28 (by decide) ?_
  refine lv_iand hx hb dX10_addBytes_31 ?_
  refine lv_topi (fun z_8 ez_8 => ?_)
  refine va_iast hx hb hE.1 hP hD hS 1 0 rfl rfl (by unfold vp_in; decide) dX10_addBytes_32 (fun H locs hP hD hS => ?_)
  generalize upd (fn_6) (Int32.toNatClampNeg 18) z_8 = fn_9 at hP hD
  have hP : va_P D vwCl [(tp, .inr (10, [.ref tby, .int 18, .ref tki, .ref tva, .ref tpl, .int 0, .int 0, .int 0, .int 0, .int 0, .int 0])), (tby, .inl (cy 0, 400, .inl (fn_9)))] H := hP
  have hD : va_D A [(tp, .inr (10, [.ref tby, .int 18, .ref tki, .ref tva, .ref tpl, .int 0, .int 0, .int 0, .int 0, .int 0, .int 0])), (tby, .inl (cy 0, 400, .inl (fn_9)))] := hD
  refine lv_aload_n hx hb dX10_addBytes_33 rfl (lv_at hl 1 rfl) ?_
  refine lv_dup hx hb dX10_addBytes_34 rfl ?_
  refine va_get (D := D) (ci := 10) (v := .int 18) (C := RX10) (T := TX10) (N := 11) hx hb hG inG_X10 hown hE.1 hP 0 rfl rfl 1 (by decide) (hG _ q_f_X10_15) (fun _ h9 => h9) rfl dX10_addBytes_35 ?_
  refine lv_iconst (v := 1) hx hb dX10_addBytes_38 (by decide) ?_
  refine lv_iadd hx hb dX10_addBytes_39 ?_
  refine k_top (z := 19) (by decide) ?_
  refine va_put (D := D) (ci := 10) (v := .int 19) (ty := .int) (C := RX10) (T := TX10) (N := 11) hx hb hG inG_X10 tyX10 tyX10_ok nmX10 hown hE.1 hP hD hS 0 rfl rfl 1 (by decide) (hG _ q_f_X10_15) (fun _ h9 => h9) rfl (by decide +kernel) rfl rfl (Nat.le_of_ble_eq_true rfl) dX10_addBytes_40 (fun H locs hP hD hS => ?_)
  have hP : va_P D vwCl [(tp, .inr (10, [.ref tby, .int 19, .ref tki, .ref tva, .ref tpl, .int 0, .int 0, .int 0, .int 0, .int 0, .int 0])), (tby, .inl (cy 0, 400, .inl (fn_9)))] H := hP
  have hD : va_D A [(tp, .inr (10, [.ref tby, .int 19, .ref tki, .ref tva, .ref tpl, .int 0, .int 0, .int 0, .int 0, .int 0, .int 0])), (tby, .inl (cy 0, 400, .inl (fn_9)))] := hD
  refine lv_iinc (v := 0) (lv' := [(2, .int 0), (0, .ref tp), (1, .int x0)]) hx hb dX10_addBytes_43 hl (k := 0) rfl (by decide) (by decide) rfl (fun ls hl => ?_)
  refine lv_goto (tgt := 3) hx hb dX10_addBytes_46 (by decide) ?_
  refine lv_iload_n hx hb dX10_addBytes_3 rfl (lv_at hl 0 rfl) ?_
  refine lv_if_lt (tgt := 49) hx hb dX10_addBytes_4 (by decide) (fun q => absurd q (by decide)) (fun _ => ?_)
  refine lv_aload_n hx hb dX10_addBytes_7 rfl (lv_at hl 1 rfl) ?_
  refine va_get (D := D) (ci := 10) (v := .int 19) (C := RX10) (T := TX10) (N := 11) hx hb hG inG_X10 hown hE.1 hP 0 rfl rfl 1 (by decide) (hG _ q_f_X10_15) (fun _ h9 => h9) rfl dX10_addBytes_8 ?_
  refine lv_sipush (v := 400) hx hb dX10_addBytes_11 (by decide) ?_
  refine lv_icmp_ge (tgt := 49) hx hb dX10_addBytes_14 (by decide) (fun q => absurd q (by decide)) (fun _ => ?_)
  refine lv_aload_n hx hb dX10_addBytes_17 rfl (lv_at hl 1 rfl) ?_
  refine va_get (D := D) (ci := 10) (v := .ref tby) (C := RX10) (T := TX10) (N := 11) hx hb hG inG_X10 hown hE.1 hP 0 rfl rfl 0 (by decide) (hG _ q_f_X10_11) (fun _ h9 => h9) rfl dX10_addBytes_18 ?_
  refine lv_aload_n hx hb dX10_addBytes_21 rfl (lv_at hl 1 rfl) ?_
  refine va_get (D := D) (ci := 10) (v := .int 19) (C := RX10) (T := TX10) (N := 11) hx hb hG inG_X10 hown hE.1 hP 0 rfl rfl 1 (by decide) (hG _ q_f_X10_15) (fun _ h9 => h9) rfl dX10_addBytes_22 ?_
  refine lv_iload_n hx hb dX10_addBytes_25 rfl (lv_at hl 2 rfl) ?_
  refine lv_iload_n hx hb dX10_addBytes_26 rfl (lv_at hl 0 rfl) ?_
  refine lv_iushr hx hb dX10_addBytes_27 rfl ?_
  refine lv_topi (fun z_10 ez_10 => ?_)
  refine lv_sipush (v := 255) hx hb dX10_addBytes_28 (by decide) ?_
  refine lv_iand hx hb dX10_addBytes_31 ?_
  refine lv_topi (fun z_11 ez_11 => ?_)
  refine va_iast hx hb hE.1 hP hD hS 1 0 rfl rfl (by unfold vp_in; decide) dX10_addBytes_32 (fun H locs hP hD hS => ?_)
  generalize upd (fn_9) (Int32.toNatClampNeg 19) z_11 = fn_12 at hP hD
  have hP : va_P D vwCl [(tp, .inr (10, [.ref tby, .int 19, .ref tki, .ref tva, .ref tpl, .int 0, .int 0, .int 0, .int 0, .int 0, .int 0])), (tby, .inl (cy 0, 400, .inl (fn_12)))] H := hP
  have hD : va_D A [(tp, .inr (10, [.ref tby, .int 19, .ref tki, .ref tva, .ref tpl, .int 0, .int 0, .int 0, .int 0, .int 0, .int 0])), (tby, .inl (cy 0, 400, .inl (fn_12)))] := hD
  refine lv_aload_n hx hb dX10_addBytes_33 rfl (lv_at hl 1 rfl) ?_
  refine lv_dup hx hb dX10_addBytes_34 rfl ?_
  refine va_get (D := D) (ci := 10) (v := .int 19) (C := RX10) (T := TX10) (N := 11) hx hb hG inG_X10 hown hE.1 hP 0 rfl rfl 1 (by decide) (hG _ q_f_X10_15) (fun _ h9 => h9) rfl dX10_addBytes_35 ?_
  refine lv_iconst (v := 1) hx hb dX10_addBytes_38 (by decide) ?_
  refine lv_iadd hx hb dX10_addBytes_39 ?_
  refine k_top (z := 20) (by decide) ?_
  refine va_put (D := D) (ci := 10) (v := .int 20) (ty := .int) (C := RX10) (T := TX10) (N := 11) hx hb hG inG_X10 tyX10 tyX10_ok nmX10 hown hE.1 hP hD hS 0 rfl rfl 1 (by decide) (hG _ q_f_X10_15) (fun _ h9 => h9) rfl (by decide +kernel) rfl rfl (Nat.le_of_ble_eq_true rfl) dX10_addBytes_40 (fun H locs hP hD hS => ?_)
  have hP : va_P D vwCl [(tp, .inr (10, [.ref tby, .int 20, .ref tki, .ref tva, .ref tpl, .int 0, .int 0, .int 0, .int 0, .int 0, .int 0])), (tby, .inl (cy 0, 400, .inl (fn_12)))] H := hP
  have hD : va_D A [(tp, .inr (10, [.ref tby, .int 20, .ref tki, .ref tva, .ref tpl, .int 0, .int 0, .int 0, .int 0, .int 0, .int 0])), (tby, .inl (cy 0, 400, .inl (fn_12)))] := hD
  refine lv_iinc (v := (-8)) (lv' := [(2, .int (-8)), (0, .ref tp), (1, .int x0)]) hx hb dX10_addBytes_43 hl (k := 0) rfl (by decide) (by decide) rfl (fun ls hl => ?_)
  refine lv_goto (tgt := 3) hx hb dX10_addBytes_46 (by decide) ?_
  refine lv_iload_n hx hb dX10_addBytes_3 rfl (lv_at hl 0 rfl) ?_
  refine lv_if_lt (tgt := 49) hx hb dX10_addBytes_4 (by decide) (fun _ => ?_) (fun q => absurd q (by decide))
  exact KV.rt fn_12 F (hP.sub [0, 1] rfl) (hD.sub [0, 1] (by decide) rfl) hS (trivial) (Nat.le_of_ble_eq_true rfl) (Nat.le_of_ble_eq_true rfl) dX10_addBytes_49

set_option maxHeartbeats 4000000 in
set_option maxRecDepth 100000 in
theorem c_hasRoom (l : Launch) (D : va_G) (cy : Nat → ClassId) (tp tby tki tva tpl : Nat) : KP l yX10_hasRoom cX10_hasRoom 2 (some .boolean) 0 0 D (kTY cy) [.ref tp, .int 20] [(tp, .inr (10, [.ref tby, .int 0, .ref tki, .ref tva, .ref tpl, .int 0, .int 0, .int 0, .int 0, .int 0, .int 0]))] (fun r => r = 1) := by
  refine KP.of (by decide) (Nat.le_of_ble_eq_true rfl) (fun p e s m below meth c ls F hE hP hl => ?_)
  have F : kF p s m meth c cX10_hasRoom 2 (some .boolean) _ RX10 := F
  obtain ⟨hx, hb, hr, hml, hown, hG, hlk⟩ := id F
  have hl : lv_has ls 2 [(0, .ref tp), (1, .int 20)] := hl
  refine lv_aload_n hx hb dX10_hasRoom_0 rfl (lv_at hl 0 rfl) ?_
  refine va_get (D := D) (ci := 10) (v := .int 0) (C := RX10) (T := TX10) (N := 11) hx hb hG inG_X10 hown hE.1 hP 0 rfl rfl 1 (by decide) (hG _ q_f_X10_15) (fun _ h9 => h9) rfl dX10_hasRoom_1 ?_
  refine lv_iload_n hx hb dX10_hasRoom_4 rfl (lv_at hl 1 rfl) ?_
  refine lv_iadd hx hb dX10_hasRoom_5 ?_
  refine k_top (z := 20) (by decide) ?_
  refine lv_sipush (v := 400) hx hb dX10_hasRoom_6 (by decide) ?_
  refine lv_icmp_gt (tgt := 16) hx hb dX10_hasRoom_9 (by decide) (fun q => absurd q (by decide)) (fun _ => ?_)
  refine lv_iconst (v := 1) hx hb dX10_hasRoom_12 (by decide) ?_
  refine lv_goto (tgt := 17) hx hb dX10_hasRoom_13 (by decide) ?_
  exact KP.rt F rfl (rfl) dX10_hasRoom_17

set_option maxHeartbeats 4000000 in
set_option maxRecDepth 100000 in
theorem x_feed (l : Launch) (D : va_G) (cy : Nat → ClassId) (h0 tp gr rr ru nw im ac py fo su : Nat) (tby tki tva tpl : Nat) (x0 : Int32) (x1 : Int32) (x2 : Int32) (x3 : Int32) (x4 : Int32) : KI l yX11_feed cX11_feed 6 (some .int) 1 22 D (kTY cy) [.ref h0, .int x0, .int x1, .int x2, .int x3, .int x4] [(h0, .inr (11, [.ref tp, .ref gr, .ref rr, .ref ru, .int 0, .ref nw, .ref im, .ref ac, .ref py, .ref fo, .ref su])), (tp, .inr (10, [.ref tby, .int 0, .ref tki, .ref tva, .ref tpl, .int 0, .int 0, .int 0, .int 0, .int 0, .int 0])), (tby, .inl (cy 0, 400, .inl (fun _ => 0)))] (S := Unit) (fun r _ => r = 20) (fun _ => []) 0 0 := by
  refine KI.of (by decide) (Nat.le_of_ble_eq_true rfl) (fun p e s m below meth c ls A F hE hP hD hA hS hl => ?_)
  have F : kF p s m meth c cX11_feed 6 (some .int) _ RX11 := F
  obtain ⟨hx, hb, hr, hml, hown, hG, hlk⟩ := id F
  have hl : lv_has ls 6 [(0, .ref h0), (1, .int x0), (2, .int x1), (3, .int x2), (4, .int x3), (5, .int x4)] := hl
  refine lv_aload_n hx hb dX11_feed_0 rfl (lv_at hl 0 rfl) ?_
  refine va_get (D := D) (ci := 11) (v := .ref tp) (C := RX11) (T := TX11) (N := 11) hx hb hG inG_X11 hown hE.1 hP 0 rfl rfl 0 (by decide) (hG _ q_f_X11_10) (fun _ h9 => h9) rfl dX11_feed_1 ?_
  refine lv_bipush (v := 20) hx hb dX11_feed_4 (by decide) ?_
  refine kcV (As := [.int 20]) (rest := []) F hE hP hl.1 (c_hasRoom l D cy (tp := tp) (tby := tby) (tki := tki) (tva := tva) (tpl := tpl)) q_m_X11_79 mv_X10_hasRoom ⟨(Nat.le_of_ble_eq_true rfl), (Nat.le_of_ble_eq_true rfl)⟩ [1] rfl rfl rfl rfl rfl rfl (Nat.le_of_ble_eq_true rfl) ⟨(Nat.le_of_ble_eq_true rfl), (Nat.le_of_ble_eq_true rfl)⟩ dX11_feed_6 (fun r_1 er_1 => ?_)
  subst er_1
  refine lv_if_ne (tgt := 14) hx hb dX11_feed_9 (by decide) (fun _ => ?_) (fun q => absurd q (by decide))
  refine lv_aload_n hx hb dX11_feed_14 rfl (lv_at hl 0 rfl) ?_
  refine va_get (D := D) (ci := 11) (v := .ref tp) (C := RX11) (T := TX11) (N := 11) hx hb hG inG_X11 hown hE.1 hP 0 rfl rfl 0 (by decide) (hG _ q_f_X11_10) (fun _ h9 => h9) rfl dX11_feed_15 ?_
  refine lv_iload_n hx hb dX11_feed_18 rfl (lv_at hl 1 rfl) ?_
  refine kwVV (wr := [(h0, .inr (11, [.ref tp, .ref gr, .ref rr, .ref ru, .int 0, .ref nw, .ref im, .ref ac, .ref py, .ref fo, .ref su]))]) (As := [.int x0]) (rest := []) F hE hP hD hS hA hl.1 (c_addBytes0 l D cy (tp := tp) (x0 := x0) (tby := tby) (tki := tki) (tva := tva) (tpl := tpl) (fb := (fun _ => 0))) q_m_X11_83 mv_X10_addBytes ⟨(Nat.le_of_ble_eq_true rfl), (Nat.le_of_ble_eq_true rfl)⟩ [1, 2] [0] (by decide) rfl rfl (by decide) (by decide) rfl rfl rfl rfl rfl (Nat.le_of_ble_eq_true rfl) ⟨(Nat.le_of_ble_eq_true rfl), (Nat.le_of_ble_eq_true rfl)⟩ dX11_feed_19 (fun u_2 H locs eu_2 hP hD hS => ?_)
  have hP : va_P D vwCl [(h0, .inr (11, [.ref tp, .ref gr, .ref rr, .ref ru, .int 0, .ref nw, .ref im, .ref ac, .ref py, .ref fo, .ref su])), (tp, .inr (10, [.ref tby, .int 4, .ref tki, .ref tva, .ref tpl, .int 0, .int 0, .int 0, .int 0, .int 0, .int 0])), (tby, .inl (cy 0, 400, .inl (u_2)))] H := hP
  have hD : va_D A [(h0, .inr (11, [.ref tp, .ref gr, .ref rr, .ref ru, .int 0, .ref nw, .ref im, .ref ac, .ref py, .ref fo, .ref su])), (tp, .inr (10, [.ref tby, .int 4, .ref tki, .ref tva, .ref tpl, .int 0, .int 0, .int 0, .int 0, .int 0, .int 0])), (tby, .inl (cy 0, 400, .inl (u_2)))] := hD
  refine lv_aload_n hx hb dX11_feed_22 rfl (lv_at hl 0 rfl) ?_
  refine va_get (D := D) (ci := 11) (v := .ref tp) (C := RX11) (T := TX11) (N := 11) hx hb hG inG_X11 hown hE.1 hP 0 rfl rfl 0 (by decide) (hG _ q_f_X11_10) (fun _ h9 => h9) rfl dX11_feed_23 ?_
  refine lv_iload_n hx hb dX11_feed_26 rfl (lv_at hl 2 rfl) ?_
  refine kwVV (wr := [(h0, .inr (11, [.ref tp, .ref gr, .ref rr, .ref ru, .int 0, .ref nw, .ref im, .ref ac, .ref py, .ref fo, .ref su]))]) (As := [.int x1]) (rest := []) F hE hP hD hS hA hl.1 (c_addBytes4 l D cy (tp := tp) (x0 := x1) (tby := tby) (tki := tki) (tva := tva) (tpl := tpl) (fb := u_2)) q_m_X11_83 mv_X10_addBytes ⟨(Nat.le_of_ble_eq_true rfl), (Nat.le_of_ble_eq_true rfl)⟩ [1, 2] [0] (by decide) rfl rfl (by decide) (by decide) rfl rfl rfl rfl rfl (Nat.le_of_ble_eq_true rfl) ⟨(Nat.le_of_ble_eq_true rfl), (Nat.le_of_ble_eq_true rfl)⟩ dX11_feed_27 (fun u_3 H locs eu_3 hP hD hS => ?_)
  have hP : va_P D vwCl [(h0, .inr (11, [.ref tp, .ref gr, .ref rr, .ref ru, .int 0, .ref nw, .ref im, .ref ac, .ref py, .ref fo, .ref su])), (tp, .inr (10, [.ref tby, .int 8, .ref tki, .ref tva, .ref tpl, .int 0, .int 0, .int 0, .int 0, .int 0, .int 0])), (tby, .inl (cy 0, 400, .inl (u_3)))] H := hP
  have hD : va_D A [(h0, .inr (11, [.ref tp, .ref gr, .ref rr, .ref ru, .int 0, .ref nw, .ref im, .ref ac, .ref py, .ref fo, .ref su])), (tp, .inr (10, [.ref tby, .int 8, .ref tki, .ref tva, .ref tpl, .int 0, .int 0, .int 0, .int 0, .int 0, .int 0])), (tby, .inl (cy 0, 400, .inl (u_3)))] := hD
  refine lv_aload_n hx hb dX11_feed_30 rfl (lv_at hl 0 rfl) ?_
  refine va_get (D := D) (ci := 11) (v := .ref tp) (C := RX11) (T := TX11) (N := 11) hx hb hG inG_X11 hown hE.1 hP 0 rfl rfl 0 (by decide) (hG _ q_f_X11_10) (fun _ h9 => h9) rfl dX11_feed_31 ?_
  refine lv_iload_n hx hb dX11_feed_34 rfl (lv_at hl 3 rfl) ?_
  refine kwVV (wr := [(h0, .inr (11, [.ref tp, .ref gr, .ref rr, .ref ru, .int 0, .ref nw, .ref im, .ref ac, .ref py, .ref fo, .ref su]))]) (As := [.int x2]) (rest := []) F hE hP hD hS hA hl.1 (c_addBytes8 l D cy (tp := tp) (x0 := x2) (tby := tby) (tki := tki) (tva := tva) (tpl := tpl) (fb := u_3)) q_m_X11_83 mv_X10_addBytes ⟨(Nat.le_of_ble_eq_true rfl), (Nat.le_of_ble_eq_true rfl)⟩ [1, 2] [0] (by decide) rfl rfl (by decide) (by decide) rfl rfl rfl rfl rfl (Nat.le_of_ble_eq_true rfl) ⟨(Nat.le_of_ble_eq_true rfl), (Nat.le_of_ble_eq_true rfl)⟩ dX11_feed_35 (fun u_4 H locs eu_4 hP hD hS => ?_)
  have hP : va_P D vwCl [(h0, .inr (11, [.ref tp, .ref gr, .ref rr, .ref ru, .int 0, .ref nw, .ref im, .ref ac, .ref py, .ref fo, .ref su])), (tp, .inr (10, [.ref tby, .int 12, .ref tki, .ref tva, .ref tpl, .int 0, .int 0, .int 0, .int 0, .int 0, .int 0])), (tby, .inl (cy 0, 400, .inl (u_4)))] H := hP
  have hD : va_D A [(h0, .inr (11, [.ref tp, .ref gr, .ref rr, .ref ru, .int 0, .ref nw, .ref im, .ref ac, .ref py, .ref fo, .ref su])), (tp, .inr (10, [.ref tby, .int 12, .ref tki, .ref tva, .ref tpl, .int 0, .int 0, .int 0, .int 0, .int 0, .int 0])), (tby, .inl (cy 0, 400, .inl (u_4)))] := hD
  refine lv_aload_n hx hb dX11_feed_38 rfl (lv_at hl 0 rfl) ?_
  refine va_get (D := D) (ci := 11) (v := .ref tp) (C := RX11) (T := TX11) (N := 11) hx hb hG inG_X11 hown hE.1 hP 0 rfl rfl 0 (by decide) (hG _ q_f_X11_10) (fun _ h9 => h9) rfl dX11_feed_39 ?_
  refine lv_iload hx hb dX11_feed_42 (lv_at hl 4 rfl) ?_
  refine kwVV (wr := [(h0, .inr (11, [.ref tp, .ref gr, .ref rr, .ref ru, .int 0, .ref nw, .ref im, .ref ac, .ref py, .ref fo, .ref su]))]) (As := [.int x3]) (rest := []) F hE hP hD hS hA hl.1 (c_addBytes12 l D cy (tp := tp) (x0 := x3) (tby := tby) (tki := tki) (tva := tva) (tpl := tpl) (fb := u_4)) q_m_X11_83 mv_X10_addBytes ⟨(Nat.le_of_ble_eq_true rfl), (Nat.le_of_ble_eq_true rfl)⟩ [1, 2] [0] (by decide) rfl rfl (by decide) (by decide) rfl rfl rfl rfl rfl (Nat.le_of_ble_eq_true rfl) ⟨(Nat.le_of_ble_eq_true rfl), (Nat.le_of_ble_eq_true rfl)⟩ dX11_feed_44 (fun u_5 H locs eu_5 hP hD hS => ?_)
  have hP : va_P D vwCl [(h0, .inr (11, [.ref tp, .ref gr, .ref rr, .ref ru, .int 0, .ref nw, .ref im, .ref ac, .ref py, .ref fo, .ref su])), (tp, .inr (10, [.ref tby, .int 16, .ref tki, .ref tva, .ref tpl, .int 0, .int 0, .int 0, .int 0, .int 0, .int 0])), (tby, .inl (cy 0, 400, .inl (u_5)))] H := hP
  have hD : va_D A [(h0, .inr (11, [.ref tp, .ref gr, .ref rr, .ref ru, .int 0, .ref nw, .ref im, .ref ac, .ref py, .ref fo, .ref su])), (tp, .inr (10, [.ref tby, .int 16, .ref tki, .ref tva, .ref tpl, .int 0, .int 0, .int 0, .int 0, .int 0, .int 0])), (tby, .inl (cy 0, 400, .inl (u_5)))] := hD
  refine lv_aload_n hx hb dX11_feed_47 rfl (lv_at hl 0 rfl) ?_
  refine va_get (D := D) (ci := 11) (v := .ref tp) (C := RX11) (T := TX11) (N := 11) hx hb hG inG_X11 hown hE.1 hP 0 rfl rfl 0 (by decide) (hG _ q_f_X11_10) (fun _ h9 => h9) rfl dX11_feed_48 ?_
  refine lv_iload hx hb dX11_feed_51 (lv_at hl 5 rfl) ?_
  refine kwVV (wr := [(h0, .inr (11, [.ref tp, .ref gr, .ref rr, .ref ru, .int 0, .ref nw, .ref im, .ref ac, .ref py, .ref fo, .ref su]))]) (As := [.int x4]) (rest := []) F hE hP hD hS hA hl.1 (c_addBytes16 l D cy (tp := tp) (x0 := x4) (tby := tby) (tki := tki) (tva := tva) (tpl := tpl) (fb := u_5)) q_m_X11_83 mv_X10_addBytes ⟨(Nat.le_of_ble_eq_true rfl), (Nat.le_of_ble_eq_true rfl)⟩ [1, 2] [0] (by decide) rfl rfl (by decide) (by decide) rfl rfl rfl rfl rfl (Nat.le_of_ble_eq_true rfl) ⟨(Nat.le_of_ble_eq_true rfl), (Nat.le_of_ble_eq_true rfl)⟩ dX11_feed_53 (fun u_6 H locs eu_6 hP hD hS => ?_)
  have hP : va_P D vwCl [(h0, .inr (11, [.ref tp, .ref gr, .ref rr, .ref ru, .int 0, .ref nw, .ref im, .ref ac, .ref py, .ref fo, .ref su])), (tp, .inr (10, [.ref tby, .int 20, .ref tki, .ref tva, .ref tpl, .int 0, .int 0, .int 0, .int 0, .int 0, .int 0])), (tby, .inl (cy 0, 400, .inl (u_6)))] H := hP
  have hD : va_D A [(h0, .inr (11, [.ref tp, .ref gr, .ref rr, .ref ru, .int 0, .ref nw, .ref im, .ref ac, .ref py, .ref fo, .ref su])), (tp, .inr (10, [.ref tby, .int 20, .ref tki, .ref tva, .ref tpl, .int 0, .int 0, .int 0, .int 0, .int 0, .int 0])), (tby, .inl (cy 0, 400, .inl (u_6)))] := hD
  refine lv_aload_n hx hb dX11_feed_56 rfl (lv_at hl 0 rfl) ?_
  refine va_get (D := D) (ci := 11) (v := .ref tp) (C := RX11) (T := TX11) (N := 11) hx hb hG inG_X11 hown hE.1 hP 0 rfl rfl 0 (by decide) (hG _ q_f_X11_10) (fun _ h9 => h9) rfl dX11_feed_57 ?_
  refine va_get (D := D) (ci := 10) (v := .int 20) (C := RX10) (T := TX10) (N := 11) hx hb hG inG_X10 hown hE.1 hP 1 rfl rfl 1 (by decide) (hG _ q_f_X11_87) (fun _ h9 => h9) rfl dX11_feed_60 ?_
  exact KI.rt () F rfl (hP.sub [] rfl) (hD.sub [] (by decide) rfl) hS (rfl) (Nat.le_of_ble_eq_true rfl) (Nat.le_of_ble_eq_true rfl) dX11_feed_63

set_option maxHeartbeats 4000000 in
set_option maxRecDepth 100000 in
theorem x_end (l : Launch) (D : va_G) (cy : Nat → ClassId) (h0 tp gr rr ru nw im ac py fo su : Nat) (tby tki tva tpl : Nat) (x0 : Int32) : KI l yX11_end cX11_end 2 (some .int) 1 22 D (kTY cy) [.ref h0, .int x0] [(h0, .inr (11, [.ref tp, .ref gr, .ref rr, .ref ru, .int 0, .ref nw, .ref im, .ref ac, .ref py, .ref fo, .ref su])), (tp, .inr (10, [.ref tby, .int 0, .ref tki, .ref tva, .ref tpl, .int 0, .int 0, .int 0, .int 0, .int 0, .int 0]))] (S := Unit) (fun r _ => r = if x0 < 0 ∨ 0 < x0 then -1 else x0) (fun _ => []) 0 0 := by
  refine KI.of (by decide) (Nat.le_of_ble_eq_true rfl) (fun p e s m below meth c ls A F hE hP hD hA hS hl => ?_)
  have F : kF p s m meth c cX11_end 2 (some .int) _ RX11 := F
  obtain ⟨hx, hb, hr, hml, hown, hG, hlk⟩ := id F
  have hl : lv_has ls 2 [(0, .ref h0), (1, .int x0)] := hl
  refine lv_iload_n hx hb dX11_end_0 rfl (lv_at hl 1 rfl) ?_
  refine lv_iconst (v := 0) hx hb dX11_end_1 (by decide) ?_
  refine lv_aload_n hx hb dX11_end_2 rfl (lv_at hl 0 rfl) ?_
  refine va_get (D := D) (ci := 11) (v := .ref tp) (C := RX11) (T := TX11) (N := 11) hx hb hG inG_X11 hown hE.1 hP 0 rfl rfl 0 (by decide) (hG _ q_f_X11_10) (fun _ h9 => h9) rfl dX11_end_3 ?_
  refine va_get (D := D) (ci := 10) (v := .int 0) (C := RX10) (T := TX10) (N := 11) hx hb hG inG_X10 hown hE.1 hP 1 rfl rfl 1 (by decide) (hG _ q_f_X11_87) (fun _ h9 => h9) rfl dX11_end_6 ?_
  refine kcS (As := [.int x0, .int 0, .int 0]) (rest := []) F hE hP hl.1 (c_within l D cy (x0 := x0) (x1 := 0) (x2 := 0)) q_m_X11_90 ms_X11_within ⟨(Nat.le_of_ble_eq_true rfl), (Nat.le_of_ble_eq_true rfl)⟩ [] rfl rfl rfl (Nat.le_of_ble_eq_true rfl) ⟨(Nat.le_of_ble_eq_true rfl), (Nat.le_of_ble_eq_true rfl)⟩ dX11_end_9 (fun r_1 er_1 => ?_)
  refine lv_if_ne (tgt := 17) hx hb dX11_end_12 (by decide) (fun c_2 => ?_) (fun c_2 => ?_)
  · refine lv_aload_n hx hb dX11_end_17 rfl (lv_at hl 0 rfl) ?_
    refine va_get (D := D) (ci := 11) (v := .ref tp) (C := RX11) (T := TX11) (N := 11) hx hb hG inG_X11 hown hE.1 hP 0 rfl rfl 0 (by decide) (hG _ q_f_X11_10) (fun _ h9 => h9) rfl dX11_end_18 ?_
    refine lv_iload_n hx hb dX11_end_21 rfl (lv_at hl 1 rfl) ?_
    refine va_put (D := D) (ci := 10) (v := .int x0) (ty := .int) (C := RX10) (T := TX10) (N := 11) hx hb hG inG_X10 tyX10 tyX10_ok nmX10 hown hE.1 hP hD hS 1 rfl rfl 1 (by decide) (hG _ q_f_X11_87) (fun _ h9 => h9) rfl (by decide +kernel) rfl rfl (Nat.le_of_ble_eq_true rfl) dX11_end_22 (fun H locs hP hD hS => ?_)
    have hP : va_P D vwCl [(h0, .inr (11, [.ref tp, .ref gr, .ref rr, .ref ru, .int 0, .ref nw, .ref im, .ref ac, .ref py, .ref fo, .ref su])), (tp, .inr (10, [.ref tby, .int x0, .ref tki, .ref tva, .ref tpl, .int 0, .int 0, .int 0, .int 0, .int 0, .int 0]))] H := hP
    have hD : va_D A [(h0, .inr (11, [.ref tp, .ref gr, .ref rr, .ref ru, .int 0, .ref nw, .ref im, .ref ac, .ref py, .ref fo, .ref su])), (tp, .inr (10, [.ref tby, .int x0, .ref tki, .ref tva, .ref tpl, .int 0, .int 0, .int 0, .int 0, .int 0, .int 0]))] := hD
    refine lv_iload_n hx hb dX11_end_25 rfl (lv_at hl 1 rfl) ?_
    exact KI.rt () F rfl (hP.sub [] rfl) (hD.sub [] (by decide) rfl) hS (by rw [if_neg (fun q => absurd (er_1.trans (if_pos q)) c_2)]) (Nat.le_of_ble_eq_true rfl) (Nat.le_of_ble_eq_true rfl) dX11_end_26
  · refine lv_iconst (v := (-1)) hx hb dX11_end_15 (by decide) ?_
    exact KI.rt () F rfl (hP.sub [] rfl) (hD.sub [] (by decide) rfl) hS (by rw [if_pos (Classical.byContradiction (fun q => absurd (c_2) (by rw [er_1, if_neg q]; decide)))]) (Nat.le_of_ble_eq_true rfl) (Nat.le_of_ble_eq_true rfl) dX11_end_16

set_option maxHeartbeats 4000000 in
set_option maxRecDepth 100000 in
theorem x_force (l : Launch) (D : va_G) (cy : Nat → ClassId) (h0 tp gr rr ru nw im ac py fo su : Nat) (fd bg nt fc : Nat) (x0 : Int32) : KI l yX11_force cX11_force 3 (some .int) 1 22 D (kTY cy) [.ref h0, .int x0] [(h0, .inr (11, [.ref tp, .ref gr, .ref rr, .ref ru, .int 0, .ref nw, .ref im, .ref ac, .ref py, .ref fo, .ref su])), (nw, .inr (4, [.ref fd, .ref bg, .ref nt, .int (-1), .int 0, .int 0]))] (S := Unit) (fun r _ => r = if x0 < -1 ∨ -1 < x0 then -2 else -1) (fun _ => []) 0 0 := by
  refine KI.of (by decide) (Nat.le_of_ble_eq_true rfl) (fun p e s m below meth c ls A F hE hP hD hA hS hl => ?_)
  have F : kF p s m meth c cX11_force 3 (some .int) _ RX11 := F
  obtain ⟨hx, hb, hr, hml, hown, hG, hlk⟩ := id F
  have hl : lv_has ls 3 [(0, .ref h0), (1, .int x0)] := hl
  refine lv_iload_n hx hb dX11_force_0 rfl (lv_at hl 1 rfl) ?_
  refine lv_iconst (v := (-1)) hx hb dX11_force_1 (by decide) ?_
  refine lv_aload_n hx hb dX11_force_2 rfl (lv_at hl 0 rfl) ?_
  refine va_get (D := D) (ci := 11) (v := .int 0) (C := RX11) (T := TX11) (N := 11) hx hb hG inG_X11 hown hE.1 hP 0 rfl rfl 4 (by decide) (hG _ q_f_X11_36) (fun _ h9 => h9) rfl dX11_force_3 ?_
  refine lv_iconst (v := 1) hx hb dX11_force_6 (by decide) ?_
  refine lv_isub hx hb dX11_force_7 ?_
  refine k_top (z := (-1)) (by decide) ?_
  refine kcS (As := [.int x0, .int (-1), .int (-1)]) (rest := []) F hE hP hl.1 (c_within l D cy (x0 := x0) (x1 := (-1)) (x2 := (-1))) q_m_X11_90 ms_X11_within ⟨(Nat.le_of_ble_eq_true rfl), (Nat.le_of_ble_eq_true rfl)⟩ [] rfl rfl rfl (Nat.le_of_ble_eq_true rfl) ⟨(Nat.le_of_ble_eq_true rfl), (Nat.le_of_ble_eq_true rfl)⟩ dX11_force_8 (fun r_1 er_1 => ?_)
  refine lv_if_ne (tgt := 17) hx hb dX11_force_11 (by decide) (fun c_2 => ?_) (fun c_2 => ?_)
  · refine lv_aload_n hx hb dX11_force_17 rfl (lv_at hl 0 rfl) ?_
    refine va_get (D := D) (ci := 11) (v := .ref nw) (C := RX11) (T := TX11) (N := 11) hx hb hG inG_X11 hown hE.1 hP 0 rfl rfl 5 (by decide) (hG _ q_f_X11_43) (fun _ h9 => h9) rfl dX11_force_18 ?_
    refine va_get (D := D) (ci := 4) (v := .int (-1)) (C := RX4) (T := TX4) (N := 6) hx hb hG inG_X4 hown hE.1 hP 1 rfl rfl 3 (by decide) (hG _ q_f_X11_133) (fun _ h9 => h9) rfl dX11_force_21 ?_
    refine lv_istore_n (lv' := [(2, .int (-1)), (0, .ref h0), (1, .int x0)]) hx hb dX11_force_24 rfl hl (by decide) rfl (fun ls hl => ?_)
    refine lv_aload_n hx hb dX11_force_25 rfl (lv_at hl 1 rfl) ?_
    refine va_get (D := D) (ci := 11) (v := .ref nw) (C := RX11) (T := TX11) (N := 11) hx hb hG inG_X11 hown hE.1 hP 0 rfl rfl 5 (by decide) (hG _ q_f_X11_43) (fun _ h9 => h9) rfl dX11_force_26 ?_
    refine lv_iload_n hx hb dX11_force_29 rfl (lv_at hl 2 rfl) ?_
    refine va_put (D := D) (ci := 4) (v := .int x0) (ty := .int) (C := RX4) (T := TX4) (N := 6) hx hb hG inG_X4 tyX4 tyX4_ok nmX4 hown hE.1 hP hD hS 1 rfl rfl 3 (by decide) (hG _ q_f_X11_133) (fun _ h9 => h9) rfl (by decide +kernel) rfl rfl (Nat.le_of_ble_eq_true rfl) dX11_force_30 (fun H locs hP hD hS => ?_)
    have hP : va_P D vwCl [(h0, .inr (11, [.ref tp, .ref gr, .ref rr, .ref ru, .int 0, .ref nw, .ref im, .ref ac, .ref py, .ref fo, .ref su])), (nw, .inr (4, [.ref fd, .ref bg, .ref nt, .int x0, .int 0, .int 0]))] H := hP
    have hD : va_D A [(h0, .inr (11, [.ref tp, .ref gr, .ref rr, .ref ru, .int 0, .ref nw, .ref im, .ref ac, .ref py, .ref fo, .ref su])), (nw, .inr (4, [.ref fd, .ref bg, .ref nt, .int x0, .int 0, .int 0]))] := hD
    refine lv_iload_n hx hb dX11_force_33 rfl (lv_at hl 0 rfl) ?_
    exact KI.rt () F rfl (hP.sub [] rfl) (hD.sub [] (by decide) rfl) hS (by rw [if_neg (fun q => absurd (er_1.trans (if_pos q)) c_2)]) (Nat.le_of_ble_eq_true rfl) (Nat.le_of_ble_eq_true rfl) dX11_force_34
  · refine lv_bipush (v := (-2)) hx hb dX11_force_14 (by decide) ?_
    exact KI.rt () F rfl (hP.sub [] rfl) (hD.sub [] (by decide) rfl) hS (by rw [if_pos (Classical.byContradiction (fun q => absurd (c_2) (by rw [er_1, if_neg q]; decide)))]) (Nat.le_of_ble_eq_true rfl) (Nat.le_of_ble_eq_true rfl) dX11_force_16

set_option maxHeartbeats 4000000 in
set_option maxRecDepth 100000 in
theorem x_seed (l : Launch) (D : va_G) (cy : Nat → ClassId) (h0 tp gr rr ru nw im ac py fo su : Nat) (fd bg nt fc : Nat) (x0 : Int32) : KI l yX11_seed cX11_seed 3 (some .int) 0 0 D (kTY cy) [.ref h0, .int x0] [(h0, .inr (11, [.ref tp, .ref gr, .ref rr, .ref ru, .int 0, .ref nw, .ref im, .ref ac, .ref py, .ref fo, .ref su])), (nw, .inr (4, [.ref fd, .ref bg, .ref nt, .int (-1), .int 0, .int 0]))] (S := Unit) (fun r _ => r = if x0 < 0 then -1 else 0) (fun _ => []) 0 0 := by
  refine KI.of (by decide) (Nat.le_of_ble_eq_true rfl) (fun p e s m below meth c ls A F hE hP hD hA hS hl => ?_)
  have F : kF p s m meth c cX11_seed 3 (some .int) _ RX11 := F
  obtain ⟨hx, hb, hr, hml, hown, hG, hlk⟩ := id F
  have hl : lv_has ls 3 [(0, .ref h0), (1, .int x0)] := hl
  refine lv_iload_n hx hb dX11_seed_0 rfl (lv_at hl 1 rfl) ?_
  refine lv_if_ge (tgt := 6) hx hb dX11_seed_1 (by decide) (fun c_1 => ?_) (fun c_1 => ?_)
  · refine lv_aload_n hx hb dX11_seed_6 rfl (lv_at hl 0 rfl) ?_
    refine va_get (D := D) (ci := 11) (v := .ref nw) (C := RX11) (T := TX11) (N := 11) hx hb hG inG_X11 hown hE.1 hP 0 rfl rfl 5 (by decide) (hG _ q_f_X11_43) (fun _ h9 => h9) rfl dX11_seed_7 ?_
    refine va_get (D := D) (ci := 4) (v := .int 0) (C := RX4) (T := TX4) (N := 6) hx hb hG inG_X4 hown hE.1 hP 1 rfl rfl 4 (by decide) (hG _ q_f_X11_149) (fun _ h9 => h9) rfl dX11_seed_10 ?_
    refine lv_istore_n (lv' := [(2, .int 0), (0, .ref h0), (1, .int x0)]) hx hb dX11_seed_13 rfl hl (by decide) rfl (fun ls hl => ?_)
    refine lv_aload_n hx hb dX11_seed_14 rfl (lv_at hl 1 rfl) ?_
    refine va_get (D := D) (ci := 11) (v := .ref nw) (C := RX11) (T := TX11) (N := 11) hx hb hG inG_X11 hown hE.1 hP 0 rfl rfl 5 (by decide) (hG _ q_f_X11_43) (fun _ h9 => h9) rfl dX11_seed_15 ?_
    refine lv_iload_n hx hb dX11_seed_18 rfl (lv_at hl 2 rfl) ?_
    refine va_put (D := D) (ci := 4) (v := .int x0) (ty := .int) (C := RX4) (T := TX4) (N := 6) hx hb hG inG_X4 tyX4 tyX4_ok nmX4 hown hE.1 hP hD hS 1 rfl rfl 4 (by decide) (hG _ q_f_X11_149) (fun _ h9 => h9) rfl (by decide +kernel) rfl rfl (Nat.le_of_ble_eq_true rfl) dX11_seed_19 (fun H locs hP hD hS => ?_)
    have hP : va_P D vwCl [(h0, .inr (11, [.ref tp, .ref gr, .ref rr, .ref ru, .int 0, .ref nw, .ref im, .ref ac, .ref py, .ref fo, .ref su])), (nw, .inr (4, [.ref fd, .ref bg, .ref nt, .int (-1), .int x0, .int 0]))] H := hP
    have hD : va_D A [(h0, .inr (11, [.ref tp, .ref gr, .ref rr, .ref ru, .int 0, .ref nw, .ref im, .ref ac, .ref py, .ref fo, .ref su])), (nw, .inr (4, [.ref fd, .ref bg, .ref nt, .int (-1), .int x0, .int 0]))] := hD
    refine lv_iload_n hx hb dX11_seed_22 rfl (lv_at hl 0 rfl) ?_
    exact KI.rt () F rfl (hP.sub [] rfl) (hD.sub [] (by decide) rfl) hS (by first | (rw [if_neg (Int32.not_lt.mpr c_1)]; done) | (rw [if_pos (Int32.not_le.mp c_1)]; done) | (rw [if_pos c_1]; done) | (rw [if_neg c_1]; done)) (Nat.le_of_ble_eq_true rfl) (Nat.le_of_ble_eq_true rfl) dX11_seed_23
  · refine lv_iconst (v := (-1)) hx hb dX11_seed_4 (by decide) ?_
    exact KI.rt () F rfl (hP.sub [] rfl) (hD.sub [] (by decide) rfl) hS (by first | (rw [if_neg (Int32.not_lt.mpr c_1)]; done) | (rw [if_pos (Int32.not_le.mp c_1)]; done) | (rw [if_pos c_1]; done) | (rw [if_neg c_1]; done)) (Nat.le_of_ble_eq_true rfl) (Nat.le_of_ble_eq_true rfl) dX11_seed_5

set_option maxHeartbeats 4000000 in
set_option maxRecDepth 100000 in
theorem x_note (l : Launch) (D : va_G) (cy : Nat → ClassId) (h0 tp gr rr ru nw im ac py fo su : Nat) (fd bg nt fc : Nat) (n1 n2 n3 : Nat) (x0 : Int32) (x1 : Int32) (x2 : Int32) : KI l yX11_note cX11_note 5 (some .int) 2 43 D (kTY cy) [.ref h0, .int x0, .int x1, .int x2] [(h0, .inr (11, [.ref tp, .ref gr, .ref rr, .ref ru, .int 0, .ref nw, .ref im, .ref ac, .ref py, .ref fo, .ref su])), (nw, .inr (4, [.ref fd, .ref bg, .ref nt, .int (-1), .int 0, .int 0])), (fd, .inr (1, [.ref fc])), (fc, .inl (cy 0, 63, .inl (fun _ => 0))), (nt, .inr (5, [.ref n1, .ref n2, .ref n3, .int 0]))] (S := Unit) (fun r _ => r = if x0 = -1 then 0 else -2) (fun _ => []) 0 0 := by
  refine KI.of (by decide) (Nat.le_of_ble_eq_true rfl) (fun p e s m below meth c ls A F hE hP hD hA hS hl => ?_)
  have F : kF p s m meth c cX11_note 5 (some .int) _ RX11 := F
  obtain ⟨hx, hb, hr, hml, hown, hG, hlk⟩ := id F
  have hl : lv_has ls 5 [(0, .ref h0), (1, .int x0), (2, .int x1), (3, .int x2)] := hl
  refine lv_iload_n hx hb dX11_note_0 rfl (lv_at hl 1 rfl) ?_
  refine lv_iconst (v := (-1)) hx hb dX11_note_1 (by decide) ?_
  refine lv_icmp_ne (tgt := 18) hx hb dX11_note_2 (by decide) (fun c_1 => ?_) (fun c_1 => ?_)
  · refine lv_iload_n hx hb dX11_note_18 rfl (lv_at hl 3 rfl) ?_
    refine lv_iconst (v := (-1)) hx hb dX11_note_19 (by decide) ?_
    refine lv_aload_n hx hb dX11_note_20 rfl (lv_at hl 0 rfl) ?_
    refine va_get (D := D) (ci := 11) (v := .ref nw) (C := RX11) (T := TX11) (N := 11) hx hb hG inG_X11 hown hE.1 hP 0 rfl rfl 5 (by decide) (hG _ q_f_X11_43) (fun _ h9 => h9) rfl dX11_note_21 ?_
    refine va_get (D := D) (ci := 4) (v := .ref fd) (C := RX4) (T := TX4) (N := 6) hx hb hG inG_X4 hown hE.1 hP 1 rfl rfl 0 (by decide) (hG _ q_f_X11_111) (fun _ h9 => h9) rfl dX11_note_24 ?_
    refine va_get (D := D) (ci := 1) (v := .ref fc) (C := RX1) (T := TX1) (N := 1) hx hb hG inG_X1 hown hE.1 hP 2 rfl rfl 0 (by decide) (hG _ q_f_X11_124) (fun _ h9 => h9) rfl dX11_note_27 ?_
    refine lv_iconst (v := 0) hx hb dX11_note_30 (by decide) ?_
    refine va_iald hx hb hE.1 hP 3 0 rfl rfl (by unfold vp_in; decide) dX11_note_31 ?_
    refine k_top (z := 0) rfl ?_
    refine lv_iconst (v := 1) hx hb dX11_note_32 (by decide) ?_
    refine lv_isub hx hb dX11_note_33 ?_
    refine k_top (z := (-1)) (by decide) ?_
    refine kcS (As := [.int x2, .int (-1), .int (-1)]) (rest := []) F hE hP hl.1 (c_within l D cy (x0 := x2) (x1 := (-1)) (x2 := (-1))) q_m_X11_90 ms_X11_within ⟨(Nat.le_of_ble_eq_true rfl), (Nat.le_of_ble_eq_true rfl)⟩ [] rfl rfl rfl (Nat.le_of_ble_eq_true rfl) ⟨(Nat.le_of_ble_eq_true rfl), (Nat.le_of_ble_eq_true rfl)⟩ dX11_note_34 (fun r_2 er_2 => ?_)
    refine lv_if_ne (tgt := 46) hx hb dX11_note_37 (by decide) (fun c_3 => ?_) (fun c_3 => ?_)
    · refine lv_iconst (v := 1) hx hb dX11_note_46 (by decide) ?_
      refine lv_goto (tgt := 51) hx hb dX11_note_47 (by decide) ?_
      refine lv_istore (lv' := [(4, .int 1), (0, .ref h0), (1, .int x0), (2, .int x1), (3, .int x2)]) hx hb dX11_note_51 hl (by decide) rfl (fun ls hl => ?_)
      refine lv_iload_n hx hb dX11_note_53 rfl (lv_at hl 2 rfl) ?_
      refine lv_iconst (v := 0) hx hb dX11_note_54 (by decide) ?_
      refine lv_bipush (v := 40) hx hb dX11_note_55 (by decide) ?_
      refine kcS (As := [.int x0, .int 0, .int 40]) (rest := []) F hE hP hl.1 (c_within l D cy (x0 := x0) (x1 := 0) (x2 := 40)) q_m_X11_90 ms_X11_within ⟨(Nat.le_of_ble_eq_true rfl), (Nat.le_of_ble_eq_true rfl)⟩ [] rfl rfl rfl (Nat.le_of_ble_eq_true rfl) ⟨(Nat.le_of_ble_eq_true rfl), (Nat.le_of_ble_eq_true rfl)⟩ dX11_note_57 (fun r_4 er_4 => ?_)
      refine lv_if_eq (tgt := 95) hx hb dX11_note_60 (by decide) (fun c_5 => ?_) (fun c_5 => ?_)
      · refine lv_bipush (v := (-2)) hx hb dX11_note_95 (by decide) ?_
        exact KI.rt () F rfl (hP.sub [] rfl) (hD.sub [] (by decide) rfl) hS (by first | (rw [if_pos c_1]; done) | (rw [if_neg c_1]; done)) (Nat.le_of_ble_eq_true rfl) (Nat.le_of_ble_eq_true rfl) dX11_note_97
      · refine lv_aload_n hx hb dX11_note_63 rfl (lv_at hl 1 rfl) ?_
        refine va_get (D := D) (ci := 11) (v := .ref nw) (C := RX11) (T := TX11) (N := 11) hx hb hG inG_X11 hown hE.1 hP 0 rfl rfl 5 (by decide) (hG _ q_f_X11_43) (fun _ h9 => h9) rfl dX11_note_64 ?_
        refine va_get (D := D) (ci := 4) (v := .ref fd) (C := RX4) (T := TX4) (N := 6) hx hb hG inG_X4 hown hE.1 hP 1 rfl rfl 0 (by decide) (hG _ q_f_X11_111) (fun _ h9 => h9) rfl dX11_note_67 ?_
        refine lv_iload_n hx hb dX11_note_70 rfl (lv_at hl 3 rfl) ?_
        refine kcV (As := [.int x1]) (rest := []) F hE hP hl.1 (c_hasArcher l D cy (fd := fd) (x0 := x1) (fc := fc)) q_m_X11_139 mv_X1_hasArcher ⟨(Nat.le_of_ble_eq_true rfl), (Nat.le_of_ble_eq_true rfl)⟩ [2, 3] rfl rfl rfl rfl rfl rfl (Nat.le_of_ble_eq_true rfl) ⟨(Nat.le_of_ble_eq_true rfl), (Nat.le_of_ble_eq_true rfl)⟩ dX11_note_71 (fun r_6 er_6 => ?_)
        subst er_6
        refine lv_if_eq (tgt := 95) hx hb dX11_note_74 (by decide) (fun _ => ?_) (fun q => absurd q (by decide))
        refine lv_bipush (v := (-2)) hx hb dX11_note_95 (by decide) ?_
        exact KI.rt () F rfl (hP.sub [] rfl) (hD.sub [] (by decide) rfl) hS (by first | (rw [if_pos c_1]; done) | (rw [if_neg c_1]; done)) (Nat.le_of_ble_eq_true rfl) (Nat.le_of_ble_eq_true rfl) dX11_note_97
    · refine lv_iload_n hx hb dX11_note_40 rfl (lv_at hl 3 rfl) ?_
      refine lv_bipush (v := 99) hx hb dX11_note_41 (by decide) ?_
      refine lv_icmp_ne (tgt := 50) hx hb dX11_note_43 (by decide) (fun c_7 => ?_) (fun c_7 => ?_)
      · refine lv_iconst (v := 0) hx hb dX11_note_50 (by decide) ?_
        refine lv_istore (lv' := [(4, .int 0), (0, .ref h0), (1, .int x0), (2, .int x1), (3, .int x2)]) hx hb dX11_note_51 hl (by decide) rfl (fun ls hl => ?_)
        refine lv_iload_n hx hb dX11_note_53 rfl (lv_at hl 2 rfl) ?_
        refine lv_iconst (v := 0) hx hb dX11_note_54 (by decide) ?_
        refine lv_bipush (v := 40) hx hb dX11_note_55 (by decide) ?_
        refine kcS (As := [.int x0, .int 0, .int 40]) (rest := []) F hE hP hl.1 (c_within l D cy (x0 := x0) (x1 := 0) (x2 := 40)) q_m_X11_90 ms_X11_within ⟨(Nat.le_of_ble_eq_true rfl), (Nat.le_of_ble_eq_true rfl)⟩ [] rfl rfl rfl (Nat.le_of_ble_eq_true rfl) ⟨(Nat.le_of_ble_eq_true rfl), (Nat.le_of_ble_eq_true rfl)⟩ dX11_note_57 (fun r_8 er_8 => ?_)
        refine lv_if_eq (tgt := 95) hx hb dX11_note_60 (by decide) (fun c_9 => ?_) (fun c_9 => ?_)
        · refine lv_bipush (v := (-2)) hx hb dX11_note_95 (by decide) ?_
          exact KI.rt () F rfl (hP.sub [] rfl) (hD.sub [] (by decide) rfl) hS (by first | (rw [if_pos c_1]; done) | (rw [if_neg c_1]; done)) (Nat.le_of_ble_eq_true rfl) (Nat.le_of_ble_eq_true rfl) dX11_note_97
        · refine lv_aload_n hx hb dX11_note_63 rfl (lv_at hl 1 rfl) ?_
          refine va_get (D := D) (ci := 11) (v := .ref nw) (C := RX11) (T := TX11) (N := 11) hx hb hG inG_X11 hown hE.1 hP 0 rfl rfl 5 (by decide) (hG _ q_f_X11_43) (fun _ h9 => h9) rfl dX11_note_64 ?_
          refine va_get (D := D) (ci := 4) (v := .ref fd) (C := RX4) (T := TX4) (N := 6) hx hb hG inG_X4 hown hE.1 hP 1 rfl rfl 0 (by decide) (hG _ q_f_X11_111) (fun _ h9 => h9) rfl dX11_note_67 ?_
          refine lv_iload_n hx hb dX11_note_70 rfl (lv_at hl 3 rfl) ?_
          refine kcV (As := [.int x1]) (rest := []) F hE hP hl.1 (c_hasArcher l D cy (fd := fd) (x0 := x1) (fc := fc)) q_m_X11_139 mv_X1_hasArcher ⟨(Nat.le_of_ble_eq_true rfl), (Nat.le_of_ble_eq_true rfl)⟩ [2, 3] rfl rfl rfl rfl rfl rfl (Nat.le_of_ble_eq_true rfl) ⟨(Nat.le_of_ble_eq_true rfl), (Nat.le_of_ble_eq_true rfl)⟩ dX11_note_71 (fun r_10 er_10 => ?_)
          subst er_10
          refine lv_if_eq (tgt := 95) hx hb dX11_note_74 (by decide) (fun _ => ?_) (fun q => absurd q (by decide))
          refine lv_bipush (v := (-2)) hx hb dX11_note_95 (by decide) ?_
          exact KI.rt () F rfl (hP.sub [] rfl) (hD.sub [] (by decide) rfl) hS (by first | (rw [if_pos c_1]; done) | (rw [if_neg c_1]; done)) (Nat.le_of_ble_eq_true rfl) (Nat.le_of_ble_eq_true rfl) dX11_note_97
      · refine lv_iconst (v := 1) hx hb dX11_note_46 (by decide) ?_
        refine lv_goto (tgt := 51) hx hb dX11_note_47 (by decide) ?_
        refine lv_istore (lv' := [(4, .int 1), (0, .ref h0), (1, .int x0), (2, .int x1), (3, .int x2)]) hx hb dX11_note_51 hl (by decide) rfl (fun ls hl => ?_)
        refine lv_iload_n hx hb dX11_note_53 rfl (lv_at hl 2 rfl) ?_
        refine lv_iconst (v := 0) hx hb dX11_note_54 (by decide) ?_
        refine lv_bipush (v := 40) hx hb dX11_note_55 (by decide) ?_
        refine kcS (As := [.int x0, .int 0, .int 40]) (rest := []) F hE hP hl.1 (c_within l D cy (x0 := x0) (x1 := 0) (x2 := 40)) q_m_X11_90 ms_X11_within ⟨(Nat.le_of_ble_eq_true rfl), (Nat.le_of_ble_eq_true rfl)⟩ [] rfl rfl rfl (Nat.le_of_ble_eq_true rfl) ⟨(Nat.le_of_ble_eq_true rfl), (Nat.le_of_ble_eq_true rfl)⟩ dX11_note_57 (fun r_11 er_11 => ?_)
        refine lv_if_eq (tgt := 95) hx hb dX11_note_60 (by decide) (fun c_12 => ?_) (fun c_12 => ?_)
        · refine lv_bipush (v := (-2)) hx hb dX11_note_95 (by decide) ?_
          exact KI.rt () F rfl (hP.sub [] rfl) (hD.sub [] (by decide) rfl) hS (by first | (rw [if_pos c_1]; done) | (rw [if_neg c_1]; done)) (Nat.le_of_ble_eq_true rfl) (Nat.le_of_ble_eq_true rfl) dX11_note_97
        · refine lv_aload_n hx hb dX11_note_63 rfl (lv_at hl 1 rfl) ?_
          refine va_get (D := D) (ci := 11) (v := .ref nw) (C := RX11) (T := TX11) (N := 11) hx hb hG inG_X11 hown hE.1 hP 0 rfl rfl 5 (by decide) (hG _ q_f_X11_43) (fun _ h9 => h9) rfl dX11_note_64 ?_
          refine va_get (D := D) (ci := 4) (v := .ref fd) (C := RX4) (T := TX4) (N := 6) hx hb hG inG_X4 hown hE.1 hP 1 rfl rfl 0 (by decide) (hG _ q_f_X11_111) (fun _ h9 => h9) rfl dX11_note_67 ?_
          refine lv_iload_n hx hb dX11_note_70 rfl (lv_at hl 3 rfl) ?_
          refine kcV (As := [.int x1]) (rest := []) F hE hP hl.1 (c_hasArcher l D cy (fd := fd) (x0 := x1) (fc := fc)) q_m_X11_139 mv_X1_hasArcher ⟨(Nat.le_of_ble_eq_true rfl), (Nat.le_of_ble_eq_true rfl)⟩ [2, 3] rfl rfl rfl rfl rfl rfl (Nat.le_of_ble_eq_true rfl) ⟨(Nat.le_of_ble_eq_true rfl), (Nat.le_of_ble_eq_true rfl)⟩ dX11_note_71 (fun r_13 er_13 => ?_)
          subst er_13
          refine lv_if_eq (tgt := 95) hx hb dX11_note_74 (by decide) (fun _ => ?_) (fun q => absurd q (by decide))
          refine lv_bipush (v := (-2)) hx hb dX11_note_95 (by decide) ?_
          exact KI.rt () F rfl (hP.sub [] rfl) (hD.sub [] (by decide) rfl) hS (by first | (rw [if_pos c_1]; done) | (rw [if_neg c_1]; done)) (Nat.le_of_ble_eq_true rfl) (Nat.le_of_ble_eq_true rfl) dX11_note_97
  · refine lv_aload_n hx hb dX11_note_5 rfl (lv_at hl 0 rfl) ?_
    refine va_get (D := D) (ci := 11) (v := .ref nw) (C := RX11) (T := TX11) (N := 11) hx hb hG inG_X11 hown hE.1 hP 0 rfl rfl 5 (by decide) (hG _ q_f_X11_43) (fun _ h9 => h9) rfl dX11_note_6 ?_
    refine va_get (D := D) (ci := 4) (v := .ref nt) (C := RX4) (T := TX4) (N := 6) hx hb hG inG_X4 hown hE.1 hP 1 rfl rfl 2 (by decide) (hG _ q_f_X11_114) (fun _ h9 => h9) rfl dX11_note_9 ?_
    refine lv_iconst (v := 0) hx hb dX11_note_12 (by decide) ?_
    refine va_put (D := D) (ci := 5) (v := .int 0) (ty := .int) (C := RX5) (T := TX5) (N := 4) hx hb hG inG_X5 tyX5 tyX5_ok nmX5 hown hE.1 hP hD hS 4 rfl rfl 3 (by decide) (hG _ q_f_X11_118) (fun _ h9 => h9) rfl (by decide +kernel) rfl rfl (Nat.le_of_ble_eq_true rfl) dX11_note_13 (fun H locs hP hD hS => ?_)
    have hP : va_P D vwCl [(h0, .inr (11, [.ref tp, .ref gr, .ref rr, .ref ru, .int 0, .ref nw, .ref im, .ref ac, .ref py, .ref fo, .ref su])), (nw, .inr (4, [.ref fd, .ref bg, .ref nt, .int (-1), .int 0, .int 0])), (fd, .inr (1, [.ref fc])), (fc, .inl (cy 0, 63, .inl (fun _ => 0))), (nt, .inr (5, [.ref n1, .ref n2, .ref n3, .int 0]))] H := hP
    have hD : va_D A [(h0, .inr (11, [.ref tp, .ref gr, .ref rr, .ref ru, .int 0, .ref nw, .ref im, .ref ac, .ref py, .ref fo, .ref su])), (nw, .inr (4, [.ref fd, .ref bg, .ref nt, .int (-1), .int 0, .int 0])), (fd, .inr (1, [.ref fc])), (fc, .inl (cy 0, 63, .inl (fun _ => 0))), (nt, .inr (5, [.ref n1, .ref n2, .ref n3, .int 0]))] := hD
    refine lv_iconst (v := 0) hx hb dX11_note_16 (by decide) ?_
    exact KI.rt () F rfl (hP.sub [] rfl) (hD.sub [] (by decide) rfl) hS (by first | (rw [if_pos c_1]; done) | (rw [if_neg c_1]; done)) (Nat.le_of_ble_eq_true rfl) (Nat.le_of_ble_eq_true rfl) dX11_note_17
