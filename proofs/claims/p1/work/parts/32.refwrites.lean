set_option maxHeartbeats 4000000 in
set_option maxRecDepth 100000 in
theorem m_wind (l : Launch) (D : va_G) (cy : Nat → ClassId) (m0 a_tape a_sign a_length a_clause a_clauses a_read a_open a_stack a_word a_said a_planned a_cameOf a_wasSaid a_kept a_rowNow a_rowBest a_hasBy a_isFit a_cameThen a_images a_imageForce a_imageX a_isMade : Nat) (x0 : Int32) : KP l yX12_wind cX12_wind 2 (some .int) 2 40 D (kTY cy) [.ref m0, .int x0] [(m0, .inr (12, [.ref a_tape, .int 0, .int 0, .ref a_sign, .ref a_length, .ref a_clause, .ref a_clauses, .ref a_read, .int 0, .int 0, .int 0, .int 0, .int 0, .int 0, .int 0, .ref a_open, .int 0, .ref a_stack, .int 0, .ref a_word, .ref a_said, .int (-1), .int 0, .int (-1), .ref a_planned, .ref a_cameOf, .ref a_wasSaid, .int 0, .ref a_kept, .ref a_rowNow, .ref a_rowBest, .ref a_hasBy, .ref a_isFit, .ref a_cameThen, .long 0, .ref a_images, .ref a_imageForce, .ref a_imageX, .ref a_isMade])), (a_said, .inl (cy 0, 115, .inl (fun _ => 0)))] (fun r => r = (-1)) := by
  refine KP.of (by decide) (Nat.le_of_ble_eq_true rfl) (fun p e s m below meth c ls F hE hP hl => ?_)
  have F : kF p s m meth c cX12_wind 2 (some .int) _ RX12 := F
  obtain ⟨hx, hb, hr, hml, hown, hG, hlk⟩ := id F
  have hl : lv_has ls 2 [(0, .ref m0), (1, .int x0)] := hl
  refine lv_iload_n hx hb dX12_wind_0 rfl (lv_at hl 1 rfl) ?_
  refine lv_if_lt (tgt := 20) hx hb dX12_wind_1 (by decide) (fun c_1 => ?_) (fun c_1 => ?_)
  · refine lv_iconst (v := (-1)) hx hb dX12_wind_20 (by decide) ?_
    exact KP.rt F rfl (rfl) dX12_wind_21
  · refine lv_iload_n hx hb dX12_wind_4 rfl (lv_at hl 1 rfl) ?_
    refine lv_aload_n hx hb dX12_wind_5 rfl (lv_at hl 0 rfl) ?_
    refine kcV (As := []) (rest := [.int x0]) F hE hP hl.1 (c_comingRound l D cy (m0 := m0) (a_tape := a_tape) (a_sign := a_sign) (a_length := a_length) (a_clause := a_clause) (a_clauses := a_clauses) (a_read := a_read) (a_open := a_open) (a_stack := a_stack) (a_word := a_word) (a_said := a_said) (a_planned := a_planned) (a_cameOf := a_cameOf) (a_wasSaid := a_wasSaid) (a_kept := a_kept) (a_rowNow := a_rowNow) (a_rowBest := a_rowBest) (a_hasBy := a_hasBy) (a_isFit := a_isFit) (a_cameThen := a_cameThen) (a_images := a_images) (a_imageForce := a_imageForce) (a_imageX := a_imageX) (a_isMade := a_isMade)) q_m_X12_323 mv_X12_comingRound ⟨(Nat.le_of_ble_eq_true rfl), (Nat.le_of_ble_eq_true rfl)⟩ [0, 1] rfl rfl rfl rfl rfl rfl (Nat.le_of_ble_eq_true rfl) ⟨(Nat.le_of_ble_eq_true rfl), (Nat.le_of_ble_eq_true rfl)⟩ dX12_wind_6 (fun r_2 er_2 => ?_)
    subst er_2
    refine lv_icmp_ge (tgt := 20) hx hb dX12_wind_9 (by decide) (fun _ => ?_) (fun q => absurd (Int32.not_le.mp q) c_1)
    refine lv_iconst (v := (-1)) hx hb dX12_wind_20 (by decide) ?_
    exact KP.rt F rfl (rfl) dX12_wind_21

set_option maxHeartbeats 4000000 in
set_option maxRecDepth 100000 in
theorem c_four0 (l : Launch) (D : va_G) (cy : Nat → ClassId) (m0 a_tape a_sign a_length a_clause a_clauses a_read a_open a_stack a_word a_said a_planned a_cameOf a_wasSaid a_kept a_rowNow a_rowBest a_hasBy a_isFit a_cameThen a_images a_imageForce a_imageX a_isMade : Nat) (fb : Nat → Int32) (x0 : Int32) : KV l yX12_four cX12_four 3 0 0 D (kTY cy) [.ref m0, .int x0] [(m0, .inr (12, [.ref a_tape, .int 0, .int 0, .ref a_sign, .ref a_length, .ref a_clause, .ref a_clauses, .ref a_read, .int 0, .int 0, .int 0, .int 0, .int 0, .int 0, .int 0, .ref a_open, .int 0, .ref a_stack, .int 0, .ref a_word, .ref a_said, .int (-1), .int 0, .int (-1), .ref a_planned, .ref a_cameOf, .ref a_wasSaid, .int 0, .ref a_kept, .ref a_rowNow, .ref a_rowBest, .ref a_hasBy, .ref a_isFit, .ref a_cameThen, .long 0, .ref a_images, .ref a_imageForce, .ref a_imageX, .ref a_isMade])), (a_tape, .inl (cy 2, 400, .inl (fb)))] (S := Nat → Int32) (fun _ => True) (fun f => [(m0, .inr (12, [.ref a_tape, .int 4, .int 0, .ref a_sign, .ref a_length, .ref a_clause, .ref a_clauses, .ref a_read, .int 0, .int 0, .int 0, .int 0, .int 0, .int 0, .int 0, .ref a_open, .int 0, .ref a_stack, .int 0, .ref a_word, .ref a_said, .int (-1), .int 0, .int (-1), .ref a_planned, .ref a_cameOf, .ref a_wasSaid, .int 0, .ref a_kept, .ref a_rowNow, .ref a_rowBest, .ref a_hasBy, .ref a_isFit, .ref a_cameThen, .long 0, .ref a_images, .ref a_imageForce, .ref a_imageX, .ref a_isMade])), (a_tape, .inl (cy 2, 400, .inl (f)))]) 0 0 := by
  refine KV.of (by decide) (Nat.le_of_ble_eq_true rfl) (fun p e s m below meth c ls A F hin hE hP hD hA hS hl => ?_)
  have F : kF p s m meth c cX12_four 3 none _ RX12 := F
  obtain ⟨hx, hb, hr, hml, hown, hG, hlk⟩ := id F
  have hl : lv_has ls 3 [(0, .ref m0), (1, .int x0)] := hl
  refine lv_bipush (v := 24) hx hb dX12_four_0 (by decide) ?_
  refine lv_istore_n (lv' := [(2, .int 24), (0, .ref m0), (1, .int x0)]) hx hb dX12_four_2 rfl hl (by decide) rfl (fun ls hl => ?_)
  refine lv_iload_n hx hb dX12_four_3 rfl (lv_at hl 0 rfl) ?_
  refine lv_if_lt (tgt := 36) hx hb dX12_four_4 (by decide) (fun q => absurd q (by decide)) (fun _ => ?_)
  refine lv_aload_n hx hb dX12_four_7 rfl (lv_at hl 1 rfl) ?_
  refine va_get (D := D) (ci := 12) (v := .ref a_tape) (C := RX12) (T := TX12) (N := 39) hx hb hG inG_X12 hown hE.1 hP 0 rfl rfl 0 (by decide) (hG _ q_f_X12_7) (fun _ h9 => h9) rfl dX12_four_8 ?_
  refine lv_aload_n hx hb dX12_four_11 rfl (lv_at hl 1 rfl) ?_
  refine va_get (D := D) (ci := 12) (v := .int 0) (C := RX12) (T := TX12) (N := 39) hx hb hG inG_X12 hown hE.1 hP 0 rfl rfl 1 (by decide) (hG _ q_f_X12_89) (fun _ h9 => h9) rfl dX12_four_12 ?_
  refine lv_iload_n hx hb dX12_four_15 rfl (lv_at hl 2 rfl) ?_
  refine lv_iload_n hx hb dX12_four_16 rfl (lv_at hl 0 rfl) ?_
  refine lv_ishr hx hb dX12_four_17 ?_
  refine lv_topi (fun z_1 ez_1 => ?_)
  refine lv_i2b hx hb dX12_four_18 rfl ?_
  refine lv_topi (fun z_2 ez_2 => ?_)
  refine va_bast hx hb hE.1 hP hD hS 1 2 rfl rfl (by unfold vp_in; decide) dX12_four_19 (fun H locs hP hD hS => ?_)
  generalize upd (fb) (Int32.toNatClampNeg 0) (vp_nar .byte z_2) = fn_3 at hP hD
  have hP : va_P D vwCl [(m0, .inr (12, [.ref a_tape, .int 0, .int 0, .ref a_sign, .ref a_length, .ref a_clause, .ref a_clauses, .ref a_read, .int 0, .int 0, .int 0, .int 0, .int 0, .int 0, .int 0, .ref a_open, .int 0, .ref a_stack, .int 0, .ref a_word, .ref a_said, .int (-1), .int 0, .int (-1), .ref a_planned, .ref a_cameOf, .ref a_wasSaid, .int 0, .ref a_kept, .ref a_rowNow, .ref a_rowBest, .ref a_hasBy, .ref a_isFit, .ref a_cameThen, .long 0, .ref a_images, .ref a_imageForce, .ref a_imageX, .ref a_isMade])), (a_tape, .inl (cy 2, 400, .inl (fn_3)))] H := hP
  have hD : va_D A [(m0, .inr (12, [.ref a_tape, .int 0, .int 0, .ref a_sign, .ref a_length, .ref a_clause, .ref a_clauses, .ref a_read, .int 0, .int 0, .int 0, .int 0, .int 0, .int 0, .int 0, .ref a_open, .int 0, .ref a_stack, .int 0, .ref a_word, .ref a_said, .int (-1), .int 0, .int (-1), .ref a_planned, .ref a_cameOf, .ref a_wasSaid, .int 0, .ref a_kept, .ref a_rowNow, .ref a_rowBest, .ref a_hasBy, .ref a_isFit, .ref a_cameThen, .long 0, .ref a_images, .ref a_imageForce, .ref a_imageX, .ref a_isMade])), (a_tape, .inl (cy 2, 400, .inl (fn_3)))] := hD
  refine lv_aload_n hx hb dX12_four_20 rfl (lv_at hl 1 rfl) ?_
  refine lv_dup hx hb dX12_four_21 rfl ?_
  refine va_get (D := D) (ci := 12) (v := .int 0) (C := RX12) (T := TX12) (N := 39) hx hb hG inG_X12 hown hE.1 hP 0 rfl rfl 1 (by decide) (hG _ q_f_X12_89) (fun _ h9 => h9) rfl dX12_four_22 ?_
  refine lv_iconst (v := 1) hx hb dX12_four_25 (by decide) ?_
  refine lv_iadd hx hb dX12_four_26 ?_
  refine k_top (z := 1) (by decide) ?_
  refine va_put (D := D) (ci := 12) (v := .int 1) (ty := .int) (C := RX12) (T := TX12) (N := 39) hx hb hG inG_X12 tyX12 tyX12_ok nmX12 hown hE.1 hP hD hS 0 rfl rfl 1 (by decide) (hG _ q_f_X12_89) (fun _ h9 => h9) rfl (by decide +kernel) rfl rfl (Nat.le_of_ble_eq_true rfl) dX12_four_27 (fun H locs hP hD hS => ?_)
  have hP : va_P D vwCl [(m0, .inr (12, [.ref a_tape, .int 1, .int 0, .ref a_sign, .ref a_length, .ref a_clause, .ref a_clauses, .ref a_read, .int 0, .int 0, .int 0, .int 0, .int 0, .int 0, .int 0, .ref a_open, .int 0, .ref a_stack, .int 0, .ref a_word, .ref a_said, .int (-1), .int 0, .int (-1), .ref a_planned, .ref a_cameOf, .ref a_wasSaid, .int 0, .ref a_kept, .ref a_rowNow, .ref a_rowBest, .ref a_hasBy, .ref a_isFit, .ref a_cameThen, .long 0, .ref a_images, .ref a_imageForce, .ref a_imageX, .ref a_isMade])), (a_tape, .inl (cy 2, 400, .inl (fn_3)))] H := hP
  have hD : va_D A [(m0, .inr (12, [.ref a_tape, .int 1, .int 0, .ref a_sign, .ref a_length, .ref a_clause, .ref a_clauses, .ref a_read, .int 0, .int 0, .int 0, .int 0, .int 0, .int 0, .int 0, .ref a_open, .int 0, .ref a_stack, .int 0, .ref a_word, .ref a_said, .int (-1), .int 0, .int (-1), .ref a_planned, .ref a_cameOf, .ref a_wasSaid, .int 0, .ref a_kept, .ref a_rowNow, .ref a_rowBest, .ref a_hasBy, .ref a_isFit, .ref a_cameThen, .long 0, .ref a_images, .ref a_imageForce, .ref a_imageX, .ref a_isMade])), (a_tape, .inl (cy 2, 400, .inl (fn_3)))] := hD
  refine lv_iinc (v := 16) (lv' := [(2, .int 16), (0, .ref m0), (1, .int x0)]) hx hb dX12_four_30 hl (k := 0) rfl (by decide) (by decide) rfl (fun ls hl => ?_)
  refine lv_goto (tgt := 3) hx hb dX12_four_33 (by decide) ?_
  refine lv_iload_n hx hb dX12_four_3 rfl (lv_at hl 0 rfl) ?_
  refine lv_if_lt (tgt := 36) hx hb dX12_four_4 (by decide) (fun q => absurd q (by decide)) (fun _ => ?_)
  refine lv_aload_n hx hb dX12_four_7 rfl (lv_at hl 1 rfl) ?_
  refine va_get (D := D) (ci := 12) (v := .ref a_tape) (C := RX12) (T := TX12) (N := 39) hx hb hG inG_X12 hown hE.1 hP 0 rfl rfl 0 (by decide) (hG _ q_f_X12_7) (fun _ h9 => h9) rfl dX12_four_8 ?_
  refine lv_aload_n hx hb dX12_four_11 rfl (lv_at hl 1 rfl) ?_
  refine va_get (D := D) (ci := 12) (v := .int 1) (C := RX12) (T := TX12) (N := 39) hx hb hG inG_X12 hown hE.1 hP 0 rfl rfl 1 (by decide) (hG _ q_f_X12_89) (fun _ h9 => h9) rfl dX12_four_12 ?_
  refine lv_iload_n hx hb dX12_four_15 rfl (lv_at hl 2 rfl) ?_
  refine lv_iload_n hx hb dX12_four_16 rfl (lv_at hl 0 rfl) ?_
  refine lv_ishr hx hb dX12_four_17 ?_
  refine lv_topi (fun z_4 ez_4 => ?_)
  refine lv_i2b hx hb dX12_four_18 rfl ?_
  refine lv_topi (fun z_5 ez_5 => ?_)
  refine va_bast hx hb hE.1 hP hD hS 1 2 rfl rfl (by unfold vp_in; decide) dX12_four_19 (fun H locs hP hD hS => ?_)
  generalize upd (fn_3) (Int32.toNatClampNeg 1) (vp_nar .byte z_5) = fn_6 at hP hD
  have hP : va_P D vwCl [(m0, .inr (12, [.ref a_tape, .int 1, .int 0, .ref a_sign, .ref a_length, .ref a_clause, .ref a_clauses, .ref a_read, .int 0, .int 0, .int 0, .int 0, .int 0, .int 0, .int 0, .ref a_open, .int 0, .ref a_stack, .int 0, .ref a_word, .ref a_said, .int (-1), .int 0, .int (-1), .ref a_planned, .ref a_cameOf, .ref a_wasSaid, .int 0, .ref a_kept, .ref a_rowNow, .ref a_rowBest, .ref a_hasBy, .ref a_isFit, .ref a_cameThen, .long 0, .ref a_images, .ref a_imageForce, .ref a_imageX, .ref a_isMade])), (a_tape, .inl (cy 2, 400, .inl (fn_6)))] H := hP
  have hD : va_D A [(m0, .inr (12, [.ref a_tape, .int 1, .int 0, .ref a_sign, .ref a_length, .ref a_clause, .ref a_clauses, .ref a_read, .int 0, .int 0, .int 0, .int 0, .int 0, .int 0, .int 0, .ref a_open, .int 0, .ref a_stack, .int 0, .ref a_word, .ref a_said, .int (-1), .int 0, .int (-1), .ref a_planned, .ref a_cameOf, .ref a_wasSaid, .int 0, .ref a_kept, .ref a_rowNow, .ref a_rowBest, .ref a_hasBy, .ref a_isFit, .ref a_cameThen, .long 0, .ref a_images, .ref a_imageForce, .ref a_imageX, .ref a_isMade])), (a_tape, .inl (cy 2, 400, .inl (fn_6)))] := hD
  refine lv_aload_n hx hb dX12_four_20 rfl (lv_at hl 1 rfl) ?_
  refine lv_dup hx hb dX12_four_21 rfl ?_
  refine va_get (D := D) (ci := 12) (v := .int 1) (C := RX12) (T := TX12) (N := 39) hx hb hG inG_X12 hown hE.1 hP 0 rfl rfl 1 (by decide) (hG _ q_f_X12_89) (fun _ h9 => h9) rfl dX12_four_22 ?_
  refine lv_iconst (v := 1) hx hb dX12_four_25 (by decide) ?_
  refine lv_iadd hx hb dX12_four_26 ?_
  refine k_top (z := 2) (by decide) ?_
  refine va_put (D := D) (ci := 12) (v := .int 2) (ty := .int) (C := RX12) (T := TX12) (N := 39) hx hb hG inG_X12 tyX12 tyX12_ok nmX12 hown hE.1 hP hD hS 0 rfl rfl 1 (by decide) (hG _ q_f_X12_89) (fun _ h9 => h9) rfl (by decide +kernel) rfl rfl (Nat.le_of_ble_eq_true rfl) dX12_four_27 (fun H locs hP hD hS => ?_)
  have hP : va_P D vwCl [(m0, .inr (12, [.ref a_tape, .int 2, .int 0, .ref a_sign, .ref a_length, .ref a_clause, .ref a_clauses, .ref a_read, .int 0, .int 0, .int 0, .int 0, .int 0, .int 0, .int 0, .ref a_open, .int 0, .ref a_stack, .int 0, .ref a_word, .ref a_said, .int (-1), .int 0, .int (-1), .ref a_planned, .ref a_cameOf, .ref a_wasSaid, .int 0, .ref a_kept, .ref a_rowNow, .ref a_rowBest, .ref a_hasBy, .ref a_isFit, .ref a_cameThen, .long 0, .ref a_images, .ref a_imageForce, .ref a_imageX, .ref a_isMade])), (a_tape, .inl (cy 2, 400, .inl (fn_6)))] H := hP
  have hD : va_D A [(m0, .inr (12, [.ref a_tape, .int 2, .int 0, .ref a_sign, .ref a_length, .ref a_clause, .ref a_clauses, .ref a_read, .int 0, .int 0, .int 0, .int 0, .int 0, .int 0, .int 0, .ref a_open, .int 0, .ref a_stack, .int 0, .ref a_word, .ref a_said, .int (-1), .int 0, .int (-1), .ref a_planned, .ref a_cameOf, .ref a_wasSaid, .int 0, .ref a_kept, .ref a_rowNow, .ref a_rowBest, .ref a_hasBy, .ref a_isFit, .ref a_cameThen, .long 0, .ref a_images, .ref a_imageForce, .ref a_imageX, .ref a_isMade])), (a_tape, .inl (cy 2, 400, .inl (fn_6)))] := hD
  refine lv_iinc (v := 8) (lv' := [(2, .int 8), (0, .ref m0), (1, .int x0)]) hx hb dX12_four_30 hl (k := 0) rfl (by decide) (by decide) rfl (fun ls hl => ?_)
  refine lv_goto (tgt := 3) hx hb dX12_four_33 (by decide) ?_
  refine lv_iload_n hx hb dX12_four_3 rfl (lv_at hl 0 rfl) ?_
  refine lv_if_lt (tgt := 36) hx hb dX12_four_4 (by decide) (fun q => absurd q (by decide)) (fun _ => ?_)
  refine lv_aload_n hx hb dX12_four_7 rfl (lv_at hl 1 rfl) ?_
  refine va_get (D := D) (ci := 12) (v := .ref a_tape) (C := RX12) (T := TX12) (N := 39) hx hb hG inG_X12 hown hE.1 hP 0 rfl rfl 0 (by decide) (hG _ q_f_X12_7) (fun _ h9 => h9) rfl dX12_four_8 ?_
  refine lv_aload_n hx hb dX12_four_11 rfl (lv_at hl 1 rfl) ?_
  refine va_get (D := D) (ci := 12) (v := .int 2) (C := RX12) (T := TX12) (N := 39) hx hb hG inG_X12 hown hE.1 hP 0 rfl rfl 1 (by decide) (hG _ q_f_X12_89) (fun _ h9 => h9) rfl dX12_four_12 ?_
  refine lv_iload_n hx hb dX12_four_15 rfl (lv_at hl 2 rfl) ?_
  refine lv_iload_n hx hb dX12_four_16 rfl (lv_at hl 0 rfl) ?_
  refine lv_ishr hx hb dX12_four_17 ?_
  refine lv_topi (fun z_7 ez_7 => ?_)
  refine lv_i2b hx hb dX12_four_18 rfl ?_
  refine lv_topi (fun z_8 ez_8 => ?_)
  refine va_bast hx hb hE.1 hP hD hS 1 2 rfl rfl (by unfold vp_in; decide) dX12_four_19 (fun H locs hP hD hS => ?_)
  generalize upd (fn_6) (Int32.toNatClampNeg 2) (vp_nar .byte z_8) = fn_9 at hP hD
  have hP : va_P D vwCl [(m0, .inr (12, [.ref a_tape, .int 2, .int 0, .ref a_sign, .ref a_length, .ref a_clause, .ref a_clauses, .ref a_read, .int 0, .int 0, .int 0, .int 0, .int 0, .int 0, .int 0, .ref a_open, .int 0, .ref a_stack, .int 0, .ref a_word, .ref a_said, .int (-1), .int 0, .int (-1), .ref a_planned, .ref a_cameOf, .ref a_wasSaid, .int 0, .ref a_kept, .ref a_rowNow, .ref a_rowBest, .ref a_hasBy, .ref a_isFit, .ref a_cameThen, .long 0, .ref a_images, .ref a_imageForce, .ref a_imageX, .ref a_isMade])), (a_tape, .inl (cy 2, 400, .inl (fn_9)))] H := hP
  have hD : va_D A [(m0, .inr (12, [.ref a_tape, .int 2, .int 0, .ref a_sign, .ref a_length, .ref a_clause, .ref a_clauses, .ref a_read, .int 0, .int 0, .int 0, .int 0, .int 0, .int 0, .int 0, .ref a_open, .int 0, .ref a_stack, .int 0, .ref a_word, .ref a_said, .int (-1), .int 0, .int (-1), .ref a_planned, .ref a_cameOf, .ref a_wasSaid, .int 0, .ref a_kept, .ref a_rowNow, .ref a_rowBest, .ref a_hasBy, .ref a_isFit, .ref a_cameThen, .long 0, .ref a_images, .ref a_imageForce, .ref a_imageX, .ref a_isMade])), (a_tape, .inl (cy 2, 400, .inl (fn_9)))] := hD
  refine lv_aload_n hx hb dX12_four_20 rfl (lv_at hl 1 rfl) ?_
  refine lv_dup hx hb dX12_four_21 rfl ?_
  refine va_get (D := D) (ci := 12) (v := .int 2) (C := RX12) (T := TX12) (N := 39) hx hb hG inG_X12 hown hE.1 hP 0 rfl rfl 1 (by decide) (hG _ q_f_X12_89) (fun _ h9 => h9) rfl dX12_four_22 ?_
  refine lv_iconst (v := 1) hx hb dX12_four_25 (by decide) ?_
  refine lv_iadd hx hb dX12_four_26 ?_
  refine k_top (z := 3) (by decide) ?_
  refine va_put (D := D) (ci := 12) (v := .int 3) (ty := .int) (C := RX12) (T := TX12) (N := 39) hx hb hG inG_X12 tyX12 tyX12_ok nmX12 hown hE.1 hP hD hS 0 rfl rfl 1 (by decide) (hG _ q_f_X12_89) (fun _ h9 => h9) rfl (by decide +kernel) rfl rfl (Nat.le_of_ble_eq_true rfl) dX12_four_27 (fun H locs hP hD hS => ?_)
  have hP : va_P D vwCl [(m0, .inr (12, [.ref a_tape, .int 3, .int 0, .ref a_sign, .ref a_length, .ref a_clause, .ref a_clauses, .ref a_read, .int 0, .int 0, .int 0, .int 0, .int 0, .int 0, .int 0, .ref a_open, .int 0, .ref a_stack, .int 0, .ref a_word, .ref a_said, .int (-1), .int 0, .int (-1), .ref a_planned, .ref a_cameOf, .ref a_wasSaid, .int 0, .ref a_kept, .ref a_rowNow, .ref a_rowBest, .ref a_hasBy, .ref a_isFit, .ref a_cameThen, .long 0, .ref a_images, .ref a_imageForce, .ref a_imageX, .ref a_isMade])), (a_tape, .inl (cy 2, 400, .inl (fn_9)))] H := hP
  have hD : va_D A [(m0, .inr (12, [.ref a_tape, .int 3, .int 0, .ref a_sign, .ref a_length, .ref a_clause, .ref a_clauses, .ref a_read, .int 0, .int 0, .int 0, .int 0, .int 0, .int 0, .int 0, .ref a_open, .int 0, .ref a_stack, .int 0, .ref a_word, .ref a_said, .int (-1), .int 0, .int (-1), .ref a_planned, .ref a_cameOf, .ref a_wasSaid, .int 0, .ref a_kept, .ref a_rowNow, .ref a_rowBest, .ref a_hasBy, .ref a_isFit, .ref a_cameThen, .long 0, .ref a_images, .ref a_imageForce, .ref a_imageX, .ref a_isMade])), (a_tape, .inl (cy 2, 400, .inl (fn_9)))] := hD
  refine lv_iinc (v := 0) (lv' := [(2, .int 0), (0, .ref m0), (1, .int x0)]) hx hb dX12_four_30 hl (k := 0) rfl (by decide) (by decide) rfl (fun ls hl => ?_)
  refine lv_goto (tgt := 3) hx hb dX12_four_33 (by decide) ?_
  refine lv_iload_n hx hb dX12_four_3 rfl (lv_at hl 0 rfl) ?_
  refine lv_if_lt (tgt := 36) hx hb dX12_four_4 (by decide) (fun q => absurd q (by decide)) (fun _ => ?_)
  refine lv_aload_n hx hb dX12_four_7 rfl (lv_at hl 1 rfl) ?_
  refine va_get (D := D) (ci := 12) (v := .ref a_tape) (C := RX12) (T := TX12) (N := 39) hx hb hG inG_X12 hown hE.1 hP 0 rfl rfl 0 (by decide) (hG _ q_f_X12_7) (fun _ h9 => h9) rfl dX12_four_8 ?_
  refine lv_aload_n hx hb dX12_four_11 rfl (lv_at hl 1 rfl) ?_
  refine va_get (D := D) (ci := 12) (v := .int 3) (C := RX12) (T := TX12) (N := 39) hx hb hG inG_X12 hown hE.1 hP 0 rfl rfl 1 (by decide) (hG _ q_f_X12_89) (fun _ h9 => h9) rfl dX12_four_12 ?_
  refine lv_iload_n hx hb dX12_four_15 rfl (lv_at hl 2 rfl) ?_
  refine lv_iload_n hx hb dX12_four_16 rfl (lv_at hl 0 rfl) ?_
  refine lv_ishr hx hb dX12_four_17 ?_
  refine lv_topi (fun z_10 ez_10 => ?_)
  refine lv_i2b hx hb dX12_four_18 rfl ?_
  refine lv_topi (fun z_11 ez_11 => ?_)
  refine va_bast hx hb hE.1 hP hD hS 1 2 rfl rfl (by unfold vp_in; decide) dX12_four_19 (fun H locs hP hD hS => ?_)
  generalize upd (fn_9) (Int32.toNatClampNeg 3) (vp_nar .byte z_11) = fn_12 at hP hD
  have hP : va_P D vwCl [(m0, .inr (12, [.ref a_tape, .int 3, .int 0, .ref a_sign, .ref a_length, .ref a_clause, .ref a_clauses, .ref a_read, .int 0, .int 0, .int 0, .int 0, .int 0, .int 0, .int 0, .ref a_open, .int 0, .ref a_stack, .int 0, .ref a_word, .ref a_said, .int (-1), .int 0, .int (-1), .ref a_planned, .ref a_cameOf, .ref a_wasSaid, .int 0, .ref a_kept, .ref a_rowNow, .ref a_rowBest, .ref a_hasBy, .ref a_isFit, .ref a_cameThen, .long 0, .ref a_images, .ref a_imageForce, .ref a_imageX, .ref a_isMade])), (a_tape, .inl (cy 2, 400, .inl (fn_12)))] H := hP
  have hD : va_D A [(m0, .inr (12, [.ref a_tape, .int 3, .int 0, .ref a_sign, .ref a_length, .ref a_clause, .ref a_clauses, .ref a_read, .int 0, .int 0, .int 0, .int 0, .int 0, .int 0, .int 0, .ref a_open, .int 0, .ref a_stack, .int 0, .ref a_word, .ref a_said, .int (-1), .int 0, .int (-1), .ref a_planned, .ref a_cameOf, .ref a_wasSaid, .int 0, .ref a_kept, .ref a_rowNow, .ref a_rowBest, .ref a_hasBy, .ref a_isFit, .ref a_cameThen, .long 0, .ref a_images, .ref a_imageForce, .ref a_imageX, .ref a_isMade])), (a_tape, .inl (cy 2, 400, .inl (fn_12)))] := hD
  refine lv_aload_n hx hb dX12_four_20 rfl (lv_at hl 1 rfl) ?_
  refine lv_dup hx hb dX12_four_21 rfl ?_
  refine va_get (D := D) (ci := 12) (v := .int 3) (C := RX12) (T := TX12) (N := 39) hx hb hG inG_X12 hown hE.1 hP 0 rfl rfl 1 (by decide) (hG _ q_f_X12_89) (fun _ h9 => h9) rfl dX12_four_22 ?_
  refine lv_iconst (v := 1) hx hb dX12_four_25 (by decide) ?_
  refine lv_iadd hx hb dX12_four_26 ?_
  refine k_top (z := 4) (by decide) ?_
  refine va_put (D := D) (ci := 12) (v := .int 4) (ty := .int) (C := RX12) (T := TX12) (N := 39) hx hb hG inG_X12 tyX12 tyX12_ok nmX12 hown hE.1 hP hD hS 0 rfl rfl 1 (by decide) (hG _ q_f_X12_89) (fun _ h9 => h9) rfl (by decide +kernel) rfl rfl (Nat.le_of_ble_eq_true rfl) dX12_four_27 (fun H locs hP hD hS => ?_)
  have hP : va_P D vwCl [(m0, .inr (12, [.ref a_tape, .int 4, .int 0, .ref a_sign, .ref a_length, .ref a_clause, .ref a_clauses, .ref a_read, .int 0, .int 0, .int 0, .int 0, .int 0, .int 0, .int 0, .ref a_open, .int 0, .ref a_stack, .int 0, .ref a_word, .ref a_said, .int (-1), .int 0, .int (-1), .ref a_planned, .ref a_cameOf, .ref a_wasSaid, .int 0, .ref a_kept, .ref a_rowNow, .ref a_rowBest, .ref a_hasBy, .ref a_isFit, .ref a_cameThen, .long 0, .ref a_images, .ref a_imageForce, .ref a_imageX, .ref a_isMade])), (a_tape, .inl (cy 2, 400, .inl (fn_12)))] H := hP
  have hD : va_D A [(m0, .inr (12, [.ref a_tape, .int 4, .int 0, .ref a_sign, .ref a_length, .ref a_clause, .ref a_clauses, .ref a_read, .int 0, .int 0, .int 0, .int 0, .int 0, .int 0, .int 0, .ref a_open, .int 0, .ref a_stack, .int 0, .ref a_word, .ref a_said, .int (-1), .int 0, .int (-1), .ref a_planned, .ref a_cameOf, .ref a_wasSaid, .int 0, .ref a_kept, .ref a_rowNow, .ref a_rowBest, .ref a_hasBy, .ref a_isFit, .ref a_cameThen, .long 0, .ref a_images, .ref a_imageForce, .ref a_imageX, .ref a_isMade])), (a_tape, .inl (cy 2, 400, .inl (fn_12)))] := hD
  refine lv_iinc (v := (-8)) (lv' := [(2, .int (-8)), (0, .ref m0), (1, .int x0)]) hx hb dX12_four_30 hl (k := 0) rfl (by decide) (by decide) rfl (fun ls hl => ?_)
  refine lv_goto (tgt := 3) hx hb dX12_four_33 (by decide) ?_
  refine lv_iload_n hx hb dX12_four_3 rfl (lv_at hl 0 rfl) ?_
  refine lv_if_lt (tgt := 36) hx hb dX12_four_4 (by decide) (fun _ => ?_) (fun q => absurd q (by decide))
  exact KV.rt fn_12 F (hP.sub [0, 1] rfl) (hD.sub [0, 1] (by decide) rfl) hS (trivial) (Nat.le_of_ble_eq_true rfl) (Nat.le_of_ble_eq_true rfl) dX12_four_36

set_option maxHeartbeats 4000000 in
set_option maxRecDepth 100000 in
theorem c_four4 (l : Launch) (D : va_G) (cy : Nat → ClassId) (m0 a_tape a_sign a_length a_clause a_clauses a_read a_open a_stack a_word a_said a_planned a_cameOf a_wasSaid a_kept a_rowNow a_rowBest a_hasBy a_isFit a_cameThen a_images a_imageForce a_imageX a_isMade : Nat) (fb : Nat → Int32) (x0 : Int32) : KV l yX12_four cX12_four 3 0 0 D (kTY cy) [.ref m0, .int x0] [(m0, .inr (12, [.ref a_tape, .int 4, .int 0, .ref a_sign, .ref a_length, .ref a_clause, .ref a_clauses, .ref a_read, .int 0, .int 0, .int 0, .int 0, .int 0, .int 0, .int 0, .ref a_open, .int 0, .ref a_stack, .int 0, .ref a_word, .ref a_said, .int (-1), .int 0, .int (-1), .ref a_planned, .ref a_cameOf, .ref a_wasSaid, .int 0, .ref a_kept, .ref a_rowNow, .ref a_rowBest, .ref a_hasBy, .ref a_isFit, .ref a_cameThen, .long 0, .ref a_images, .ref a_imageForce, .ref a_imageX, .ref a_isMade])), (a_tape, .inl (cy 2, 400, .inl (fb)))] (S := Nat → Int32) (fun _ => True) (fun f => [(m0, .inr (12, [.ref a_tape, .int 8, .int 0, .ref a_sign, .ref a_length, .ref a_clause, .ref a_clauses, .ref a_read, .int 0, .int 0, .int 0, .int 0, .int 0, .int 0, .int 0, .ref a_open, .int 0, .ref a_stack, .int 0, .ref a_word, .ref a_said, .int (-1), .int 0, .int (-1), .ref a_planned, .ref a_cameOf, .ref a_wasSaid, .int 0, .ref a_kept, .ref a_rowNow, .ref a_rowBest, .ref a_hasBy, .ref a_isFit, .ref a_cameThen, .long 0, .ref a_images, .ref a_imageForce, .ref a_imageX, .ref a_isMade])), (a_tape, .inl (cy 2, 400, .inl (f)))]) 0 0 := by
  refine KV.of (by decide) (Nat.le_of_ble_eq_true rfl) (fun p e s m below meth c ls A F hin hE hP hD hA hS hl => ?_)
  have F : kF p s m meth c cX12_four 3 none _ RX12 := F
  obtain ⟨hx, hb, hr, hml, hown, hG, hlk⟩ := id F
  have hl : lv_has ls 3 [(0, .ref m0), (1, .int x0)] := hl
  refine lv_bipush (v := 24) hx hb dX12_four_0 (by decide) ?_
  refine lv_istore_n (lv' := [(2, .int 24), (0, .ref m0), (1, .int x0)]) hx hb dX12_four_2 rfl hl (by decide) rfl (fun ls hl => ?_)
  refine lv_iload_n hx hb dX12_four_3 rfl (lv_at hl 0 rfl) ?_
  refine lv_if_lt (tgt := 36) hx hb dX12_four_4 (by decide) (fun q => absurd q (by decide)) (fun _ => ?_)
  refine lv_aload_n hx hb dX12_four_7 rfl (lv_at hl 1 rfl) ?_
  refine va_get (D := D) (ci := 12) (v := .ref a_tape) (C := RX12) (T := TX12) (N := 39) hx hb hG inG_X12 hown hE.1 hP 0 rfl rfl 0 (by decide) (hG _ q_f_X12_7) (fun _ h9 => h9) rfl dX12_four_8 ?_
  refine lv_aload_n hx hb dX12_four_11 rfl (lv_at hl 1 rfl) ?_
  refine va_get (D := D) (ci := 12) (v := .int 4) (C := RX12) (T := TX12) (N := 39) hx hb hG inG_X12 hown hE.1 hP 0 rfl rfl 1 (by decide) (hG _ q_f_X12_89) (fun _ h9 => h9) rfl dX12_four_12 ?_
  refine lv_iload_n hx hb dX12_four_15 rfl (lv_at hl 2 rfl) ?_
  refine lv_iload_n hx hb dX12_four_16 rfl (lv_at hl 0 rfl) ?_
  refine lv_ishr hx hb dX12_four_17 ?_
  refine lv_topi (fun z_1 ez_1 => ?_)
  refine lv_i2b hx hb dX12_four_18 rfl ?_
  refine lv_topi (fun z_2 ez_2 => ?_)
  refine va_bast hx hb hE.1 hP hD hS 1 2 rfl rfl (by unfold vp_in; decide) dX12_four_19 (fun H locs hP hD hS => ?_)
  generalize upd (fb) (Int32.toNatClampNeg 4) (vp_nar .byte z_2) = fn_3 at hP hD
  have hP : va_P D vwCl [(m0, .inr (12, [.ref a_tape, .int 4, .int 0, .ref a_sign, .ref a_length, .ref a_clause, .ref a_clauses, .ref a_read, .int 0, .int 0, .int 0, .int 0, .int 0, .int 0, .int 0, .ref a_open, .int 0, .ref a_stack, .int 0, .ref a_word, .ref a_said, .int (-1), .int 0, .int (-1), .ref a_planned, .ref a_cameOf, .ref a_wasSaid, .int 0, .ref a_kept, .ref a_rowNow, .ref a_rowBest, .ref a_hasBy, .ref a_isFit, .ref a_cameThen, .long 0, .ref a_images, .ref a_imageForce, .ref a_imageX, .ref a_isMade])), (a_tape, .inl (cy 2, 400, .inl (fn_3)))] H := hP
  have hD : va_D A [(m0, .inr (12, [.ref a_tape, .int 4, .int 0, .ref a_sign, .ref a_length, .ref a_clause, .ref a_clauses, .ref a_read, .int 0, .int 0, .int 0, .int 0, .int 0, .int 0, .int 0, .ref a_open, .int 0, .ref a_stack, .int 0, .ref a_word, .ref a_said, .int (-1), .int 0, .int (-1), .ref a_planned, .ref a_cameOf, .ref a_wasSaid, .int 0, .ref a_kept, .ref a_rowNow, .ref a_rowBest, .ref a_hasBy, .ref a_isFit, .ref a_cameThen, .long 0, .ref a_images, .ref a_imageForce, .ref a_imageX, .ref a_isMade])), (a_tape, .inl (cy 2, 400, .inl (fn_3)))] := hD
  refine lv_aload_n hx hb dX12_four_20 rfl (lv_at hl 1 rfl) ?_
  refine lv_dup hx hb dX12_four_21 rfl ?_
  refine va_get (D := D) (ci := 12) (v := .int 4) (C := RX12) (T := TX12) (N := 39) hx hb hG inG_X12 hown hE.1 hP 0 rfl rfl 1 (by decide) (hG _ q_f_X12_89) (fun _ h9 => h9) rfl dX12_four_22 ?_
  refine lv_iconst (v := 1) hx hb dX12_four_25 (by decide) ?_
  refine lv_iadd hx hb dX12_four_26 ?_
  refine k_top (z := 5) (by decide) ?_
  refine va_put (D := D) (ci := 12) (v := .int 5) (ty := .int) (C := RX12) (T := TX12) (N := 39) hx hb hG inG_X12 tyX12 tyX12_ok nmX12 hown hE.1 hP hD hS 0 rfl rfl 1 (by decide) (hG _ q_f_X12_89) (fun _ h9 => h9) rfl (by decide +kernel) rfl rfl (Nat.le_of_ble_eq_true rfl) dX12_four_27 (fun H locs hP hD hS => ?_)
  have hP : va_P D vwCl [(m0, .inr (12, [.ref a_tape, .int 5, .int 0, .ref a_sign, .ref a_length, .ref a_clause, .ref a_clauses, .ref a_read, .int 0, .int 0, .int 0, .int 0, .int 0, .int 0, .int 0, .ref a_open, .int 0, .ref a_stack, .int 0, .ref a_word, .ref a_said, .int (-1), .int 0, .int (-1), .ref a_planned, .ref a_cameOf, .ref a_wasSaid, .int 0, .ref a_kept, .ref a_rowNow, .ref a_rowBest, .ref a_hasBy, .ref a_isFit, .ref a_cameThen, .long 0, .ref a_images, .ref a_imageForce, .ref a_imageX, .ref a_isMade])), (a_tape, .inl (cy 2, 400, .inl (fn_3)))] H := hP
  have hD : va_D A [(m0, .inr (12, [.ref a_tape, .int 5, .int 0, .ref a_sign, .ref a_length, .ref a_clause, .ref a_clauses, .ref a_read, .int 0, .int 0, .int 0, .int 0, .int 0, .int 0, .int 0, .ref a_open, .int 0, .ref a_stack, .int 0, .ref a_word, .ref a_said, .int (-1), .int 0, .int (-1), .ref a_planned, .ref a_cameOf, .ref a_wasSaid, .int 0, .ref a_kept, .ref a_rowNow, .ref a_rowBest, .ref a_hasBy, .ref a_isFit, .ref a_cameThen, .long 0, .ref a_images, .ref a_imageForce, .ref a_imageX, .ref a_isMade])), (a_tape, .inl (cy 2, 400, .inl (fn_3)))] := hD
  refine lv_iinc (v := 16) (lv' := [(2, .int 16), (0, .ref m0), (1, .int x0)]) hx hb dX12_four_30 hl (k := 0) rfl (by decide) (by decide) rfl (fun ls hl => ?_)
  refine lv_goto (tgt := 3) hx hb dX12_four_33 (by decide) ?_
  refine lv_iload_n hx hb dX12_four_3 rfl (lv_at hl 0 rfl) ?_
  refine lv_if_lt (tgt := 36) hx hb dX12_four_4 (by decide) (fun q => absurd q (by decide)) (fun _ => ?_)
  refine lv_aload_n hx hb dX12_four_7 rfl (lv_at hl 1 rfl) ?_
  refine va_get (D := D) (ci := 12) (v := .ref a_tape) (C := RX12) (T := TX12) (N := 39) hx hb hG inG_X12 hown hE.1 hP 0 rfl rfl 0 (by decide) (hG _ q_f_X12_7) (fun _ h9 => h9) rfl dX12_four_8 ?_
  refine lv_aload_n hx hb dX12_four_11 rfl (lv_at hl 1 rfl) ?_
  refine va_get (D := D) (ci := 12) (v := .int 5) (C := RX12) (T := TX12) (N := 39) hx hb hG inG_X12 hown hE.1 hP 0 rfl rfl 1 (by decide) (hG _ q_f_X12_89) (fun _ h9 => h9) rfl dX12_four_12 ?_
  refine lv_iload_n hx hb dX12_four_15 rfl (lv_at hl 2 rfl) ?_
  refine lv_iload_n hx hb dX12_four_16 rfl (lv_at hl 0 rfl) ?_
  refine lv_ishr hx hb dX12_four_17 ?_
  refine lv_topi (fun z_4 ez_4 => ?_)
  refine lv_i2b hx hb dX12_four_18 rfl ?_
  refine lv_topi (fun z_5 ez_5 => ?_)
  refine va_bast hx hb hE.1 hP hD hS 1 2 rfl rfl (by unfold vp_in; decide) dX12_four_19 (fun H locs hP hD hS => ?_)
  generalize upd (fn_3) (Int32.toNatClampNeg 5) (vp_nar .byte z_5) = fn_6 at hP hD
  have hP : va_P D vwCl [(m0, .inr (12, [.ref a_tape, .int 5, .int 0, .ref a_sign, .ref a_length, .ref a_clause, .ref a_clauses, .ref a_read, .int 0, .int 0, .int 0, .int 0, .int 0, .int 0, .int 0, .ref a_open, .int 0, .ref a_stack, .int 0, .ref a_word, .ref a_said, .int (-1), .int 0, .int (-1), .ref a_planned, .ref a_cameOf, .ref a_wasSaid, .int 0, .ref a_kept, .ref a_rowNow, .ref a_rowBest, .ref a_hasBy, .ref a_isFit, .ref a_cameThen, .long 0, .ref a_images, .ref a_imageForce, .ref a_imageX, .ref a_isMade])), (a_tape, .inl (cy 2, 400, .inl (fn_6)))] H := hP
  have hD : va_D A [(m0, .inr (12, [.ref a_tape, .int 5, .int 0, .ref a_sign, .ref a_length, .ref a_clause, .ref a_clauses, .ref a_read, .int 0, .int 0, .int 0, .int 0, .int 0, .int 0, .int 0, .ref a_open, .int 0, .ref a_stack, .int 0, .ref a_word, .ref a_said, .int (-1), .int 0, .int (-1), .ref a_planned, .ref a_cameOf, .ref a_wasSaid, .int 0, .ref a_kept, .ref a_rowNow, .ref a_rowBest, .ref a_hasBy, .ref a_isFit, .ref a_cameThen, .long 0, .ref a_images, .ref a_imageForce, .ref a_imageX, .ref a_isMade])), (a_tape, .inl (cy 2, 400, .inl (fn_6)))] := hD
  refine lv_aload_n hx hb dX12_four_20 rfl (lv_at hl 1 rfl) ?_
  refine lv_dup hx hb dX12_four_21 rfl ?_
  refine va_get (D := D) (ci := 12) (v := .int 5) (C := RX12) (T := TX12) (N := 39) hx hb hG inG_X12 hown hE.1 hP 0 rfl rfl 1 (by decide) (hG _ q_f_X12_89) (fun _ h9 => h9) rfl dX12_four_22 ?_
  refine lv_iconst (v := 1) hx hb dX12_four_25 (by decide) ?_
  refine lv_iadd hx hb dX12_four_26 ?_
  refine k_top (z := 6) (by decide) ?_
  refine va_put (D := D) (ci := 12) (v := .int 6) (ty := .int) (C := RX12) (T := TX12) (N := 39) hx hb hG inG_X12 tyX12 tyX12_ok nmX12 hown hE.1 hP hD hS 0 rfl rfl 1 (by decide) (hG _ q_f_X12_89) (fun _ h9 => h9) rfl (by decide +kernel) rfl rfl (Nat.le_of_ble_eq_true rfl) dX12_four_27 (fun H locs hP hD hS => ?_)
  have hP : va_P D vwCl [(m0, .inr (12, [.ref a_tape, .int 6, .int 0, .ref a_sign, .ref a_length, .ref a_clause, .ref a_clauses, .ref a_read, .int 0, .int 0, .int 0, .int 0, .int 0, .int 0, .int 0, .ref a_open, .int 0, .ref a_stack, .int 0, .ref a_word, .ref a_said, .int (-1), .int 0, .int (-1), .ref a_planned, .ref a_cameOf, .ref a_wasSaid, .int 0, .ref a_kept, .ref a_rowNow, .ref a_rowBest, .ref a_hasBy, .ref a_isFit, .ref a_cameThen, .long 0, .ref a_images, .ref a_imageForce, .ref a_imageX, .ref a_isMade])), (a_tape, .inl (cy 2, 400, .inl (fn_6)))] H := hP
  have hD : va_D A [(m0, .inr (12, [.ref a_tape, .int 6, .int 0, .ref a_sign, .ref a_length, .ref a_clause, .ref a_clauses, .ref a_read, .int 0, .int 0, .int 0, .int 0, .int 0, .int 0, .int 0, .ref a_open, .int 0, .ref a_stack, .int 0, .ref a_word, .ref a_said, .int (-1), .int 0, .int (-1), .ref a_planned, .ref a_cameOf, .ref a_wasSaid, .int 0, .ref a_kept, .ref a_rowNow, .ref a_rowBest, .ref a_hasBy, .ref a_isFit, .ref a_cameThen, .long 0, .ref a_images, .ref a_imageForce, .ref a_imageX, .ref a_isMade])), (a_tape, .inl (cy 2, 400, .inl (fn_6)))] := hD
  refine lv_iinc (v := 8) (lv' := [(2, .int 8), (0, .ref m0), (1, .int x0)]) hx hb dX12_four_30 hl (k := 0) rfl (by decide) (by decide) rfl (fun ls hl => ?_)
  refine lv_goto (tgt := 3) hx hb dX12_four_33 (by decide) ?_
  refine lv_iload_n hx hb dX12_four_3 rfl (lv_at hl 0 rfl) ?_
  refine lv_if_lt (tgt := 36) hx hb dX12_four_4 (by decide) (fun q => absurd q (by decide)) (fun _ => ?_)
  refine lv_aload_n hx hb dX12_four_7 rfl (lv_at hl 1 rfl) ?_
  refine va_get (D := D) (ci := 12) (v := .ref a_tape) (C := RX12) (T := TX12) (N := 39) hx hb hG inG_X12 hown hE.1 hP 0 rfl rfl 0 (by decide) (hG _ q_f_X12_7) (fun _ h9 => h9) rfl dX12_four_8 ?_
  refine lv_aload_n hx hb dX12_four_11 rfl (lv_at hl 1 rfl) ?_
  refine va_get (D := D) (ci := 12) (v := .int 6) (C := RX12) (T := TX12) (N := 39) hx hb hG inG_X12 hown hE.1 hP 0 rfl rfl 1 (by decide) (hG _ q_f_X12_89) (fun _ h9 => h9) rfl dX12_four_12 ?_
  refine lv_iload_n hx hb dX12_four_15 rfl (lv_at hl 2 rfl) ?_
  refine lv_iload_n hx hb dX12_four_16 rfl (lv_at hl 0 rfl) ?_
  refine lv_ishr hx hb dX12_four_17 ?_
  refine lv_topi (fun z_7 ez_7 => ?_)
  refine lv_i2b hx hb dX12_four_18 rfl ?_
  refine lv_topi (fun z_8 ez_8 => ?_)
  refine va_bast hx hb hE.1 hP hD hS 1 2 rfl rfl (by unfold vp_in; decide) dX12_four_19 (fun H locs hP hD hS => ?_)
  generalize upd (fn_6) (Int32.toNatClampNeg 6) (vp_nar .byte z_8) = fn_9 at hP hD
  have hP : va_P D vwCl [(m0, .inr (12, [.ref a_tape, .int 6, .int 0, .ref a_sign, .ref a_length, .ref a_clause, .ref a_clauses, .ref a_read, .int 0, .int 0, .int 0, .int 0, .int 0, .int 0, .int 0, .ref a_open, .int 0, .ref a_stack, .int 0, .ref a_word, .ref a_said, .int (-1), .int 0, .int (-1), .ref a_planned, .ref a_cameOf, .ref a_wasSaid, .int 0, .ref a_kept, .ref a_rowNow, .ref a_rowBest, .ref a_hasBy, .ref a_isFit, .ref a_cameThen, .long 0, .ref a_images, .ref a_imageForce, .ref a_imageX, .ref a_isMade])), (a_tape, .inl (cy 2, 400, .inl (fn_9)))] H := hP
  have hD : va_D A [(m0, .inr (12, [.ref a_tape, .int 6, .int 0, .ref a_sign, .ref a_length, .ref a_clause, .ref a_clauses, .ref a_read, .int 0, .int 0, .int 0, .int 0, .int 0, .int 0, .int 0, .ref a_open, .int 0, .ref a_stack, .int 0, .ref a_word, .ref a_said, .int (-1), .int 0, .int (-1), .ref a_planned, .ref a_cameOf, .ref a_wasSaid, .int 0, .ref a_kept, .ref a_rowNow, .ref a_rowBest, .ref a_hasBy, .ref a_isFit, .ref a_cameThen, .long 0, .ref a_images, .ref a_imageForce, .ref a_imageX, .ref a_isMade])), (a_tape, .inl (cy 2, 400, .inl (fn_9)))] := hD
  refine lv_aload_n hx hb dX12_four_20 rfl (lv_at hl 1 rfl) ?_
  refine lv_dup hx hb dX12_four_21 rfl ?_
  refine va_get (D := D) (ci := 12) (v := .int 6) (C := RX12) (T := TX12) (N := 39) hx hb hG inG_X12 hown hE.1 hP 0 rfl rfl 1 (by decide) (hG _ q_f_X12_89) (fun _ h9 => h9) rfl dX12_four_22 ?_
  refine lv_iconst (v := 1) hx hb dX12_four_25 (by decide) ?_
  refine lv_iadd hx hb dX12_four_26 ?_
  refine k_top (z := 7) (by decide) ?_
  refine va_put (D := D) (ci := 12) (v := .int 7) (ty := .int) (C := RX12) (T := TX12) (N := 39) hx hb hG inG_X12 tyX12 tyX12_ok nmX12 hown hE.1 hP hD hS 0 rfl rfl 1 (by decide) (hG _ q_f_X12_89) (fun _ h9 => h9) rfl (by decide +kernel) rfl rfl (Nat.le_of_ble_eq_true rfl) dX12_four_27 (fun H locs hP hD hS => ?_)
  have hP : va_P D vwCl [(m0, .inr (12, [.ref a_tape, .int 7, .int 0, .ref a_sign, .ref a_length, .ref a_clause, .ref a_clauses, .ref a_read, .int 0, .int 0, .int 0, .int 0, .int 0, .int 0, .int 0, .ref a_open, .int 0, .ref a_stack, .int 0, .ref a_word, .ref a_said, .int (-1), .int 0, .int (-1), .ref a_planned, .ref a_cameOf, .ref a_wasSaid, .int 0, .ref a_kept, .ref a_rowNow, .ref a_rowBest, .ref a_hasBy, .ref a_isFit, .ref a_cameThen, .long 0, .ref a_images, .ref a_imageForce, .ref a_imageX, .ref a_isMade])), (a_tape, .inl (cy 2, 400, .inl (fn_9)))] H := hP
  have hD : va_D A [(m0, .inr (12, [.ref a_tape, .int 7, .int 0, .ref a_sign, .ref a_length, .ref a_clause, .ref a_clauses, .ref a_read, .int 0, .int 0, .int 0, .int 0, .int 0, .int 0, .int 0, .ref a_open, .int 0, .ref a_stack, .int 0, .ref a_word, .ref a_said, .int (-1), .int 0, .int (-1), .ref a_planned, .ref a_cameOf, .ref a_wasSaid, .int 0, .ref a_kept, .ref a_rowNow, .ref a_rowBest, .ref a_hasBy, .ref a_isFit, .ref a_cameThen, .long 0, .ref a_images, .ref a_imageForce, .ref a_imageX, .ref a_isMade])), (a_tape, .inl (cy 2, 400, .inl (fn_9)))] := hD
  refine lv_iinc (v := 0) (lv' := [(2, .int 0), (0, .ref m0), (1, .int x0)]) hx hb dX12_four_30 hl (k := 0) rfl (by decide) (by decide) rfl (fun ls hl => ?_)
  refine lv_goto (tgt := 3) hx hb dX12_four_33 (by decide) ?_
  refine lv_iload_n hx hb dX12_four_3 rfl (lv_at hl 0 rfl) ?_
  refine lv_if_lt (tgt := 36) hx hb dX12_four_4 (by decide) (fun q => absurd q (by decide)) (fun _ => ?_)
  refine lv_aload_n hx hb dX12_four_7 rfl (lv_at hl 1 rfl) ?_
  refine va_get (D := D) (ci := 12) (v := .ref a_tape) (C := RX12) (T := TX12) (N := 39) hx hb hG inG_X12 hown hE.1 hP 0 rfl rfl 0 (by decide) (hG _ q_f_X12_7) (fun _ h9 => h9) rfl dX12_four_8 ?_
  refine lv_aload_n hx hb dX12_four_11 rfl (lv_at hl 1 rfl) ?_
  refine va_get (D := D) (ci := 12) (v := .int 7) (C := RX12) (T := TX12) (N := 39) hx hb hG inG_X12 hown hE.1 hP 0 rfl rfl 1 (by decide) (hG _ q_f_X12_89) (fun _ h9 => h9) rfl dX12_four_12 ?_
  refine lv_iload_n hx hb dX12_four_15 rfl (lv_at hl 2 rfl) ?_
  refine lv_iload_n hx hb dX12_four_16 rfl (lv_at hl 0 rfl) ?_
  refine lv_ishr hx hb dX12_four_17 ?_
  refine lv_topi (fun z_10 ez_10 => ?_)
  refine lv_i2b hx hb dX12_four_18 rfl ?_
  refine lv_topi (fun z_11 ez_11 => ?_)
  refine va_bast hx hb hE.1 hP hD hS 1 2 rfl rfl (by unfold vp_in; decide) dX12_four_19 (fun H locs hP hD hS => ?_)
  generalize upd (fn_9) (Int32.toNatClampNeg 7) (vp_nar .byte z_11) = fn_12 at hP hD
  have hP : va_P D vwCl [(m0, .inr (12, [.ref a_tape, .int 7, .int 0, .ref a_sign, .ref a_length, .ref a_clause, .ref a_clauses, .ref a_read, .int 0, .int 0, .int 0, .int 0, .int 0, .int 0, .int 0, .ref a_open, .int 0, .ref a_stack, .int 0, .ref a_word, .ref a_said, .int (-1), .int 0, .int (-1), .ref a_planned, .ref a_cameOf, .ref a_wasSaid, .int 0, .ref a_kept, .ref a_rowNow, .ref a_rowBest, .ref a_hasBy, .ref a_isFit, .ref a_cameThen, .long 0, .ref a_images, .ref a_imageForce, .ref a_imageX, .ref a_isMade])), (a_tape, .inl (cy 2, 400, .inl (fn_12)))] H := hP
  have hD : va_D A [(m0, .inr (12, [.ref a_tape, .int 7, .int 0, .ref a_sign, .ref a_length, .ref a_clause, .ref a_clauses, .ref a_read, .int 0, .int 0, .int 0, .int 0, .int 0, .int 0, .int 0, .ref a_open, .int 0, .ref a_stack, .int 0, .ref a_word, .ref a_said, .int (-1), .int 0, .int (-1), .ref a_planned, .ref a_cameOf, .ref a_wasSaid, .int 0, .ref a_kept, .ref a_rowNow, .ref a_rowBest, .ref a_hasBy, .ref a_isFit, .ref a_cameThen, .long 0, .ref a_images, .ref a_imageForce, .ref a_imageX, .ref a_isMade])), (a_tape, .inl (cy 2, 400, .inl (fn_12)))] := hD
  refine lv_aload_n hx hb dX12_four_20 rfl (lv_at hl 1 rfl) ?_
  refine lv_dup hx hb dX12_four_21 rfl ?_
  refine va_get (D := D) (ci := 12) (v := .int 7) (C := RX12) (T := TX12) (N := 39) hx hb hG inG_X12 hown hE.1 hP 0 rfl rfl 1 (by decide) (hG _ q_f_X12_89) (fun _ h9 => h9) rfl dX12_four_22 ?_
  refine lv_iconst (v := 1) hx hb dX12_four_25 (by decide) ?_
  refine lv_iadd hx hb dX12_four_26 ?_
  refine k_top (z := 8) (by decide) ?_
  refine va_put (D := D) (ci := 12) (v := .int 8) (ty := .int) (C := RX12) (T := TX12) (N := 39) hx hb hG inG_X12 tyX12 tyX12_ok nmX12 hown hE.1 hP hD hS 0 rfl rfl 1 (by decide) (hG _ q_f_X12_89) (fun _ h9 => h9) rfl (by decide +kernel) rfl rfl (Nat.le_of_ble_eq_true rfl) dX12_four_27 (fun H locs hP hD hS => ?_)
  have hP : va_P D vwCl [(m0, .inr (12, [.ref a_tape, .int 8, .int 0, .ref a_sign, .ref a_length, .ref a_clause, .ref a_clauses, .ref a_read, .int 0, .int 0, .int 0, .int 0, .int 0, .int 0, .int 0, .ref a_open, .int 0, .ref a_stack, .int 0, .ref a_word, .ref a_said, .int (-1), .int 0, .int (-1), .ref a_planned, .ref a_cameOf, .ref a_wasSaid, .int 0, .ref a_kept, .ref a_rowNow, .ref a_rowBest, .ref a_hasBy, .ref a_isFit, .ref a_cameThen, .long 0, .ref a_images, .ref a_imageForce, .ref a_imageX, .ref a_isMade])), (a_tape, .inl (cy 2, 400, .inl (fn_12)))] H := hP
  have hD : va_D A [(m0, .inr (12, [.ref a_tape, .int 8, .int 0, .ref a_sign, .ref a_length, .ref a_clause, .ref a_clauses, .ref a_read, .int 0, .int 0, .int 0, .int 0, .int 0, .int 0, .int 0, .ref a_open, .int 0, .ref a_stack, .int 0, .ref a_word, .ref a_said, .int (-1), .int 0, .int (-1), .ref a_planned, .ref a_cameOf, .ref a_wasSaid, .int 0, .ref a_kept, .ref a_rowNow, .ref a_rowBest, .ref a_hasBy, .ref a_isFit, .ref a_cameThen, .long 0, .ref a_images, .ref a_imageForce, .ref a_imageX, .ref a_isMade])), (a_tape, .inl (cy 2, 400, .inl (fn_12)))] := hD
  refine lv_iinc (v := (-8)) (lv' := [(2, .int (-8)), (0, .ref m0), (1, .int x0)]) hx hb dX12_four_30 hl (k := 0) rfl (by decide) (by decide) rfl (fun ls hl => ?_)
  refine lv_goto (tgt := 3) hx hb dX12_four_33 (by decide) ?_
  refine lv_iload_n hx hb dX12_four_3 rfl (lv_at hl 0 rfl) ?_
  refine lv_if_lt (tgt := 36) hx hb dX12_four_4 (by decide) (fun _ => ?_) (fun q => absurd q (by decide))
  exact KV.rt fn_12 F (hP.sub [0, 1] rfl) (hD.sub [0, 1] (by decide) rfl) hS (trivial) (Nat.le_of_ble_eq_true rfl) (Nat.le_of_ble_eq_true rfl) dX12_four_36

set_option maxHeartbeats 4000000 in
set_option maxRecDepth 100000 in
theorem c_four8 (l : Launch) (D : va_G) (cy : Nat → ClassId) (m0 a_tape a_sign a_length a_clause a_clauses a_read a_open a_stack a_word a_said a_planned a_cameOf a_wasSaid a_kept a_rowNow a_rowBest a_hasBy a_isFit a_cameThen a_images a_imageForce a_imageX a_isMade : Nat) (fb : Nat → Int32) (x0 : Int32) : KV l yX12_four cX12_four 3 0 0 D (kTY cy) [.ref m0, .int x0] [(m0, .inr (12, [.ref a_tape, .int 8, .int 0, .ref a_sign, .ref a_length, .ref a_clause, .ref a_clauses, .ref a_read, .int 0, .int 0, .int 0, .int 0, .int 0, .int 0, .int 0, .ref a_open, .int 0, .ref a_stack, .int 0, .ref a_word, .ref a_said, .int (-1), .int 0, .int (-1), .ref a_planned, .ref a_cameOf, .ref a_wasSaid, .int 0, .ref a_kept, .ref a_rowNow, .ref a_rowBest, .ref a_hasBy, .ref a_isFit, .ref a_cameThen, .long 0, .ref a_images, .ref a_imageForce, .ref a_imageX, .ref a_isMade])), (a_tape, .inl (cy 2, 400, .inl (fb)))] (S := Nat → Int32) (fun _ => True) (fun f => [(m0, .inr (12, [.ref a_tape, .int 12, .int 0, .ref a_sign, .ref a_length, .ref a_clause, .ref a_clauses, .ref a_read, .int 0, .int 0, .int 0, .int 0, .int 0, .int 0, .int 0, .ref a_open, .int 0, .ref a_stack, .int 0, .ref a_word, .ref a_said, .int (-1), .int 0, .int (-1), .ref a_planned, .ref a_cameOf, .ref a_wasSaid, .int 0, .ref a_kept, .ref a_rowNow, .ref a_rowBest, .ref a_hasBy, .ref a_isFit, .ref a_cameThen, .long 0, .ref a_images, .ref a_imageForce, .ref a_imageX, .ref a_isMade])), (a_tape, .inl (cy 2, 400, .inl (f)))]) 0 0 := by
  refine KV.of (by decide) (Nat.le_of_ble_eq_true rfl) (fun p e s m below meth c ls A F hin hE hP hD hA hS hl => ?_)
  have F : kF p s m meth c cX12_four 3 none _ RX12 := F
  obtain ⟨hx, hb, hr, hml, hown, hG, hlk⟩ := id F
  have hl : lv_has ls 3 [(0, .ref m0), (1, .int x0)] := hl
  refine lv_bipush (v := 24) hx hb dX12_four_0 (by decide) ?_
  refine lv_istore_n (lv' := [(2, .int 24), (0, .ref m0), (1, .int x0)]) hx hb dX12_four_2 rfl hl (by decide) rfl (fun ls hl => ?_)
  refine lv_iload_n hx hb dX12_four_3 rfl (lv_at hl 0 rfl) ?_
  refine lv_if_lt (tgt := 36) hx hb dX12_four_4 (by decide) (fun q => absurd q (by decide)) (fun _ => ?_)
  refine lv_aload_n hx hb dX12_four_7 rfl (lv_at hl 1 rfl) ?_
  refine va_get (D := D) (ci := 12) (v := .ref a_tape) (C := RX12) (T := TX12) (N := 39) hx hb hG inG_X12 hown hE.1 hP 0 rfl rfl 0 (by decide) (hG _ q_f_X12_7) (fun _ h9 => h9) rfl dX12_four_8 ?_
  refine lv_aload_n hx hb dX12_four_11 rfl (lv_at hl 1 rfl) ?_
  refine va_get (D := D) (ci := 12) (v := .int 8) (C := RX12) (T := TX12) (N := 39) hx hb hG inG_X12 hown hE.1 hP 0 rfl rfl 1 (by decide) (hG _ q_f_X12_89) (fun _ h9 => h9) rfl dX12_four_12 ?_
  refine lv_iload_n hx hb dX12_four_15 rfl (lv_at hl 2 rfl) ?_
  refine lv_iload_n hx hb dX12_four_16 rfl (lv_at hl 0 rfl) ?_
  refine lv_ishr hx hb dX12_four_17 ?_
  refine lv_topi (fun z_1 ez_1 => ?_)
  refine lv_i2b hx hb dX12_four_18 rfl ?_
  refine lv_topi (fun z_2 ez_2 => ?_)
  refine va_bast hx hb hE.1 hP hD hS 1 2 rfl rfl (by unfold vp_in; decide) dX12_four_19 (fun H locs hP hD hS => ?_)
  generalize upd (fb) (Int32.toNatClampNeg 8) (vp_nar .byte z_2) = fn_3 at hP hD
  have hP : va_P D vwCl [(m0, .inr (12, [.ref a_tape, .int 8, .int 0, .ref a_sign, .ref a_length, .ref a_clause, .ref a_clauses, .ref a_read, .int 0, .int 0, .int 0, .int 0, .int 0, .int 0, .int 0, .ref a_open, .int 0, .ref a_stack, .int 0, .ref a_word, .ref a_said, .int (-1), .int 0, .int (-1), .ref a_planned, .ref a_cameOf, .ref a_wasSaid, .int 0, .ref a_kept, .ref a_rowNow, .ref a_rowBest, .ref a_hasBy, .ref a_isFit, .ref a_cameThen, .long 0, .ref a_images, .ref a_imageForce, .ref a_imageX, .ref a_isMade])), (a_tape, .inl (cy 2, 400, .inl (fn_3)))] H := hP
  have hD : va_D A [(m0, .inr (12, [.ref a_tape, .int 8, .int 0, .ref a_sign, .ref a_length, .ref a_clause, .ref a_clauses, .ref a_read, .int 0, .int 0, .int 0, .int 0, .int 0, .int 0, .int 0, .ref a_open, .int 0, .ref a_stack, .int 0, .ref a_word, .ref a_said, .int (-1), .int 0, .int (-1), .ref a_planned, .ref a_cameOf, .ref a_wasSaid, .int 0, .ref a_kept, .ref a_rowNow, .ref a_rowBest, .ref a_hasBy, .ref a_isFit, .ref a_cameThen, .long 0, .ref a_images, .ref a_imageForce, .ref a_imageX, .ref a_isMade])), (a_tape, .inl (cy 2, 400, .inl (fn_3)))] := hD
  refine lv_aload_n hx hb dX12_four_20 rfl (lv_at hl 1 rfl) ?_
  refine lv_dup hx hb dX12_four_21 rfl ?_
  refine va_get (D := D) (ci := 12) (v := .int 8) (C := RX12) (T := TX12) (N := 39) hx hb hG inG_X12 hown hE.1 hP 0 rfl rfl 1 (by decide) (hG _ q_f_X12_89) (fun _ h9 => h9) rfl dX12_four_22 ?_
  refine lv_iconst (v := 1) hx hb dX12_four_25 (by decide) ?_
  refine lv_iadd hx hb dX12_four_26 ?_
  refine k_top (z := 9) (by decide) ?_
  refine va_put (D := D) (ci := 12) (v := .int 9) (ty := .int) (C := RX12) (T := TX12) (N := 39) hx hb hG inG_X12 tyX12 tyX12_ok nmX12 hown hE.1 hP hD hS 0 rfl rfl 1 (by decide) (hG _ q_f_X12_89) (fun _ h9 => h9) rfl (by decide +kernel) rfl rfl (Nat.le_of_ble_eq_true rfl) dX12_four_27 (fun H locs hP hD hS => ?_)
  have hP : va_P D vwCl [(m0, .inr (12, [.ref a_tape, .int 9, .int 0, .ref a_sign, .ref a_length, .ref a_clause, .ref a_clauses, .ref a_read, .int 0, .int 0, .int 0, .int 0, .int 0, .int 0, .int 0, .ref a_open, .int 0, .ref a_stack, .int 0, .ref a_word, .ref a_said, .int (-1), .int 0, .int (-1), .ref a_planned, .ref a_cameOf, .ref a_wasSaid, .int 0, .ref a_kept, .ref a_rowNow, .ref a_rowBest, .ref a_hasBy, .ref a_isFit, .ref a_cameThen, .long 0, .ref a_images, .ref a_imageForce, .ref a_imageX, .ref a_isMade])), (a_tape, .inl (cy 2, 400, .inl (fn_3)))] H := hP
  have hD : va_D A [(m0, .inr (12, [.ref a_tape, .int 9, .int 0, .ref a_sign, .ref a_length, .ref a_clause, .ref a_clauses, .ref a_read, .int 0, .int 0, .int 0, .int 0, .int 0, .int 0, .int 0, .ref a_open, .int 0, .ref a_stack, .int 0, .ref a_word, .ref a_said, .int (-1), .int 0, .int (-1), .ref a_planned, .ref a_cameOf, .ref a_wasSaid, .int 0, .ref a_kept, .ref a_rowNow, .ref a_rowBest, .ref a_hasBy, .ref a_isFit, .ref a_cameThen, .long 0, .ref a_images, .ref a_imageForce, .ref a_imageX, .ref a_isMade])), (a_tape, .inl (cy 2, 400, .inl (fn_3)))] := hD
  refine lv_iinc (v := 16) (lv' := [(2, .int 16), (0, .ref m0), (1, .int x0)]) hx hb dX12_four_30 hl (k := 0) rfl (by decide) (by decide) rfl (fun ls hl => ?_)
  refine lv_goto (tgt := 3) hx hb dX12_four_33 (by decide) ?_
  refine lv_iload_n hx hb dX12_four_3 rfl (lv_at hl 0 rfl) ?_
  refine lv_if_lt (tgt := 36) hx hb dX12_four_4 (by decide) (fun q => absurd q (by decide)) (fun _ => ?_)
  refine lv_aload_n hx hb dX12_four_7 rfl (lv_at hl 1 rfl) ?_
  refine va_get (D := D) (ci := 12) (v := .ref a_tape) (C := RX12) (T := TX12) (N := 39) hx hb hG inG_X12 hown hE.1 hP 0 rfl rfl 0 (by decide) (hG _ q_f_X12_7) (fun _ h9 => h9) rfl dX12_four_8 ?_
  refine lv_aload_n hx hb dX12_four_11 rfl (lv_at hl 1 rfl) ?_
  refine va_get (D := D) (ci := 12) (v := .int 9) (C := RX12) (T := TX12) (N := 39) hx hb hG inG_X12 hown hE.1 hP 0 rfl rfl 1 (by decide) (hG _ q_f_X12_89) (fun _ h9 => h9) rfl dX12_four_12 ?_
  refine lv_iload_n hx hb dX12_four_15 rfl (lv_at hl 2 rfl) ?_
  refine lv_iload_n hx hb dX12_four_16 rfl (lv_at hl 0 rfl) ?_
  refine lv_ishr hx hb dX12_four_17 ?_
  refine lv_topi (fun z_4 ez_4 => ?_)
  refine lv_i2b hx hb dX12_four_18 rfl ?_
  refine lv_topi (fun z_5 ez_5 => ?_)
  refine va_bast hx hb hE.1 hP hD hS 1 2 rfl rfl (by unfold vp_in; decide) dX12_four_19 (fun H locs hP hD hS => ?_)
  generalize upd (fn_3) (Int32.toNatClampNeg 9) (vp_nar .byte z_5) = fn_6 at hP hD
  have hP : va_P D vwCl [(m0, .inr (12, [.ref a_tape, .int 9, .int 0, .ref a_sign, .ref a_length, .ref a_clause, .ref a_clauses, .ref a_read, .int 0, .int 0, .int 0, .int 0, .int 0, .int 0, .int 0, .ref a_open, .int 0, .ref a_stack, .int 0, .ref a_word, .ref a_said, .int (-1), .int 0, .int (-1), .ref a_planned, .ref a_cameOf, .ref a_wasSaid, .int 0, .ref a_kept, .ref a_rowNow, .ref a_rowBest, .ref a_hasBy, .ref a_isFit, .ref a_cameThen, .long 0, .ref a_images, .ref a_imageForce, .ref a_imageX, .ref a_isMade])), (a_tape, .inl (cy 2, 400, .inl (fn_6)))] H := hP
  have hD : va_D A [(m0, .inr (12, [.ref a_tape, .int 9, .int 0, .ref a_sign, .ref a_length, .ref a_clause, .ref a_clauses, .ref a_read, .int 0, .int 0, .int 0, .int 0, .int 0, .int 0, .int 0, .ref a_open, .int 0, .ref a_stack, .int 0, .ref a_word, .ref a_said, .int (-1), .int 0, .int (-1), .ref a_planned, .ref a_cameOf, .ref a_wasSaid, .int 0, .ref a_kept, .ref a_rowNow, .ref a_rowBest, .ref a_hasBy, .ref a_isFit, .ref a_cameThen, .long 0, .ref a_images, .ref a_imageForce, .ref a_imageX, .ref a_isMade])), (a_tape, .inl (cy 2, 400, .inl (fn_6)))] := hD
  refine lv_aload_n hx hb dX12_four_20 rfl (lv_at hl 1 rfl) ?_
  refine lv_dup hx hb dX12_four_21 rfl ?_
  refine va_get (D := D) (ci := 12) (v := .int 9) (C := RX12) (T := TX12) (N := 39) hx hb hG inG_X12 hown hE.1 hP 0 rfl rfl 1 (by decide) (hG _ q_f_X12_89) (fun _ h9 => h9) rfl dX12_four_22 ?_
  refine lv_iconst (v := 1) hx hb dX12_four_25 (by decide) ?_
  refine lv_iadd hx hb dX12_four_26 ?_
  refine k_top (z := 10) (by decide) ?_
  refine va_put (D := D) (ci := 12) (v := .int 10) (ty := .int) (C := RX12) (T := TX12) (N := 39) hx hb hG inG_X12 tyX12 tyX12_ok nmX12 hown hE.1 hP hD hS 0 rfl rfl 1 (by decide) (hG _ q_f_X12_89) (fun _ h9 => h9) rfl (by decide +kernel) rfl rfl (Nat.le_of_ble_eq_true rfl) dX12_four_27 (fun H locs hP hD hS => ?_)
  have hP : va_P D vwCl [(m0, .inr (12, [.ref a_tape, .int 10, .int 0, .ref a_sign, .ref a_length, .ref a_clause, .ref a_clauses, .ref a_read, .int 0, .int 0, .int 0, .int 0, .int 0, .int 0, .int 0, .ref a_open, .int 0, .ref a_stack, .int 0, .ref a_word, .ref a_said, .int (-1), .int 0, .int (-1), .ref a_planned, .ref a_cameOf, .ref a_wasSaid, .int 0, .ref a_kept, .ref a_rowNow, .ref a_rowBest, .ref a_hasBy, .ref a_isFit, .ref a_cameThen, .long 0, .ref a_images, .ref a_imageForce, .ref a_imageX, .ref a_isMade])), (a_tape, .inl (cy 2, 400, .inl (fn_6)))] H := hP
  have hD : va_D A [(m0, .inr (12, [.ref a_tape, .int 10, .int 0, .ref a_sign, .ref a_length, .ref a_clause, .ref a_clauses, .ref a_read, .int 0, .int 0, .int 0, .int 0, .int 0, .int 0, .int 0, .ref a_open, .int 0, .ref a_stack, .int 0, .ref a_word, .ref a_said, .int (-1), .int 0, .int (-1), .ref a_planned, .ref a_cameOf, .ref a_wasSaid, .int 0, .ref a_kept, .ref a_rowNow, .ref a_rowBest, .ref a_hasBy, .ref a_isFit, .ref a_cameThen, .long 0, .ref a_images, .ref a_imageForce, .ref a_imageX, .ref a_isMade])), (a_tape, .inl (cy 2, 400, .inl (fn_6)))] := hD
  refine lv_iinc (v := 8) (lv' := [(2, .int 8), (0, .ref m0), (1, .int x0)]) hx hb dX12_four_30 hl (k := 0) rfl (by decide) (by decide) rfl (fun ls hl => ?_)
  refine lv_goto (tgt := 3) hx hb dX12_four_33 (by decide) ?_
  refine lv_iload_n hx hb dX12_four_3 rfl (lv_at hl 0 rfl) ?_
  refine lv_if_lt (tgt := 36) hx hb dX12_four_4 (by decide) (fun q => absurd q (by decide)) (fun _ => ?_)
  refine lv_aload_n hx hb dX12_four_7 rfl (lv_at hl 1 rfl) ?_
  refine va_get (D := D) (ci := 12) (v := .ref a_tape) (C := RX12) (T := TX12) (N := 39) hx hb hG inG_X12 hown hE.1 hP 0 rfl rfl 0 (by decide) (hG _ q_f_X12_7) (fun _ h9 => h9) rfl dX12_four_8 ?_
  refine lv_aload_n hx hb dX12_four_11 rfl (lv_at hl 1 rfl) ?_
  refine va_get (D := D) (ci := 12) (v := .int 10) (C := RX12) (T := TX12) (N := 39) hx hb hG inG_X12 hown hE.1 hP 0 rfl rfl 1 (by decide) (hG _ q_f_X12_89) (fun _ h9 => h9) rfl dX12_four_12 ?_
  refine lv_iload_n hx hb dX12_four_15 rfl (lv_at hl 2 rfl) ?_
  refine lv_iload_n hx hb dX12_four_16 rfl (lv_at hl 0 rfl) ?_
  refine lv_ishr hx hb dX12_four_17 ?_
  refine lv_topi (fun z_7 ez_7 => ?_)
  refine lv_i2b hx hb dX12_four_18 rfl ?_
  refine lv_topi (fun z_8 ez_8 => ?_)
  refine va_bast hx hb hE.1 hP hD hS 1 2 rfl rfl (by unfold vp_in; decide) dX12_four_19 (fun H locs hP hD hS => ?_)
  generalize upd (fn_6) (Int32.toNatClampNeg 10) (vp_nar .byte z_8) = fn_9 at hP hD
  have hP : va_P D vwCl [(m0, .inr (12, [.ref a_tape, .int 10, .int 0, .ref a_sign, .ref a_length, .ref a_clause, .ref a_clauses, .ref a_read, .int 0, .int 0, .int 0, .int 0, .int 0, .int 0, .int 0, .ref a_open, .int 0, .ref a_stack, .int 0, .ref a_word, .ref a_said, .int (-1), .int 0, .int (-1), .ref a_planned, .ref a_cameOf, .ref a_wasSaid, .int 0, .ref a_kept, .ref a_rowNow, .ref a_rowBest, .ref a_hasBy, .ref a_isFit, .ref a_cameThen, .long 0, .ref a_images, .ref a_imageForce, .ref a_imageX, .ref a_isMade])), (a_tape, .inl (cy 2, 400, .inl (fn_9)))] H := hP
  have hD : va_D A [(m0, .inr (12, [.ref a_tape, .int 10, .int 0, .ref a_sign, .ref a_length, .ref a_clause, .ref a_clauses, .ref a_read, .int 0, .int 0, .int 0, .int 0, .int 0, .int 0, .int 0, .ref a_open, .int 0, .ref a_stack, .int 0, .ref a_word, .ref a_said, .int (-1), .int 0, .int (-1), .ref a_planned, .ref a_cameOf, .ref a_wasSaid, .int 0, .ref a_kept, .ref a_rowNow, .ref a_rowBest, .ref a_hasBy, .ref a_isFit, .ref a_cameThen, .long 0, .ref a_images, .ref a_imageForce, .ref a_imageX, .ref a_isMade])), (a_tape, .inl (cy 2, 400, .inl (fn_9)))] := hD
  refine lv_aload_n hx hb dX12_four_20 rfl (lv_at hl 1 rfl) ?_
  refine lv_dup hx hb dX12_four_21 rfl ?_
  refine va_get (D := D) (ci := 12) (v := .int 10) (C := RX12) (T := TX12) (N := 39) hx hb hG inG_X12 hown hE.1 hP 0 rfl rfl 1 (by decide) (hG _ q_f_X12_89) (fun _ h9 => h9) rfl dX12_four_22 ?_
  refine lv_iconst (v := 1) hx hb dX12_four_25 (by decide) ?_
  refine lv_iadd hx hb dX12_four_26 ?_
  refine k_top (z := 11) (by decide) ?_
  refine va_put (D := D) (ci := 12) (v := .int 11) (ty := .int) (C := RX12) (T := TX12) (N := 39) hx hb hG inG_X12 tyX12 tyX12_ok nmX12 hown hE.1 hP hD hS 0 rfl rfl 1 (by decide) (hG _ q_f_X12_89) (fun _ h9 => h9) rfl (by decide +kernel) rfl rfl (Nat.le_of_ble_eq_true rfl) dX12_four_27 (fun H locs hP hD hS => ?_)
  have hP : va_P D vwCl [(m0, .inr (12, [.ref a_tape, .int 11, .int 0, .ref a_sign, .ref a_length, .ref a_clause, .ref a_clauses, .ref a_read, .int 0, .int 0, .int 0, .int 0, .int 0, .int 0, .int 0, .ref a_open, .int 0, .ref a_stack, .int 0, .ref a_word, .ref a_said, .int (-1), .int 0, .int (-1), .ref a_planned, .ref a_cameOf, .ref a_wasSaid, .int 0, .ref a_kept, .ref a_rowNow, .ref a_rowBest, .ref a_hasBy, .ref a_isFit, .ref a_cameThen, .long 0, .ref a_images, .ref a_imageForce, .ref a_imageX, .ref a_isMade])), (a_tape, .inl (cy 2, 400, .inl (fn_9)))] H := hP
  have hD : va_D A [(m0, .inr (12, [.ref a_tape, .int 11, .int 0, .ref a_sign, .ref a_length, .ref a_clause, .ref a_clauses, .ref a_read, .int 0, .int 0, .int 0, .int 0, .int 0, .int 0, .int 0, .ref a_open, .int 0, .ref a_stack, .int 0, .ref a_word, .ref a_said, .int (-1), .int 0, .int (-1), .ref a_planned, .ref a_cameOf, .ref a_wasSaid, .int 0, .ref a_kept, .ref a_rowNow, .ref a_rowBest, .ref a_hasBy, .ref a_isFit, .ref a_cameThen, .long 0, .ref a_images, .ref a_imageForce, .ref a_imageX, .ref a_isMade])), (a_tape, .inl (cy 2, 400, .inl (fn_9)))] := hD
  refine lv_iinc (v := 0) (lv' := [(2, .int 0), (0, .ref m0), (1, .int x0)]) hx hb dX12_four_30 hl (k := 0) rfl (by decide) (by decide) rfl (fun ls hl => ?_)
  refine lv_goto (tgt := 3) hx hb dX12_four_33 (by decide) ?_
  refine lv_iload_n hx hb dX12_four_3 rfl (lv_at hl 0 rfl) ?_
  refine lv_if_lt (tgt := 36) hx hb dX12_four_4 (by decide) (fun q => absurd q (by decide)) (fun _ => ?_)
  refine lv_aload_n hx hb dX12_four_7 rfl (lv_at hl 1 rfl) ?_
  refine va_get (D := D) (ci := 12) (v := .ref a_tape) (C := RX12) (T := TX12) (N := 39) hx hb hG inG_X12 hown hE.1 hP 0 rfl rfl 0 (by decide) (hG _ q_f_X12_7) (fun _ h9 => h9) rfl dX12_four_8 ?_
  refine lv_aload_n hx hb dX12_four_11 rfl (lv_at hl 1 rfl) ?_
  refine va_get (D := D) (ci := 12) (v := .int 11) (C := RX12) (T := TX12) (N := 39) hx hb hG inG_X12 hown hE.1 hP 0 rfl rfl 1 (by decide) (hG _ q_f_X12_89) (fun _ h9 => h9) rfl dX12_four_12 ?_
  refine lv_iload_n hx hb dX12_four_15 rfl (lv_at hl 2 rfl) ?_
  refine lv_iload_n hx hb dX12_four_16 rfl (lv_at hl 0 rfl) ?_
  refine lv_ishr hx hb dX12_four_17 ?_
  refine lv_topi (fun z_10 ez_10 => ?_)
  refine lv_i2b hx hb dX12_four_18 rfl ?_
  refine lv_topi (fun z_11 ez_11 => ?_)
  refine va_bast hx hb hE.1 hP hD hS 1 2 rfl rfl (by unfold vp_in; decide) dX12_four_19 (fun H locs hP hD hS => ?_)
  generalize upd (fn_9) (Int32.toNatClampNeg 11) (vp_nar .byte z_11) = fn_12 at hP hD
  have hP : va_P D vwCl [(m0, .inr (12, [.ref a_tape, .int 11, .int 0, .ref a_sign, .ref a_length, .ref a_clause, .ref a_clauses, .ref a_read, .int 0, .int 0, .int 0, .int 0, .int 0, .int 0, .int 0, .ref a_open, .int 0, .ref a_stack, .int 0, .ref a_word, .ref a_said, .int (-1), .int 0, .int (-1), .ref a_planned, .ref a_cameOf, .ref a_wasSaid, .int 0, .ref a_kept, .ref a_rowNow, .ref a_rowBest, .ref a_hasBy, .ref a_isFit, .ref a_cameThen, .long 0, .ref a_images, .ref a_imageForce, .ref a_imageX, .ref a_isMade])), (a_tape, .inl (cy 2, 400, .inl (fn_12)))] H := hP
  have hD : va_D A [(m0, .inr (12, [.ref a_tape, .int 11, .int 0, .ref a_sign, .ref a_length, .ref a_clause, .ref a_clauses, .ref a_read, .int 0, .int 0, .int 0, .int 0, .int 0, .int 0, .int 0, .ref a_open, .int 0, .ref a_stack, .int 0, .ref a_word, .ref a_said, .int (-1), .int 0, .int (-1), .ref a_planned, .ref a_cameOf, .ref a_wasSaid, .int 0, .ref a_kept, .ref a_rowNow, .ref a_rowBest, .ref a_hasBy, .ref a_isFit, .ref a_cameThen, .long 0, .ref a_images, .ref a_imageForce, .ref a_imageX, .ref a_isMade])), (a_tape, .inl (cy 2, 400, .inl (fn_12)))] := hD
  refine lv_aload_n hx hb dX12_four_20 rfl (lv_at hl 1 rfl) ?_
  refine lv_dup hx hb dX12_four_21 rfl ?_
  refine va_get (D := D) (ci := 12) (v := .int 11) (C := RX12) (T := TX12) (N := 39) hx hb hG inG_X12 hown hE.1 hP 0 rfl rfl 1 (by decide) (hG _ q_f_X12_89) (fun _ h9 => h9) rfl dX12_four_22 ?_
  refine lv_iconst (v := 1) hx hb dX12_four_25 (by decide) ?_
  refine lv_iadd hx hb dX12_four_26 ?_
  refine k_top (z := 12) (by decide) ?_
  refine va_put (D := D) (ci := 12) (v := .int 12) (ty := .int) (C := RX12) (T := TX12) (N := 39) hx hb hG inG_X12 tyX12 tyX12_ok nmX12 hown hE.1 hP hD hS 0 rfl rfl 1 (by decide) (hG _ q_f_X12_89) (fun _ h9 => h9) rfl (by decide +kernel) rfl rfl (Nat.le_of_ble_eq_true rfl) dX12_four_27 (fun H locs hP hD hS => ?_)
  have hP : va_P D vwCl [(m0, .inr (12, [.ref a_tape, .int 12, .int 0, .ref a_sign, .ref a_length, .ref a_clause, .ref a_clauses, .ref a_read, .int 0, .int 0, .int 0, .int 0, .int 0, .int 0, .int 0, .ref a_open, .int 0, .ref a_stack, .int 0, .ref a_word, .ref a_said, .int (-1), .int 0, .int (-1), .ref a_planned, .ref a_cameOf, .ref a_wasSaid, .int 0, .ref a_kept, .ref a_rowNow, .ref a_rowBest, .ref a_hasBy, .ref a_isFit, .ref a_cameThen, .long 0, .ref a_images, .ref a_imageForce, .ref a_imageX, .ref a_isMade])), (a_tape, .inl (cy 2, 400, .inl (fn_12)))] H := hP
  have hD : va_D A [(m0, .inr (12, [.ref a_tape, .int 12, .int 0, .ref a_sign, .ref a_length, .ref a_clause, .ref a_clauses, .ref a_read, .int 0, .int 0, .int 0, .int 0, .int 0, .int 0, .int 0, .ref a_open, .int 0, .ref a_stack, .int 0, .ref a_word, .ref a_said, .int (-1), .int 0, .int (-1), .ref a_planned, .ref a_cameOf, .ref a_wasSaid, .int 0, .ref a_kept, .ref a_rowNow, .ref a_rowBest, .ref a_hasBy, .ref a_isFit, .ref a_cameThen, .long 0, .ref a_images, .ref a_imageForce, .ref a_imageX, .ref a_isMade])), (a_tape, .inl (cy 2, 400, .inl (fn_12)))] := hD
  refine lv_iinc (v := (-8)) (lv' := [(2, .int (-8)), (0, .ref m0), (1, .int x0)]) hx hb dX12_four_30 hl (k := 0) rfl (by decide) (by decide) rfl (fun ls hl => ?_)
  refine lv_goto (tgt := 3) hx hb dX12_four_33 (by decide) ?_
  refine lv_iload_n hx hb dX12_four_3 rfl (lv_at hl 0 rfl) ?_
  refine lv_if_lt (tgt := 36) hx hb dX12_four_4 (by decide) (fun _ => ?_) (fun q => absurd q (by decide))
  exact KV.rt fn_12 F (hP.sub [0, 1] rfl) (hD.sub [0, 1] (by decide) rfl) hS (trivial) (Nat.le_of_ble_eq_true rfl) (Nat.le_of_ble_eq_true rfl) dX12_four_36

set_option maxHeartbeats 4000000 in
set_option maxRecDepth 100000 in
theorem c_four12 (l : Launch) (D : va_G) (cy : Nat → ClassId) (m0 a_tape a_sign a_length a_clause a_clauses a_read a_open a_stack a_word a_said a_planned a_cameOf a_wasSaid a_kept a_rowNow a_rowBest a_hasBy a_isFit a_cameThen a_images a_imageForce a_imageX a_isMade : Nat) (fb : Nat → Int32) (x0 : Int32) : KV l yX12_four cX12_four 3 0 0 D (kTY cy) [.ref m0, .int x0] [(m0, .inr (12, [.ref a_tape, .int 12, .int 0, .ref a_sign, .ref a_length, .ref a_clause, .ref a_clauses, .ref a_read, .int 0, .int 0, .int 0, .int 0, .int 0, .int 0, .int 0, .ref a_open, .int 0, .ref a_stack, .int 0, .ref a_word, .ref a_said, .int (-1), .int 0, .int (-1), .ref a_planned, .ref a_cameOf, .ref a_wasSaid, .int 0, .ref a_kept, .ref a_rowNow, .ref a_rowBest, .ref a_hasBy, .ref a_isFit, .ref a_cameThen, .long 0, .ref a_images, .ref a_imageForce, .ref a_imageX, .ref a_isMade])), (a_tape, .inl (cy 2, 400, .inl (fb)))] (S := Nat → Int32) (fun _ => True) (fun f => [(m0, .inr (12, [.ref a_tape, .int 16, .int 0, .ref a_sign, .ref a_length, .ref a_clause, .ref a_clauses, .ref a_read, .int 0, .int 0, .int 0, .int 0, .int 0, .int 0, .int 0, .ref a_open, .int 0, .ref a_stack, .int 0, .ref a_word, .ref a_said, .int (-1), .int 0, .int (-1), .ref a_planned, .ref a_cameOf, .ref a_wasSaid, .int 0, .ref a_kept, .ref a_rowNow, .ref a_rowBest, .ref a_hasBy, .ref a_isFit, .ref a_cameThen, .long 0, .ref a_images, .ref a_imageForce, .ref a_imageX, .ref a_isMade])), (a_tape, .inl (cy 2, 400, .inl (f)))]) 0 0 := by
  refine KV.of (by decide) (Nat.le_of_ble_eq_true rfl) (fun p e s m below meth c ls A F hin hE hP hD hA hS hl => ?_)
  have F : kF p s m meth c cX12_four 3 none _ RX12 := F
  obtain ⟨hx, hb, hr, hml, hown, hG, hlk⟩ := id F
  have hl : lv_has ls 3 [(0, .ref m0), (1, .int x0)] := hl
  refine lv_bipush (v := 24) hx hb dX12_four_0 (by decide) ?_
  refine lv_istore_n (lv' := [(2, .int 24), (0, .ref m0), (1, .int x0)]) hx hb dX12_four_2 rfl hl (by decide) rfl (fun ls hl => ?_)
  refine lv_iload_n hx hb dX12_four_3 rfl (lv_at hl 0 rfl) ?_
  refine lv_if_lt (tgt := 36) hx hb dX12_four_4 (by decide) (fun q => absurd q (by decide)) (fun _ => ?_)
  refine lv_aload_n hx hb dX12_four_7 rfl (lv_at hl 1 rfl) ?_
  refine va_get (D := D) (ci := 12) (v := .ref a_tape) (C := RX12) (T := TX12) (N := 39) hx hb hG inG_X12 hown hE.1 hP 0 rfl rfl 0 (by decide) (hG _ q_f_X12_7) (fun _ h9 => h9) rfl dX12_four_8 ?_
  refine lv_aload_n hx hb dX12_four_11 rfl (lv_at hl 1 rfl) ?_
  refine va_get (D := D) (ci := 12) (v := .int 12) (C := RX12) (T := TX12) (N := 39) hx hb hG inG_X12 hown hE.1 hP 0 rfl rfl 1 (by decide) (hG _ q_f_X12_89) (fun _ h9 => h9) rfl dX12_four_12 ?_
  refine lv_iload_n hx hb dX12_four_15 rfl (lv_at hl 2 rfl) ?_
  refine lv_iload_n hx hb dX12_four_16 rfl (lv_at hl 0 rfl) ?_
  refine lv_ishr hx hb dX12_four_17 ?_
  refine lv_topi (fun z_1 ez_1 => ?_)
  refine lv_i2b hx hb dX12_four_18 rfl ?_
  refine lv_topi (fun z_2 ez_2 => ?_)
  refine va_bast hx hb hE.1 hP hD hS 1 2 rfl rfl (by unfold vp_in; decide) dX12_four_19 (fun H locs hP hD hS => ?_)
  generalize upd (fb) (Int32.toNatClampNeg 12) (vp_nar .byte z_2) = fn_3 at hP hD
  have hP : va_P D vwCl [(m0, .inr (12, [.ref a_tape, .int 12, .int 0, .ref a_sign, .ref a_length, .ref a_clause, .ref a_clauses, .ref a_read, .int 0, .int 0, .int 0, .int 0, .int 0, .int 0, .int 0, .ref a_open, .int 0, .ref a_stack, .int 0, .ref a_word, .ref a_said, .int (-1), .int 0, .int (-1), .ref a_planned, .ref a_cameOf, .ref a_wasSaid, .int 0, .ref a_kept, .ref a_rowNow, .ref a_rowBest, .ref a_hasBy, .ref a_isFit, .ref a_cameThen, .long 0, .ref a_images, .ref a_imageForce, .ref a_imageX, .ref a_isMade])), (a_tape, .inl (cy 2, 400, .inl (fn_3)))] H := hP
  have hD : va_D A [(m0, .inr (12, [.ref a_tape, .int 12, .int 0, .ref a_sign, .ref a_length, .ref a_clause, .ref a_clauses, .ref a_read, .int 0, .int 0, .int 0, .int 0, .int 0, .int 0, .int 0, .ref a_open, .int 0, .ref a_stack, .int 0, .ref a_word, .ref a_said, .int (-1), .int 0, .int (-1), .ref a_planned, .ref a_cameOf, .ref a_wasSaid, .int 0, .ref a_kept, .ref a_rowNow, .ref a_rowBest, .ref a_hasBy, .ref a_isFit, .ref a_cameThen, .long 0, .ref a_images, .ref a_imageForce, .ref a_imageX, .ref a_isMade])), (a_tape, .inl (cy 2, 400, .inl (fn_3)))] := hD
  refine lv_aload_n hx hb dX12_four_20 rfl (lv_at hl 1 rfl) ?_
  refine lv_dup hx hb dX12_four_21 rfl ?_
  refine va_get (D := D) (ci := 12) (v := .int 12) (C := RX12) (T := TX12) (N := 39) hx hb hG inG_X12 hown hE.1 hP 0 rfl rfl 1 (by decide) (hG _ q_f_X12_89) (fun _ h9 => h9) rfl dX12_four_22 ?_
  refine lv_iconst (v := 1) hx hb dX12_four_25 (by decide) ?_
  refine lv_iadd hx hb dX12_four_26 ?_
  refine k_top (z := 13) (by decide) ?_
  refine va_put (D := D) (ci := 12) (v := .int 13) (ty := .int) (C := RX12) (T := TX12) (N := 39) hx hb hG inG_X12 tyX12 tyX12_ok nmX12 hown hE.1 hP hD hS 0 rfl rfl 1 (by decide) (hG _ q_f_X12_89) (fun _ h9 => h9) rfl (by decide +kernel) rfl rfl (Nat.le_of_ble_eq_true rfl) dX12_four_27 (fun H locs hP hD hS => ?_)
  have hP : va_P D vwCl [(m0, .inr (12, [.ref a_tape, .int 13, .int 0, .ref a_sign, .ref a_length, .ref a_clause, .ref a_clauses, .ref a_read, .int 0, .int 0, .int 0, .int 0, .int 0, .int 0, .int 0, .ref a_open, .int 0, .ref a_stack, .int 0, .ref a_word, .ref a_said, .int (-1), .int 0, .int (-1), .ref a_planned, .ref a_cameOf, .ref a_wasSaid, .int 0, .ref a_kept, .ref a_rowNow, .ref a_rowBest, .ref a_hasBy, .ref a_isFit, .ref a_cameThen, .long 0, .ref a_images, .ref a_imageForce, .ref a_imageX, .ref a_isMade])), (a_tape, .inl (cy 2, 400, .inl (fn_3)))] H := hP
  have hD : va_D A [(m0, .inr (12, [.ref a_tape, .int 13, .int 0, .ref a_sign, .ref a_length, .ref a_clause, .ref a_clauses, .ref a_read, .int 0, .int 0, .int 0, .int 0, .int 0, .int 0, .int 0, .ref a_open, .int 0, .ref a_stack, .int 0, .ref a_word, .ref a_said, .int (-1), .int 0, .int (-1), .ref a_planned, .ref a_cameOf, .ref a_wasSaid, .int 0, .ref a_kept, .ref a_rowNow, .ref a_rowBest, .ref a_hasBy, .ref a_isFit, .ref a_cameThen, .long 0, .ref a_images, .ref a_imageForce, .ref a_imageX, .ref a_isMade])), (a_tape, .inl (cy 2, 400, .inl (fn_3)))] := hD
  refine lv_iinc (v := 16) (lv' := [(2, .int 16), (0, .ref m0), (1, .int x0)]) hx hb dX12_four_30 hl (k := 0) rfl (by decide) (by decide) rfl (fun ls hl => ?_)
  refine lv_goto (tgt := 3) hx hb dX12_four_33 (by decide) ?_
  refine lv_iload_n hx hb dX12_four_3 rfl (lv_at hl 0 rfl) ?_
  refine lv_if_lt (tgt := 36) hx hb dX12_four_4 (by decide) (fun q => absurd q (by decide)) (fun _ => ?_)
  refine lv_aload_n hx hb dX12_four_7 rfl (lv_at hl 1 rfl) ?_
  refine va_get (D := D) (ci := 12) (v := .ref a_tape) (C := RX12) (T := TX12) (N := 39) hx hb hG inG_X12 hown hE.1 hP 0 rfl rfl 0 (by decide) (hG _ q_f_X12_7) (fun _ h9 => h9) rfl dX12_four_8 ?_
  refine lv_aload_n hx hb dX12_four_11 rfl (lv_at hl 1 rfl) ?_
  refine va_get (D := D) (ci := 12) (v := .int 13) (C := RX12) (T := TX12) (N := 39) hx hb hG inG_X12 hown hE.1 hP 0 rfl rfl 1 (by decide) (hG _ q_f_X12_89) (fun _ h9 => h9) rfl dX12_four_12 ?_
  refine lv_iload_n hx hb dX12_four_15 rfl (lv_at hl 2 rfl) ?_
  refine lv_iload_n hx hb dX12_four_16 rfl (lv_at hl 0 rfl) ?_
  refine lv_ishr hx hb dX12_four_17 ?_
  refine lv_topi (fun z_4 ez_4 => ?_)
  refine lv_i2b hx hb dX12_four_18 rfl ?_
  refine lv_topi (fun z_5 ez_5 => ?_)
  refine va_bast hx hb hE.1 hP hD hS 1 2 rfl rfl (by unfold vp_in; decide) dX12_four_19 (fun H locs hP hD hS => ?_)
  generalize upd (fn_3) (Int32.toNatClampNeg 13) (vp_nar .byte z_5) = fn_6 at hP hD
  have hP : va_P D vwCl [(m0, .inr (12, [.ref a_tape, .int 13, .int 0, .ref a_sign, .ref a_length, .ref a_clause, .ref a_clauses, .ref a_read, .int 0, .int 0, .int 0, .int 0, .int 0, .int 0, .int 0, .ref a_open, .int 0, .ref a_stack, .int 0, .ref a_word, .ref a_said, .int (-1), .int 0, .int (-1), .ref a_planned, .ref a_cameOf, .ref a_wasSaid, .int 0, .ref a_kept, .ref a_rowNow, .ref a_rowBest, .ref a_hasBy, .ref a_isFit, .ref a_cameThen, .long 0, .ref a_images, .ref a_imageForce, .ref a_imageX, .ref a_isMade])), (a_tape, .inl (cy 2, 400, .inl (fn_6)))] H := hP
  have hD : va_D A [(m0, .inr (12, [.ref a_tape, .int 13, .int 0, .ref a_sign, .ref a_length, .ref a_clause, .ref a_clauses, .ref a_read, .int 0, .int 0, .int 0, .int 0, .int 0, .int 0, .int 0, .ref a_open, .int 0, .ref a_stack, .int 0, .ref a_word, .ref a_said, .int (-1), .int 0, .int (-1), .ref a_planned, .ref a_cameOf, .ref a_wasSaid, .int 0, .ref a_kept, .ref a_rowNow, .ref a_rowBest, .ref a_hasBy, .ref a_isFit, .ref a_cameThen, .long 0, .ref a_images, .ref a_imageForce, .ref a_imageX, .ref a_isMade])), (a_tape, .inl (cy 2, 400, .inl (fn_6)))] := hD
  refine lv_aload_n hx hb dX12_four_20 rfl (lv_at hl 1 rfl) ?_
  refine lv_dup hx hb dX12_four_21 rfl ?_
  refine va_get (D := D) (ci := 12) (v := .int 13) (C := RX12) (T := TX12) (N := 39) hx hb hG inG_X12 hown hE.1 hP 0 rfl rfl 1 (by decide) (hG _ q_f_X12_89) (fun _ h9 => h9) rfl dX12_four_22 ?_
  refine lv_iconst (v := 1) hx hb dX12_four_25 (by decide) ?_
  refine lv_iadd hx hb dX12_four_26 ?_
  refine k_top (z := 14) (by decide) ?_
  refine va_put (D := D) (ci := 12) (v := .int 14) (ty := .int) (C := RX12) (T := TX12) (N := 39) hx hb hG inG_X12 tyX12 tyX12_ok nmX12 hown hE.1 hP hD hS 0 rfl rfl 1 (by decide) (hG _ q_f_X12_89) (fun _ h9 => h9) rfl (by decide +kernel) rfl rfl (Nat.le_of_ble_eq_true rfl) dX12_four_27 (fun H locs hP hD hS => ?_)
  have hP : va_P D vwCl [(m0, .inr (12, [.ref a_tape, .int 14, .int 0, .ref a_sign, .ref a_length, .ref a_clause, .ref a_clauses, .ref a_read, .int 0, .int 0, .int 0, .int 0, .int 0, .int 0, .int 0, .ref a_open, .int 0, .ref a_stack, .int 0, .ref a_word, .ref a_said, .int (-1), .int 0, .int (-1), .ref a_planned, .ref a_cameOf, .ref a_wasSaid, .int 0, .ref a_kept, .ref a_rowNow, .ref a_rowBest, .ref a_hasBy, .ref a_isFit, .ref a_cameThen, .long 0, .ref a_images, .ref a_imageForce, .ref a_imageX, .ref a_isMade])), (a_tape, .inl (cy 2, 400, .inl (fn_6)))] H := hP
  have hD : va_D A [(m0, .inr (12, [.ref a_tape, .int 14, .int 0, .ref a_sign, .ref a_length, .ref a_clause, .ref a_clauses, .ref a_read, .int 0, .int 0, .int 0, .int 0, .int 0, .int 0, .int 0, .ref a_open, .int 0, .ref a_stack, .int 0, .ref a_word, .ref a_said, .int (-1), .int 0, .int (-1), .ref a_planned, .ref a_cameOf, .ref a_wasSaid, .int 0, .ref a_kept, .ref a_rowNow, .ref a_rowBest, .ref a_hasBy, .ref a_isFit, .ref a_cameThen, .long 0, .ref a_images, .ref a_imageForce, .ref a_imageX, .ref a_isMade])), (a_tape, .inl (cy 2, 400, .inl (fn_6)))] := hD
  refine lv_iinc (v := 8) (lv' := [(2, .int 8), (0, .ref m0), (1, .int x0)]) hx hb dX12_four_30 hl (k := 0) rfl (by decide) (by decide) rfl (fun ls hl => ?_)
  refine lv_goto (tgt := 3) hx hb dX12_four_33 (by decide) ?_
  refine lv_iload_n hx hb dX12_four_3 rfl (lv_at hl 0 rfl) ?_
  refine lv_if_lt (tgt := 36) hx hb dX12_four_4 (by decide) (fun q => absurd q (by decide)) (fun _ => ?_)
  refine lv_aload_n hx hb dX12_four_7 rfl (lv_at hl 1 rfl) ?_
  refine va_get (D := D) (ci := 12) (v := .ref a_tape) (C := RX12) (T := TX12) (N := 39) hx hb hG inG_X12 hown hE.1 hP 0 rfl rfl 0 (by decide) (hG _ q_f_X12_7) (fun _ h9 => h9) rfl dX12_four_8 ?_
  refine lv_aload_n hx hb dX12_four_11 rfl (lv_at hl 1 rfl) ?_
  refine va_get (D := D) (ci := 12) (v := .int 14) (C := RX12) (T := TX12) (N := 39) hx hb hG inG_X12 hown hE.1 hP 0 rfl rfl 1 (by decide) (hG _ q_f_X12_89) (fun _ h9 => h9) rfl dX12_four_12 ?_
  refine lv_iload_n hx hb dX12_four_15 rfl (lv_at hl 2 rfl) ?_
  refine lv_iload_n hx hb dX12_four_16 rfl (lv_at hl 0 rfl) ?_
  refine lv_ishr hx hb dX12_four_17 ?_
  refine lv_topi (fun z_7 ez_7 => ?_)
  refine lv_i2b hx hb dX12_four_18 rfl ?_
  refine lv_topi (fun z_8 ez_8 => ?_)
  refine va_bast hx hb hE.1 hP hD hS 1 2 rfl rfl (by unfold vp_in; decide) dX12_four_19 (fun H locs hP hD hS => ?_)
  generalize upd (fn_6) (Int32.toNatClampNeg 14) (vp_nar .byte z_8) = fn_9 at hP hD
  have hP : va_P D vwCl [(m0, .inr (12, [.ref a_tape, .int 14, .int 0, .ref a_sign, .ref a_length, .ref a_clause, .ref a_clauses, .ref a_read, .int 0, .int 0, .int 0, .int 0, .int 0, .int 0, .int 0, .ref a_open, .int 0, .ref a_stack, .int 0, .ref a_word, .ref a_said, .int (-1), .int 0, .int (-1), .ref a_planned, .ref a_cameOf, .ref a_wasSaid, .int 0, .ref a_kept, .ref a_rowNow, .ref a_rowBest, .ref a_hasBy, .ref a_isFit, .ref a_cameThen, .long 0, .ref a_images, .ref a_imageForce, .ref a_imageX, .ref a_isMade])), (a_tape, .inl (cy 2, 400, .inl (fn_9)))] H := hP
  have hD : va_D A [(m0, .inr (12, [.ref a_tape, .int 14, .int 0, .ref a_sign, .ref a_length, .ref a_clause, .ref a_clauses, .ref a_read, .int 0, .int 0, .int 0, .int 0, .int 0, .int 0, .int 0, .ref a_open, .int 0, .ref a_stack, .int 0, .ref a_word, .ref a_said, .int (-1), .int 0, .int (-1), .ref a_planned, .ref a_cameOf, .ref a_wasSaid, .int 0, .ref a_kept, .ref a_rowNow, .ref a_rowBest, .ref a_hasBy, .ref a_isFit, .ref a_cameThen, .long 0, .ref a_images, .ref a_imageForce, .ref a_imageX, .ref a_isMade])), (a_tape, .inl (cy 2, 400, .inl (fn_9)))] := hD
  refine lv_aload_n hx hb dX12_four_20 rfl (lv_at hl 1 rfl) ?_
  refine lv_dup hx hb dX12_four_21 rfl ?_
  refine va_get (D := D) (ci := 12) (v := .int 14) (C := RX12) (T := TX12) (N := 39) hx hb hG inG_X12 hown hE.1 hP 0 rfl rfl 1 (by decide) (hG _ q_f_X12_89) (fun _ h9 => h9) rfl dX12_four_22 ?_
  refine lv_iconst (v := 1) hx hb dX12_four_25 (by decide) ?_
  refine lv_iadd hx hb dX12_four_26 ?_
  refine k_top (z := 15) (by decide) ?_
  refine va_put (D := D) (ci := 12) (v := .int 15) (ty := .int) (C := RX12) (T := TX12) (N := 39) hx hb hG inG_X12 tyX12 tyX12_ok nmX12 hown hE.1 hP hD hS 0 rfl rfl 1 (by decide) (hG _ q_f_X12_89) (fun _ h9 => h9) rfl (by decide +kernel) rfl rfl (Nat.le_of_ble_eq_true rfl) dX12_four_27 (fun H locs hP hD hS => ?_)
  have hP : va_P D vwCl [(m0, .inr (12, [.ref a_tape, .int 15, .int 0, .ref a_sign, .ref a_length, .ref a_clause, .ref a_clauses, .ref a_read, .int 0, .int 0, .int 0, .int 0, .int 0, .int 0, .int 0, .ref a_open, .int 0, .ref a_stack, .int 0, .ref a_word, .ref a_said, .int (-1), .int 0, .int (-1), .ref a_planned, .ref a_cameOf, .ref a_wasSaid, .int 0, .ref a_kept, .ref a_rowNow, .ref a_rowBest, .ref a_hasBy, .ref a_isFit, .ref a_cameThen, .long 0, .ref a_images, .ref a_imageForce, .ref a_imageX, .ref a_isMade])), (a_tape, .inl (cy 2, 400, .inl (fn_9)))] H := hP
  have hD : va_D A [(m0, .inr (12, [.ref a_tape, .int 15, .int 0, .ref a_sign, .ref a_length, .ref a_clause, .ref a_clauses, .ref a_read, .int 0, .int 0, .int 0, .int 0, .int 0, .int 0, .int 0, .ref a_open, .int 0, .ref a_stack, .int 0, .ref a_word, .ref a_said, .int (-1), .int 0, .int (-1), .ref a_planned, .ref a_cameOf, .ref a_wasSaid, .int 0, .ref a_kept, .ref a_rowNow, .ref a_rowBest, .ref a_hasBy, .ref a_isFit, .ref a_cameThen, .long 0, .ref a_images, .ref a_imageForce, .ref a_imageX, .ref a_isMade])), (a_tape, .inl (cy 2, 400, .inl (fn_9)))] := hD
  refine lv_iinc (v := 0) (lv' := [(2, .int 0), (0, .ref m0), (1, .int x0)]) hx hb dX12_four_30 hl (k := 0) rfl (by decide) (by decide) rfl (fun ls hl => ?_)
  refine lv_goto (tgt := 3) hx hb dX12_four_33 (by decide) ?_
  refine lv_iload_n hx hb dX12_four_3 rfl (lv_at hl 0 rfl) ?_
  refine lv_if_lt (tgt := 36) hx hb dX12_four_4 (by decide) (fun q => absurd q (by decide)) (fun _ => ?_)
  refine lv_aload_n hx hb dX12_four_7 rfl (lv_at hl 1 rfl) ?_
  refine va_get (D := D) (ci := 12) (v := .ref a_tape) (C := RX12) (T := TX12) (N := 39) hx hb hG inG_X12 hown hE.1 hP 0 rfl rfl 0 (by decide) (hG _ q_f_X12_7) (fun _ h9 => h9) rfl dX12_four_8 ?_
  refine lv_aload_n hx hb dX12_four_11 rfl (lv_at hl 1 rfl) ?_
  refine va_get (D := D) (ci := 12) (v := .int 15) (C := RX12) (T := TX12) (N := 39) hx hb hG inG_X12 hown hE.1 hP 0 rfl rfl 1 (by decide) (hG _ q_f_X12_89) (fun _ h9 => h9) rfl dX12_four_12 ?_
  refine lv_iload_n hx hb dX12_four_15 rfl (lv_at hl 2 rfl) ?_
  refine lv_iload_n hx hb dX12_four_16 rfl (lv_at hl 0 rfl) ?_
  refine lv_ishr hx hb dX12_four_17 ?_
  refine lv_topi (fun z_10 ez_10 => ?_)
  refine lv_i2b hx hb dX12_four_18 rfl ?_
  refine lv_topi (fun z_11 ez_11 => ?_)
  refine va_bast hx hb hE.1 hP hD hS 1 2 rfl rfl (by unfold vp_in; decide) dX12_four_19 (fun H locs hP hD hS => ?_)
  generalize upd (fn_9) (Int32.toNatClampNeg 15) (vp_nar .byte z_11) = fn_12 at hP hD
  have hP : va_P D vwCl [(m0, .inr (12, [.ref a_tape, .int 15, .int 0, .ref a_sign, .ref a_length, .ref a_clause, .ref a_clauses, .ref a_read, .int 0, .int 0, .int 0, .int 0, .int 0, .int 0, .int 0, .ref a_open, .int 0, .ref a_stack, .int 0, .ref a_word, .ref a_said, .int (-1), .int 0, .int (-1), .ref a_planned, .ref a_cameOf, .ref a_wasSaid, .int 0, .ref a_kept, .ref a_rowNow, .ref a_rowBest, .ref a_hasBy, .ref a_isFit, .ref a_cameThen, .long 0, .ref a_images, .ref a_imageForce, .ref a_imageX, .ref a_isMade])), (a_tape, .inl (cy 2, 400, .inl (fn_12)))] H := hP
  have hD : va_D A [(m0, .inr (12, [.ref a_tape, .int 15, .int 0, .ref a_sign, .ref a_length, .ref a_clause, .ref a_clauses, .ref a_read, .int 0, .int 0, .int 0, .int 0, .int 0, .int 0, .int 0, .ref a_open, .int 0, .ref a_stack, .int 0, .ref a_word, .ref a_said, .int (-1), .int 0, .int (-1), .ref a_planned, .ref a_cameOf, .ref a_wasSaid, .int 0, .ref a_kept, .ref a_rowNow, .ref a_rowBest, .ref a_hasBy, .ref a_isFit, .ref a_cameThen, .long 0, .ref a_images, .ref a_imageForce, .ref a_imageX, .ref a_isMade])), (a_tape, .inl (cy 2, 400, .inl (fn_12)))] := hD
  refine lv_aload_n hx hb dX12_four_20 rfl (lv_at hl 1 rfl) ?_
  refine lv_dup hx hb dX12_four_21 rfl ?_
  refine va_get (D := D) (ci := 12) (v := .int 15) (C := RX12) (T := TX12) (N := 39) hx hb hG inG_X12 hown hE.1 hP 0 rfl rfl 1 (by decide) (hG _ q_f_X12_89) (fun _ h9 => h9) rfl dX12_four_22 ?_
  refine lv_iconst (v := 1) hx hb dX12_four_25 (by decide) ?_
  refine lv_iadd hx hb dX12_four_26 ?_
  refine k_top (z := 16) (by decide) ?_
  refine va_put (D := D) (ci := 12) (v := .int 16) (ty := .int) (C := RX12) (T := TX12) (N := 39) hx hb hG inG_X12 tyX12 tyX12_ok nmX12 hown hE.1 hP hD hS 0 rfl rfl 1 (by decide) (hG _ q_f_X12_89) (fun _ h9 => h9) rfl (by decide +kernel) rfl rfl (Nat.le_of_ble_eq_true rfl) dX12_four_27 (fun H locs hP hD hS => ?_)
  have hP : va_P D vwCl [(m0, .inr (12, [.ref a_tape, .int 16, .int 0, .ref a_sign, .ref a_length, .ref a_clause, .ref a_clauses, .ref a_read, .int 0, .int 0, .int 0, .int 0, .int 0, .int 0, .int 0, .ref a_open, .int 0, .ref a_stack, .int 0, .ref a_word, .ref a_said, .int (-1), .int 0, .int (-1), .ref a_planned, .ref a_cameOf, .ref a_wasSaid, .int 0, .ref a_kept, .ref a_rowNow, .ref a_rowBest, .ref a_hasBy, .ref a_isFit, .ref a_cameThen, .long 0, .ref a_images, .ref a_imageForce, .ref a_imageX, .ref a_isMade])), (a_tape, .inl (cy 2, 400, .inl (fn_12)))] H := hP
  have hD : va_D A [(m0, .inr (12, [.ref a_tape, .int 16, .int 0, .ref a_sign, .ref a_length, .ref a_clause, .ref a_clauses, .ref a_read, .int 0, .int 0, .int 0, .int 0, .int 0, .int 0, .int 0, .ref a_open, .int 0, .ref a_stack, .int 0, .ref a_word, .ref a_said, .int (-1), .int 0, .int (-1), .ref a_planned, .ref a_cameOf, .ref a_wasSaid, .int 0, .ref a_kept, .ref a_rowNow, .ref a_rowBest, .ref a_hasBy, .ref a_isFit, .ref a_cameThen, .long 0, .ref a_images, .ref a_imageForce, .ref a_imageX, .ref a_isMade])), (a_tape, .inl (cy 2, 400, .inl (fn_12)))] := hD
  refine lv_iinc (v := (-8)) (lv' := [(2, .int (-8)), (0, .ref m0), (1, .int x0)]) hx hb dX12_four_30 hl (k := 0) rfl (by decide) (by decide) rfl (fun ls hl => ?_)
  refine lv_goto (tgt := 3) hx hb dX12_four_33 (by decide) ?_
  refine lv_iload_n hx hb dX12_four_3 rfl (lv_at hl 0 rfl) ?_
  refine lv_if_lt (tgt := 36) hx hb dX12_four_4 (by decide) (fun _ => ?_) (fun q => absurd q (by decide))
  exact KV.rt fn_12 F (hP.sub [0, 1] rfl) (hD.sub [0, 1] (by decide) rfl) hS (trivial) (Nat.le_of_ble_eq_true rfl) (Nat.le_of_ble_eq_true rfl) dX12_four_36

set_option maxHeartbeats 4000000 in
set_option maxRecDepth 100000 in
theorem c_four16 (l : Launch) (D : va_G) (cy : Nat → ClassId) (m0 a_tape a_sign a_length a_clause a_clauses a_read a_open a_stack a_word a_said a_planned a_cameOf a_wasSaid a_kept a_rowNow a_rowBest a_hasBy a_isFit a_cameThen a_images a_imageForce a_imageX a_isMade : Nat) (fb : Nat → Int32) (x0 : Int32) : KV l yX12_four cX12_four 3 0 0 D (kTY cy) [.ref m0, .int x0] [(m0, .inr (12, [.ref a_tape, .int 16, .int 0, .ref a_sign, .ref a_length, .ref a_clause, .ref a_clauses, .ref a_read, .int 0, .int 0, .int 0, .int 0, .int 0, .int 0, .int 0, .ref a_open, .int 0, .ref a_stack, .int 0, .ref a_word, .ref a_said, .int (-1), .int 0, .int (-1), .ref a_planned, .ref a_cameOf, .ref a_wasSaid, .int 0, .ref a_kept, .ref a_rowNow, .ref a_rowBest, .ref a_hasBy, .ref a_isFit, .ref a_cameThen, .long 0, .ref a_images, .ref a_imageForce, .ref a_imageX, .ref a_isMade])), (a_tape, .inl (cy 2, 400, .inl (fb)))] (S := Nat → Int32) (fun _ => True) (fun f => [(m0, .inr (12, [.ref a_tape, .int 20, .int 0, .ref a_sign, .ref a_length, .ref a_clause, .ref a_clauses, .ref a_read, .int 0, .int 0, .int 0, .int 0, .int 0, .int 0, .int 0, .ref a_open, .int 0, .ref a_stack, .int 0, .ref a_word, .ref a_said, .int (-1), .int 0, .int (-1), .ref a_planned, .ref a_cameOf, .ref a_wasSaid, .int 0, .ref a_kept, .ref a_rowNow, .ref a_rowBest, .ref a_hasBy, .ref a_isFit, .ref a_cameThen, .long 0, .ref a_images, .ref a_imageForce, .ref a_imageX, .ref a_isMade])), (a_tape, .inl (cy 2, 400, .inl (f)))]) 0 0 := by
  refine KV.of (by decide) (Nat.le_of_ble_eq_true rfl) (fun p e s m below meth c ls A F hin hE hP hD hA hS hl => ?_)
  have F : kF p s m meth c cX12_four 3 none _ RX12 := F
  obtain ⟨hx, hb, hr, hml, hown, hG, hlk⟩ := id F
  have hl : lv_has ls 3 [(0, .ref m0), (1, .int x0)] := hl
  refine lv_bipush (v := 24) hx hb dX12_four_0 (by decide) ?_
  refine lv_istore_n (lv' := [(2, .int 24), (0, .ref m0), (1, .int x0)]) hx hb dX12_four_2 rfl hl (by decide) rfl (fun ls hl => ?_)
  refine lv_iload_n hx hb dX12_four_3 rfl (lv_at hl 0 rfl) ?_
  refine lv_if_lt (tgt := 36) hx hb dX12_four_4 (by decide) (fun q => absurd q (by decide)) (fun _ => ?_)
  refine lv_aload_n hx hb dX12_four_7 rfl (lv_at hl 1 rfl) ?_
  refine va_get (D := D) (ci := 12) (v := .ref a_tape) (C := RX12) (T := TX12) (N := 39) hx hb hG inG_X12 hown hE.1 hP 0 rfl rfl 0 (by decide) (hG _ q_f_X12_7) (fun _ h9 => h9) rfl dX12_four_8 ?_
  refine lv_aload_n hx hb dX12_four_11 rfl (lv_at hl 1 rfl) ?_
  refine va_get (D := D) (ci := 12) (v := .int 16) (C := RX12) (T := TX12) (N := 39) hx hb hG inG_X12 hown hE.1 hP 0 rfl rfl 1 (by decide) (hG _ q_f_X12_89) (fun _ h9 => h9) rfl dX12_four_12 ?_
  refine lv_iload_n hx hb dX12_four_15 rfl (lv_at hl 2 rfl) ?_
  refine lv_iload_n hx hb dX12_four_16 rfl (lv_at hl 0 rfl) ?_
  refine lv_ishr hx hb dX12_four_17 ?_
  refine lv_topi (fun z_1 ez_1 => ?_)
  refine lv_i2b hx hb dX12_four_18 rfl ?_
  refine lv_topi (fun z_2 ez_2 => ?_)
  refine va_bast hx hb hE.1 hP hD hS 1 2 rfl rfl (by unfold vp_in; decide) dX12_four_19 (fun H locs hP hD hS => ?_)
  generalize upd (fb) (Int32.toNatClampNeg 16) (vp_nar .byte z_2) = fn_3 at hP hD
  have hP : va_P D vwCl [(m0, .inr (12, [.ref a_tape, .int 16, .int 0, .ref a_sign, .ref a_length, .ref a_clause, .ref a_clauses, .ref a_read, .int 0, .int 0, .int 0, .int 0, .int 0, .int 0, .int 0, .ref a_open, .int 0, .ref a_stack, .int 0, .ref a_word, .ref a_said, .int (-1), .int 0, .int (-1), .ref a_planned, .ref a_cameOf, .ref a_wasSaid, .int 0, .ref a_kept, .ref a_rowNow, .ref a_rowBest, .ref a_hasBy, .ref a_isFit, .ref a_cameThen, .long 0, .ref a_images, .ref a_imageForce, .ref a_imageX, .ref a_isMade])), (a_tape, .inl (cy 2, 400, .inl (fn_3)))] H := hP
  have hD : va_D A [(m0, .inr (12, [.ref a_tape, .int 16, .int 0, .ref a_sign, .ref a_length, .ref a_clause, .ref a_clauses, .ref a_read, .int 0, .int 0, .int 0, .int 0, .int 0, .int 0, .int 0, .ref a_open, .int 0, .ref a_stack, .int 0, .ref a_word, .ref a_said, .int (-1), .int 0, .int (-1), .ref a_planned, .ref a_cameOf, .ref a_wasSaid, .int 0, .ref a_kept, .ref a_rowNow, .ref a_rowBest, .ref a_hasBy, .ref a_isFit, .ref a_cameThen, .long 0, .ref a_images, .ref a_imageForce, .ref a_imageX, .ref a_isMade])), (a_tape, .inl (cy 2, 400, .inl (fn_3)))] := hD
  refine lv_aload_n hx hb dX12_four_20 rfl (lv_at hl 1 rfl) ?_
  refine lv_dup hx hb dX12_four_21 rfl ?_
  refine va_get (D := D) (ci := 12) (v := .int 16) (C := RX12) (T := TX12) (N := 39) hx hb hG inG_X12 hown hE.1 hP 0 rfl rfl 1 (by decide) (hG _ q_f_X12_89) (fun _ h9 => h9) rfl dX12_four_22 ?_
  refine lv_iconst (v := 1) hx hb dX12_four_25 (by decide) ?_
  refine lv_iadd hx hb dX12_four_26 ?_
  refine k_top (z := 17) (by decide) ?_
  refine va_put (D := D) (ci := 12) (v := .int 17) (ty := .int) (C := RX12) (T := TX12) (N := 39) hx hb hG inG_X12 tyX12 tyX12_ok nmX12 hown hE.1 hP hD hS 0 rfl rfl 1 (by decide) (hG _ q_f_X12_89) (fun _ h9 => h9) rfl (by decide +kernel) rfl rfl (Nat.le_of_ble_eq_true rfl) dX12_four_27 (fun H locs hP hD hS => ?_)
  have hP : va_P D vwCl [(m0, .inr (12, [.ref a_tape, .int 17, .int 0, .ref a_sign, .ref a_length, .ref a_clause, .ref a_clauses, .ref a_read, .int 0, .int 0, .int 0, .int 0, .int 0, .int 0, .int 0, .ref a_open, .int 0, .ref a_stack, .int 0, .ref a_word, .ref a_said, .int (-1), .int 0, .int (-1), .ref a_planned, .ref a_cameOf, .ref a_wasSaid, .int 0, .ref a_kept, .ref a_rowNow, .ref a_rowBest, .ref a_hasBy, .ref a_isFit, .ref a_cameThen, .long 0, .ref a_images, .ref a_imageForce, .ref a_imageX, .ref a_isMade])), (a_tape, .inl (cy 2, 400, .inl (fn_3)))] H := hP
  have hD : va_D A [(m0, .inr (12, [.ref a_tape, .int 17, .int 0, .ref a_sign, .ref a_length, .ref a_clause, .ref a_clauses, .ref a_read, .int 0, .int 0, .int 0, .int 0, .int 0, .int 0, .int 0, .ref a_open, .int 0, .ref a_stack, .int 0, .ref a_word, .ref a_said, .int (-1), .int 0, .int (-1), .ref a_planned, .ref a_cameOf, .ref a_wasSaid, .int 0, .ref a_kept, .ref a_rowNow, .ref a_rowBest, .ref a_hasBy, .ref a_isFit, .ref a_cameThen, .long 0, .ref a_images, .ref a_imageForce, .ref a_imageX, .ref a_isMade])), (a_tape, .inl (cy 2, 400, .inl (fn_3)))] := hD
  refine lv_iinc (v := 16) (lv' := [(2, .int 16), (0, .ref m0), (1, .int x0)]) hx hb dX12_four_30 hl (k := 0) rfl (by decide) (by decide) rfl (fun ls hl => ?_)
  refine lv_goto (tgt := 3) hx hb dX12_four_33 (by decide) ?_
  refine lv_iload_n hx hb dX12_four_3 rfl (lv_at hl 0 rfl) ?_
  refine lv_if_lt (tgt := 36) hx hb dX12_four_4 (by decide) (fun q => absurd q (by decide)) (fun _ => ?_)
  refine lv_aload_n hx hb dX12_four_7 rfl (lv_at hl 1 rfl) ?_
  refine va_get (D := D) (ci := 12) (v := .ref a_tape) (C := RX12) (T := TX12) (N := 39) hx hb hG inG_X12 hown hE.1 hP 0 rfl rfl 0 (by decide) (hG _ q_f_X12_7) (fun _ h9 => h9) rfl dX12_four_8 ?_
  refine lv_aload_n hx hb dX12_four_11 rfl (lv_at hl 1 rfl) ?_
  refine va_get (D := D) (ci := 12) (v := .int 17) (C := RX12) (T := TX12) (N := 39) hx hb hG inG_X12 hown hE.1 hP 0 rfl rfl 1 (by decide) (hG _ q_f_X12_89) (fun _ h9 => h9) rfl dX12_four_12 ?_
  refine lv_iload_n hx hb dX12_four_15 rfl (lv_at hl 2 rfl) ?_
  refine lv_iload_n hx hb dX12_four_16 rfl (lv_at hl 0 rfl) ?_
  refine lv_ishr hx hb dX12_four_17 ?_
  refine lv_topi (fun z_4 ez_4 => ?_)
  refine lv_i2b hx hb dX12_four_18 rfl ?_
  refine lv_topi (fun z_5 ez_5 => ?_)
  refine va_bast hx hb hE.1 hP hD hS 1 2 rfl rfl (by unfold vp_in; decide) dX12_four_19 (fun H locs hP hD hS => ?_)
  generalize upd (fn_3) (Int32.toNatClampNeg 17) (vp_nar .byte z_5) = fn_6 at hP hD
  have hP : va_P D vwCl [(m0, .inr (12, [.ref a_tape, .int 17, .int 0, .ref a_sign, .ref a_length, .ref a_clause, .ref a_clauses, .ref a_read, .int 0, .int 0, .int 0, .int 0, .int 0, .int 0, .int 0, .ref a_open, .int 0, .ref a_stack, .int 0, .ref a_word, .ref a_said, .int (-1), .int 0, .int (-1), .ref a_planned, .ref a_cameOf, .ref a_wasSaid, .int 0, .ref a_kept, .ref a_rowNow, .ref a_rowBest, .ref a_hasBy, .ref a_isFit, .ref a_cameThen, .long 0, .ref a_images, .ref a_imageForce, .ref a_imageX, .ref a_isMade])), (a_tape, .inl (cy 2, 400, .inl (fn_6)))] H := hP
  have hD : va_D A [(m0, .inr (12, [.ref a_tape, .int 17, .int 0, .ref a_sign, .ref a_length, .ref a_clause, .ref a_clauses, .ref a_read, .int 0, .int 0, .int 0, .int 0, .int 0, .int 0, .int 0, .ref a_open, .int 0, .ref a_stack, .int 0, .ref a_word, .ref a_said, .int (-1), .int 0, .int (-1), .ref a_planned, .ref a_cameOf, .ref a_wasSaid, .int 0, .ref a_kept, .ref a_rowNow, .ref a_rowBest, .ref a_hasBy, .ref a_isFit, .ref a_cameThen, .long 0, .ref a_images, .ref a_imageForce, .ref a_imageX, .ref a_isMade])), (a_tape, .inl (cy 2, 400, .inl (fn_6)))] := hD
  refine lv_aload_n hx hb dX12_four_20 rfl (lv_at hl 1 rfl) ?_
  refine lv_dup hx hb dX12_four_21 rfl ?_
  refine va_get (D := D) (ci := 12) (v := .int 17) (C := RX12) (T := TX12) (N := 39) hx hb hG inG_X12 hown hE.1 hP 0 rfl rfl 1 (by decide) (hG _ q_f_X12_89) (fun _ h9 => h9) rfl dX12_four_22 ?_
  refine lv_iconst (v := 1) hx hb dX12_four_25 (by decide) ?_
  refine lv_iadd hx hb dX12_four_26 ?_
  refine k_top (z := 18) (by decide) ?_
  refine va_put (D := D) (ci := 12) (v := .int 18) (ty := .int) (C := RX12) (T := TX12) (N := 39) hx hb hG inG_X12 tyX12 tyX12_ok nmX12 hown hE.1 hP hD hS 0 rfl rfl 1 (by decide) (hG _ q_f_X12_89) (fun _ h9 => h9) rfl (by decide +kernel) rfl rfl (Nat.le_of_ble_eq_true rfl) dX12_four_27 (fun H locs hP hD hS => ?_)
  have hP : va_P D vwCl [(m0, .inr (12, [.ref a_tape, .int 18, .int 0, .ref a_sign, .ref a_length, .ref a_clause, .ref a_clauses, .ref a_read, .int 0, .int 0, .int 0, .int 0, .int 0, .int 0, .int 0, .ref a_open, .int 0, .ref a_stack, .int 0, .ref a_word, .ref a_said, .int (-1), .int 0, .int (-1), .ref a_planned, .ref a_cameOf, .ref a_wasSaid, .int 0, .ref a_kept, .ref a_rowNow, .ref a_rowBest, .ref a_hasBy, .ref a_isFit, .ref a_cameThen, .long 0, .ref a_images, .ref a_imageForce, .ref a_imageX, .ref a_isMade])), (a_tape, .inl (cy 2, 400, .inl (fn_6)))] H := hP
  have hD : va_D A [(m0, .inr (12, [.ref a_tape, .int 18, .int 0, .ref a_sign, .ref a_length, .ref a_clause, .ref a_clauses, .ref a_read, .int 0, .int 0, .int 0, .int 0, .int 0, .int 0, .int 0, .ref a_open, .int 0, .ref a_stack, .int 0, .ref a_word, .ref a_said, .int (-1), .int 0, .int (-1), .ref a_planned, .ref a_cameOf, .ref a_wasSaid, .int 0, .ref a_kept, .ref a_rowNow, .ref a_rowBest, .ref a_hasBy, .ref a_isFit, .ref a_cameThen, .long 0, .ref a_images, .ref a_imageForce, .ref a_imageX, .ref a_isMade])), (a_tape, .inl (cy 2, 400, .inl (fn_6)))] := hD
  refine lv_iinc (v := 8) (lv' := [(2, .int 8), (0, .ref m0), (1, .int x0)]) hx hb dX12_four_30 hl (k := 0) rfl (by decide) (by decide) rfl (fun ls hl => ?_)
  refine lv_goto (tgt := 3) hx hb dX12_four_33 (by decide) ?_
  refine lv_iload_n hx hb dX12_four_3 rfl (lv_at hl 0 rfl) ?_
  refine lv_if_lt (tgt := 36) hx hb dX12_four_4 (by decide) (fun q => absurd q (by decide)) (fun _ => ?_)
  refine lv_aload_n hx hb dX12_four_7 rfl (lv_at hl 1 rfl) ?_
  refine va_get (D := D) (ci := 12) (v := .ref a_tape) (C := RX12) (T := TX12) (N := 39) hx hb hG inG_X12 hown hE.1 hP 0 rfl rfl 0 (by decide) (hG _ q_f_X12_7) (fun _ h9 => h9) rfl dX12_four_8 ?_
  refine lv_aload_n hx hb dX12_four_11 rfl (lv_at hl 1 rfl) ?_
  refine va_get (D := D) (ci := 12) (v := .int 18) (C := RX12) (T := TX12) (N := 39) hx hb hG inG_X12 hown hE.1 hP 0 rfl rfl 1 (by decide) (hG _ q_f_X12_89) (fun _ h9 => h9) rfl dX12_four_12 ?_
  refine lv_iload_n hx hb dX12_four_15 rfl (lv_at hl 2 rfl) ?_
  refine lv_iload_n hx hb dX12_four_16 rfl (lv_at hl 0 rfl) ?_
  refine lv_ishr hx hb dX12_four_17 ?_
  refine lv_topi (fun z_7 ez_7 => ?_)
  refine lv_i2b hx hb dX12_four_18 rfl ?_
  refine lv_topi (fun z_8 ez_8 => ?_)
  refine va_bast hx hb hE.1 hP hD hS 1 2 rfl rfl (by unfold vp_in; decide) dX12_four_19 (fun H locs hP hD hS => ?_)
  generalize upd (fn_6) (Int32.toNatClampNeg 18) (vp_nar .byte z_8) = fn_9 at hP hD
  have hP : va_P D vwCl [(m0, .inr (12, [.ref a_tape, .int 18, .int 0, .ref a_sign, .ref a_length, .ref a_clause, .ref a_clauses, .ref a_read, .int 0, .int 0, .int 0, .int 0, .int 0, .int 0, .int 0, .ref a_open, .int 0, .ref a_stack, .int 0, .ref a_word, .ref a_said, .int (-1), .int 0, .int (-1), .ref a_planned, .ref a_cameOf, .ref a_wasSaid, .int 0, .ref a_kept, .ref a_rowNow, .ref a_rowBest, .ref a_hasBy, .ref a_isFit, .ref a_cameThen, .long 0, .ref a_images, .ref a_imageForce, .ref a_imageX, .ref a_isMade])), (a_tape, .inl (cy 2, 400, .inl (fn_9)))] H := hP
  have hD : va_D A [(m0, .inr (12, [.ref a_tape, .int 18, .int 0, .ref a_sign, .ref a_length, .ref a_clause, .ref a_clauses, .ref a_read, .int 0, .int 0, .int 0, .int 0, .int 0, .int 0, .int 0, .ref a_open, .int 0, .ref a_stack, .int 0, .ref a_word, .ref a_said, .int (-1), .int 0, .int (-1), .ref a_planned, .ref a_cameOf, .ref a_wasSaid, .int 0, .ref a_kept, .ref a_rowNow, .ref a_rowBest, .ref a_hasBy, .ref a_isFit, .ref a_cameThen, .long 0, .ref a_images, .ref a_imageForce, .ref a_imageX, .ref a_isMade])), (a_tape, .inl (cy 2, 400, .inl (fn_9)))] := hD
  refine lv_aload_n hx hb dX12_four_20 rfl (lv_at hl 1 rfl) ?_
  refine lv_dup hx hb dX12_four_21 rfl ?_
  refine va_get (D := D) (ci := 12) (v := .int 18) (C := RX12) (T := TX12) (N := 39) hx hb hG inG_X12 hown hE.1 hP 0 rfl rfl 1 (by decide) (hG _ q_f_X12_89) (fun _ h9 => h9) rfl dX12_four_22 ?_
  refine lv_iconst (v := 1) hx hb dX12_four_25 (by decide) ?_
  refine lv_iadd hx hb dX12_four_26 ?_
  refine k_top (z := 19) (by decide) ?_
  refine va_put (D := D) (ci := 12) (v := .int 19) (ty := .int) (C := RX12) (T := TX12) (N := 39) hx hb hG inG_X12 tyX12 tyX12_ok nmX12 hown hE.1 hP hD hS 0 rfl rfl 1 (by decide) (hG _ q_f_X12_89) (fun _ h9 => h9) rfl (by decide +kernel) rfl rfl (Nat.le_of_ble_eq_true rfl) dX12_four_27 (fun H locs hP hD hS => ?_)
  have hP : va_P D vwCl [(m0, .inr (12, [.ref a_tape, .int 19, .int 0, .ref a_sign, .ref a_length, .ref a_clause, .ref a_clauses, .ref a_read, .int 0, .int 0, .int 0, .int 0, .int 0, .int 0, .int 0, .ref a_open, .int 0, .ref a_stack, .int 0, .ref a_word, .ref a_said, .int (-1), .int 0, .int (-1), .ref a_planned, .ref a_cameOf, .ref a_wasSaid, .int 0, .ref a_kept, .ref a_rowNow, .ref a_rowBest, .ref a_hasBy, .ref a_isFit, .ref a_cameThen, .long 0, .ref a_images, .ref a_imageForce, .ref a_imageX, .ref a_isMade])), (a_tape, .inl (cy 2, 400, .inl (fn_9)))] H := hP
  have hD : va_D A [(m0, .inr (12, [.ref a_tape, .int 19, .int 0, .ref a_sign, .ref a_length, .ref a_clause, .ref a_clauses, .ref a_read, .int 0, .int 0, .int 0, .int 0, .int 0, .int 0, .int 0, .ref a_open, .int 0, .ref a_stack, .int 0, .ref a_word, .ref a_said, .int (-1), .int 0, .int (-1), .ref a_planned, .ref a_cameOf, .ref a_wasSaid, .int 0, .ref a_kept, .ref a_rowNow, .ref a_rowBest, .ref a_hasBy, .ref a_isFit, .ref a_cameThen, .long 0, .ref a_images, .ref a_imageForce, .ref a_imageX, .ref a_isMade])), (a_tape, .inl (cy 2, 400, .inl (fn_9)))] := hD
  refine lv_iinc (v := 0) (lv' := [(2, .int 0), (0, .ref m0), (1, .int x0)]) hx hb dX12_four_30 hl (k := 0) rfl (by decide) (by decide) rfl (fun ls hl => ?_)
  refine lv_goto (tgt := 3) hx hb dX12_four_33 (by decide) ?_
  refine lv_iload_n hx hb dX12_four_3 rfl (lv_at hl 0 rfl) ?_
  refine lv_if_lt (tgt := 36) hx hb dX12_four_4 (by decide) (fun q => absurd q (by decide)) (fun _ => ?_)
  refine lv_aload_n hx hb dX12_four_7 rfl (lv_at hl 1 rfl) ?_
  refine va_get (D := D) (ci := 12) (v := .ref a_tape) (C := RX12) (T := TX12) (N := 39) hx hb hG inG_X12 hown hE.1 hP 0 rfl rfl 0 (by decide) (hG _ q_f_X12_7) (fun _ h9 => h9) rfl dX12_four_8 ?_
  refine lv_aload_n hx hb dX12_four_11 rfl (lv_at hl 1 rfl) ?_
  refine va_get (D := D) (ci := 12) (v := .int 19) (C := RX12) (T := TX12) (N := 39) hx hb hG inG_X12 hown hE.1 hP 0 rfl rfl 1 (by decide) (hG _ q_f_X12_89) (fun _ h9 => h9) rfl dX12_four_12 ?_
  refine lv_iload_n hx hb dX12_four_15 rfl (lv_at hl 2 rfl) ?_
  refine lv_iload_n hx hb dX12_four_16 rfl (lv_at hl 0 rfl) ?_
  refine lv_ishr hx hb dX12_four_17 ?_
  refine lv_topi (fun z_10 ez_10 => ?_)
  refine lv_i2b hx hb dX12_four_18 rfl ?_
  refine lv_topi (fun z_11 ez_11 => ?_)
  refine va_bast hx hb hE.1 hP hD hS 1 2 rfl rfl (by unfold vp_in; decide) dX12_four_19 (fun H locs hP hD hS => ?_)
  generalize upd (fn_9) (Int32.toNatClampNeg 19) (vp_nar .byte z_11) = fn_12 at hP hD
  have hP : va_P D vwCl [(m0, .inr (12, [.ref a_tape, .int 19, .int 0, .ref a_sign, .ref a_length, .ref a_clause, .ref a_clauses, .ref a_read, .int 0, .int 0, .int 0, .int 0, .int 0, .int 0, .int 0, .ref a_open, .int 0, .ref a_stack, .int 0, .ref a_word, .ref a_said, .int (-1), .int 0, .int (-1), .ref a_planned, .ref a_cameOf, .ref a_wasSaid, .int 0, .ref a_kept, .ref a_rowNow, .ref a_rowBest, .ref a_hasBy, .ref a_isFit, .ref a_cameThen, .long 0, .ref a_images, .ref a_imageForce, .ref a_imageX, .ref a_isMade])), (a_tape, .inl (cy 2, 400, .inl (fn_12)))] H := hP
  have hD : va_D A [(m0, .inr (12, [.ref a_tape, .int 19, .int 0, .ref a_sign, .ref a_length, .ref a_clause, .ref a_clauses, .ref a_read, .int 0, .int 0, .int 0, .int 0, .int 0, .int 0, .int 0, .ref a_open, .int 0, .ref a_stack, .int 0, .ref a_word, .ref a_said, .int (-1), .int 0, .int (-1), .ref a_planned, .ref a_cameOf, .ref a_wasSaid, .int 0, .ref a_kept, .ref a_rowNow, .ref a_rowBest, .ref a_hasBy, .ref a_isFit, .ref a_cameThen, .long 0, .ref a_images, .ref a_imageForce, .ref a_imageX, .ref a_isMade])), (a_tape, .inl (cy 2, 400, .inl (fn_12)))] := hD
  refine lv_aload_n hx hb dX12_four_20 rfl (lv_at hl 1 rfl) ?_
  refine lv_dup hx hb dX12_four_21 rfl ?_
  refine va_get (D := D) (ci := 12) (v := .int 19) (C := RX12) (T := TX12) (N := 39) hx hb hG inG_X12 hown hE.1 hP 0 rfl rfl 1 (by decide) (hG _ q_f_X12_89) (fun _ h9 => h9) rfl dX12_four_22 ?_
  refine lv_iconst (v := 1) hx hb dX12_four_25 (by decide) ?_
  refine lv_iadd hx hb dX12_four_26 ?_
  refine k_top (z := 20) (by decide) ?_
  refine va_put (D := D) (ci := 12) (v := .int 20) (ty := .int) (C := RX12) (T := TX12) (N := 39) hx hb hG inG_X12 tyX12 tyX12_ok nmX12 hown hE.1 hP hD hS 0 rfl rfl 1 (by decide) (hG _ q_f_X12_89) (fun _ h9 => h9) rfl (by decide +kernel) rfl rfl (Nat.le_of_ble_eq_true rfl) dX12_four_27 (fun H locs hP hD hS => ?_)
  have hP : va_P D vwCl [(m0, .inr (12, [.ref a_tape, .int 20, .int 0, .ref a_sign, .ref a_length, .ref a_clause, .ref a_clauses, .ref a_read, .int 0, .int 0, .int 0, .int 0, .int 0, .int 0, .int 0, .ref a_open, .int 0, .ref a_stack, .int 0, .ref a_word, .ref a_said, .int (-1), .int 0, .int (-1), .ref a_planned, .ref a_cameOf, .ref a_wasSaid, .int 0, .ref a_kept, .ref a_rowNow, .ref a_rowBest, .ref a_hasBy, .ref a_isFit, .ref a_cameThen, .long 0, .ref a_images, .ref a_imageForce, .ref a_imageX, .ref a_isMade])), (a_tape, .inl (cy 2, 400, .inl (fn_12)))] H := hP
  have hD : va_D A [(m0, .inr (12, [.ref a_tape, .int 20, .int 0, .ref a_sign, .ref a_length, .ref a_clause, .ref a_clauses, .ref a_read, .int 0, .int 0, .int 0, .int 0, .int 0, .int 0, .int 0, .ref a_open, .int 0, .ref a_stack, .int 0, .ref a_word, .ref a_said, .int (-1), .int 0, .int (-1), .ref a_planned, .ref a_cameOf, .ref a_wasSaid, .int 0, .ref a_kept, .ref a_rowNow, .ref a_rowBest, .ref a_hasBy, .ref a_isFit, .ref a_cameThen, .long 0, .ref a_images, .ref a_imageForce, .ref a_imageX, .ref a_isMade])), (a_tape, .inl (cy 2, 400, .inl (fn_12)))] := hD
  refine lv_iinc (v := (-8)) (lv' := [(2, .int (-8)), (0, .ref m0), (1, .int x0)]) hx hb dX12_four_30 hl (k := 0) rfl (by decide) (by decide) rfl (fun ls hl => ?_)
  refine lv_goto (tgt := 3) hx hb dX12_four_33 (by decide) ?_
  refine lv_iload_n hx hb dX12_four_3 rfl (lv_at hl 0 rfl) ?_
  refine lv_if_lt (tgt := 36) hx hb dX12_four_4 (by decide) (fun _ => ?_) (fun q => absurd q (by decide))
  exact KV.rt fn_12 F (hP.sub [0, 1] rfl) (hD.sub [0, 1] (by decide) rfl) hS (trivial) (Nat.le_of_ble_eq_true rfl) (Nat.le_of_ble_eq_true rfl) dX12_four_36

set_option maxHeartbeats 4000000 in
set_option maxRecDepth 100000 in
theorem m_feed (l : Launch) (D : va_G) (cy : Nat → ClassId) (m0 a_tape a_sign a_length a_clause a_clauses a_read a_open a_stack a_word a_said a_planned a_cameOf a_wasSaid a_kept a_rowNow a_rowBest a_hasBy a_isFit a_cameThen a_images a_imageForce a_imageX a_isMade : Nat) (x0 : Int32) (x1 : Int32) (x2 : Int32) (x3 : Int32) (x4 : Int32) : KI l yX12_feed cX12_feed 6 (some .int) 1 22 D (kTY cy) [.ref m0, .int x0, .int x1, .int x2, .int x3, .int x4] [(m0, .inr (12, [.ref a_tape, .int 0, .int 0, .ref a_sign, .ref a_length, .ref a_clause, .ref a_clauses, .ref a_read, .int 0, .int 0, .int 0, .int 0, .int 0, .int 0, .int 0, .ref a_open, .int 0, .ref a_stack, .int 0, .ref a_word, .ref a_said, .int (-1), .int 0, .int (-1), .ref a_planned, .ref a_cameOf, .ref a_wasSaid, .int 0, .ref a_kept, .ref a_rowNow, .ref a_rowBest, .ref a_hasBy, .ref a_isFit, .ref a_cameThen, .long 0, .ref a_images, .ref a_imageForce, .ref a_imageX, .ref a_isMade])), (a_tape, .inl (cy 2, 400, .inl (fun _ => 0)))] (S := Unit) (fun r _ => r = 20) (fun _ => []) 0 0 := by
  refine KI.of (by decide) (Nat.le_of_ble_eq_true rfl) (fun p e s m below meth c ls A F hE hP hD hA hS hl => ?_)
  have F : kF p s m meth c cX12_feed 6 (some .int) _ RX12 := F
  obtain ⟨hx, hb, hr, hml, hown, hG, hlk⟩ := id F
  have hl : lv_has ls 6 [(0, .ref m0), (1, .int x0), (2, .int x1), (3, .int x2), (4, .int x3), (5, .int x4)] := hl
  refine lv_aload_n hx hb dX12_feed_0 rfl (lv_at hl 0 rfl) ?_
  refine va_get (D := D) (ci := 12) (v := .int 0) (C := RX12) (T := TX12) (N := 39) hx hb hG inG_X12 hown hE.1 hP 0 rfl rfl 1 (by decide) (hG _ q_f_X12_89) (fun _ h9 => h9) rfl dX12_feed_1 ?_
  refine lv_bipush (v := 20) hx hb dX12_feed_4 (by decide) ?_
  refine lv_iadd hx hb dX12_feed_6 ?_
  refine k_top (z := 20) (by decide) ?_
  refine lv_sipush (v := 400) hx hb dX12_feed_7 (by decide) ?_
  refine lv_icmp_le (tgt := 15) hx hb dX12_feed_10 (by decide) (fun _ => ?_) (fun q => absurd q (by decide))
  refine lv_aload_n hx hb dX12_feed_15 rfl (lv_at hl 0 rfl) ?_
  refine lv_iload_n hx hb dX12_feed_16 rfl (lv_at hl 1 rfl) ?_
  refine kwVV (wr := []) (As := [.int x0]) (rest := []) F hE hP hD hS hA hl.1 (c_four0 l D cy (m0 := m0) (x0 := x0) (a_tape := a_tape) (a_sign := a_sign) (a_length := a_length) (a_clause := a_clause) (a_clauses := a_clauses) (a_read := a_read) (a_open := a_open) (a_stack := a_stack) (a_word := a_word) (a_said := a_said) (a_planned := a_planned) (a_cameOf := a_cameOf) (a_wasSaid := a_wasSaid) (a_kept := a_kept) (a_rowNow := a_rowNow) (a_rowBest := a_rowBest) (a_hasBy := a_hasBy) (a_isFit := a_isFit) (a_cameThen := a_cameThen) (a_images := a_images) (a_imageForce := a_imageForce) (a_imageX := a_imageX) (a_isMade := a_isMade) (fb := (fun _ => 0))) q_m_X12_92 mv_X12_four ⟨(Nat.le_of_ble_eq_true rfl), (Nat.le_of_ble_eq_true rfl)⟩ [0, 1] [] (by decide) rfl rfl (by decide) (by decide) rfl rfl rfl rfl rfl (Nat.le_of_ble_eq_true rfl) ⟨(Nat.le_of_ble_eq_true rfl), (Nat.le_of_ble_eq_true rfl)⟩ dX12_feed_17 (fun u_1 H locs eu_1 hP hD hS => ?_)
  have hP : va_P D vwCl [(m0, .inr (12, [.ref a_tape, .int 4, .int 0, .ref a_sign, .ref a_length, .ref a_clause, .ref a_clauses, .ref a_read, .int 0, .int 0, .int 0, .int 0, .int 0, .int 0, .int 0, .ref a_open, .int 0, .ref a_stack, .int 0, .ref a_word, .ref a_said, .int (-1), .int 0, .int (-1), .ref a_planned, .ref a_cameOf, .ref a_wasSaid, .int 0, .ref a_kept, .ref a_rowNow, .ref a_rowBest, .ref a_hasBy, .ref a_isFit, .ref a_cameThen, .long 0, .ref a_images, .ref a_imageForce, .ref a_imageX, .ref a_isMade])), (a_tape, .inl (cy 2, 400, .inl (u_1)))] H := hP
  have hD : va_D A [(m0, .inr (12, [.ref a_tape, .int 4, .int 0, .ref a_sign, .ref a_length, .ref a_clause, .ref a_clauses, .ref a_read, .int 0, .int 0, .int 0, .int 0, .int 0, .int 0, .int 0, .ref a_open, .int 0, .ref a_stack, .int 0, .ref a_word, .ref a_said, .int (-1), .int 0, .int (-1), .ref a_planned, .ref a_cameOf, .ref a_wasSaid, .int 0, .ref a_kept, .ref a_rowNow, .ref a_rowBest, .ref a_hasBy, .ref a_isFit, .ref a_cameThen, .long 0, .ref a_images, .ref a_imageForce, .ref a_imageX, .ref a_isMade])), (a_tape, .inl (cy 2, 400, .inl (u_1)))] := hD
  refine lv_aload_n hx hb dX12_feed_20 rfl (lv_at hl 0 rfl) ?_
  refine lv_iload_n hx hb dX12_feed_21 rfl (lv_at hl 2 rfl) ?_
  refine kwVV (wr := []) (As := [.int x1]) (rest := []) F hE hP hD hS hA hl.1 (c_four4 l D cy (m0 := m0) (x0 := x1) (a_tape := a_tape) (a_sign := a_sign) (a_length := a_length) (a_clause := a_clause) (a_clauses := a_clauses) (a_read := a_read) (a_open := a_open) (a_stack := a_stack) (a_word := a_word) (a_said := a_said) (a_planned := a_planned) (a_cameOf := a_cameOf) (a_wasSaid := a_wasSaid) (a_kept := a_kept) (a_rowNow := a_rowNow) (a_rowBest := a_rowBest) (a_hasBy := a_hasBy) (a_isFit := a_isFit) (a_cameThen := a_cameThen) (a_images := a_images) (a_imageForce := a_imageForce) (a_imageX := a_imageX) (a_isMade := a_isMade) (fb := u_1)) q_m_X12_92 mv_X12_four ⟨(Nat.le_of_ble_eq_true rfl), (Nat.le_of_ble_eq_true rfl)⟩ [0, 1] [] (by decide) rfl rfl (by decide) (by decide) rfl rfl rfl rfl rfl (Nat.le_of_ble_eq_true rfl) ⟨(Nat.le_of_ble_eq_true rfl), (Nat.le_of_ble_eq_true rfl)⟩ dX12_feed_22 (fun u_2 H locs eu_2 hP hD hS => ?_)
  have hP : va_P D vwCl [(m0, .inr (12, [.ref a_tape, .int 8, .int 0, .ref a_sign, .ref a_length, .ref a_clause, .ref a_clauses, .ref a_read, .int 0, .int 0, .int 0, .int 0, .int 0, .int 0, .int 0, .ref a_open, .int 0, .ref a_stack, .int 0, .ref a_word, .ref a_said, .int (-1), .int 0, .int (-1), .ref a_planned, .ref a_cameOf, .ref a_wasSaid, .int 0, .ref a_kept, .ref a_rowNow, .ref a_rowBest, .ref a_hasBy, .ref a_isFit, .ref a_cameThen, .long 0, .ref a_images, .ref a_imageForce, .ref a_imageX, .ref a_isMade])), (a_tape, .inl (cy 2, 400, .inl (u_2)))] H := hP
  have hD : va_D A [(m0, .inr (12, [.ref a_tape, .int 8, .int 0, .ref a_sign, .ref a_length, .ref a_clause, .ref a_clauses, .ref a_read, .int 0, .int 0, .int 0, .int 0, .int 0, .int 0, .int 0, .ref a_open, .int 0, .ref a_stack, .int 0, .ref a_word, .ref a_said, .int (-1), .int 0, .int (-1), .ref a_planned, .ref a_cameOf, .ref a_wasSaid, .int 0, .ref a_kept, .ref a_rowNow, .ref a_rowBest, .ref a_hasBy, .ref a_isFit, .ref a_cameThen, .long 0, .ref a_images, .ref a_imageForce, .ref a_imageX, .ref a_isMade])), (a_tape, .inl (cy 2, 400, .inl (u_2)))] := hD
  refine lv_aload_n hx hb dX12_feed_25 rfl (lv_at hl 0 rfl) ?_
  refine lv_iload_n hx hb dX12_feed_26 rfl (lv_at hl 3 rfl) ?_
  refine kwVV (wr := []) (As := [.int x2]) (rest := []) F hE hP hD hS hA hl.1 (c_four8 l D cy (m0 := m0) (x0 := x2) (a_tape := a_tape) (a_sign := a_sign) (a_length := a_length) (a_clause := a_clause) (a_clauses := a_clauses) (a_read := a_read) (a_open := a_open) (a_stack := a_stack) (a_word := a_word) (a_said := a_said) (a_planned := a_planned) (a_cameOf := a_cameOf) (a_wasSaid := a_wasSaid) (a_kept := a_kept) (a_rowNow := a_rowNow) (a_rowBest := a_rowBest) (a_hasBy := a_hasBy) (a_isFit := a_isFit) (a_cameThen := a_cameThen) (a_images := a_images) (a_imageForce := a_imageForce) (a_imageX := a_imageX) (a_isMade := a_isMade) (fb := u_2)) q_m_X12_92 mv_X12_four ⟨(Nat.le_of_ble_eq_true rfl), (Nat.le_of_ble_eq_true rfl)⟩ [0, 1] [] (by decide) rfl rfl (by decide) (by decide) rfl rfl rfl rfl rfl (Nat.le_of_ble_eq_true rfl) ⟨(Nat.le_of_ble_eq_true rfl), (Nat.le_of_ble_eq_true rfl)⟩ dX12_feed_27 (fun u_3 H locs eu_3 hP hD hS => ?_)
  have hP : va_P D vwCl [(m0, .inr (12, [.ref a_tape, .int 12, .int 0, .ref a_sign, .ref a_length, .ref a_clause, .ref a_clauses, .ref a_read, .int 0, .int 0, .int 0, .int 0, .int 0, .int 0, .int 0, .ref a_open, .int 0, .ref a_stack, .int 0, .ref a_word, .ref a_said, .int (-1), .int 0, .int (-1), .ref a_planned, .ref a_cameOf, .ref a_wasSaid, .int 0, .ref a_kept, .ref a_rowNow, .ref a_rowBest, .ref a_hasBy, .ref a_isFit, .ref a_cameThen, .long 0, .ref a_images, .ref a_imageForce, .ref a_imageX, .ref a_isMade])), (a_tape, .inl (cy 2, 400, .inl (u_3)))] H := hP
  have hD : va_D A [(m0, .inr (12, [.ref a_tape, .int 12, .int 0, .ref a_sign, .ref a_length, .ref a_clause, .ref a_clauses, .ref a_read, .int 0, .int 0, .int 0, .int 0, .int 0, .int 0, .int 0, .ref a_open, .int 0, .ref a_stack, .int 0, .ref a_word, .ref a_said, .int (-1), .int 0, .int (-1), .ref a_planned, .ref a_cameOf, .ref a_wasSaid, .int 0, .ref a_kept, .ref a_rowNow, .ref a_rowBest, .ref a_hasBy, .ref a_isFit, .ref a_cameThen, .long 0, .ref a_images, .ref a_imageForce, .ref a_imageX, .ref a_isMade])), (a_tape, .inl (cy 2, 400, .inl (u_3)))] := hD
  refine lv_aload_n hx hb dX12_feed_30 rfl (lv_at hl 0 rfl) ?_
  refine lv_iload hx hb dX12_feed_31 (lv_at hl 4 rfl) ?_
  refine kwVV (wr := []) (As := [.int x3]) (rest := []) F hE hP hD hS hA hl.1 (c_four12 l D cy (m0 := m0) (x0 := x3) (a_tape := a_tape) (a_sign := a_sign) (a_length := a_length) (a_clause := a_clause) (a_clauses := a_clauses) (a_read := a_read) (a_open := a_open) (a_stack := a_stack) (a_word := a_word) (a_said := a_said) (a_planned := a_planned) (a_cameOf := a_cameOf) (a_wasSaid := a_wasSaid) (a_kept := a_kept) (a_rowNow := a_rowNow) (a_rowBest := a_rowBest) (a_hasBy := a_hasBy) (a_isFit := a_isFit) (a_cameThen := a_cameThen) (a_images := a_images) (a_imageForce := a_imageForce) (a_imageX := a_imageX) (a_isMade := a_isMade) (fb := u_3)) q_m_X12_92 mv_X12_four ⟨(Nat.le_of_ble_eq_true rfl), (Nat.le_of_ble_eq_true rfl)⟩ [0, 1] [] (by decide) rfl rfl (by decide) (by decide) rfl rfl rfl rfl rfl (Nat.le_of_ble_eq_true rfl) ⟨(Nat.le_of_ble_eq_true rfl), (Nat.le_of_ble_eq_true rfl)⟩ dX12_feed_33 (fun u_4 H locs eu_4 hP hD hS => ?_)
  have hP : va_P D vwCl [(m0, .inr (12, [.ref a_tape, .int 16, .int 0, .ref a_sign, .ref a_length, .ref a_clause, .ref a_clauses, .ref a_read, .int 0, .int 0, .int 0, .int 0, .int 0, .int 0, .int 0, .ref a_open, .int 0, .ref a_stack, .int 0, .ref a_word, .ref a_said, .int (-1), .int 0, .int (-1), .ref a_planned, .ref a_cameOf, .ref a_wasSaid, .int 0, .ref a_kept, .ref a_rowNow, .ref a_rowBest, .ref a_hasBy, .ref a_isFit, .ref a_cameThen, .long 0, .ref a_images, .ref a_imageForce, .ref a_imageX, .ref a_isMade])), (a_tape, .inl (cy 2, 400, .inl (u_4)))] H := hP
  have hD : va_D A [(m0, .inr (12, [.ref a_tape, .int 16, .int 0, .ref a_sign, .ref a_length, .ref a_clause, .ref a_clauses, .ref a_read, .int 0, .int 0, .int 0, .int 0, .int 0, .int 0, .int 0, .ref a_open, .int 0, .ref a_stack, .int 0, .ref a_word, .ref a_said, .int (-1), .int 0, .int (-1), .ref a_planned, .ref a_cameOf, .ref a_wasSaid, .int 0, .ref a_kept, .ref a_rowNow, .ref a_rowBest, .ref a_hasBy, .ref a_isFit, .ref a_cameThen, .long 0, .ref a_images, .ref a_imageForce, .ref a_imageX, .ref a_isMade])), (a_tape, .inl (cy 2, 400, .inl (u_4)))] := hD
  refine lv_aload_n hx hb dX12_feed_36 rfl (lv_at hl 0 rfl) ?_
  refine lv_iload hx hb dX12_feed_37 (lv_at hl 5 rfl) ?_
  refine kwVV (wr := []) (As := [.int x4]) (rest := []) F hE hP hD hS hA hl.1 (c_four16 l D cy (m0 := m0) (x0 := x4) (a_tape := a_tape) (a_sign := a_sign) (a_length := a_length) (a_clause := a_clause) (a_clauses := a_clauses) (a_read := a_read) (a_open := a_open) (a_stack := a_stack) (a_word := a_word) (a_said := a_said) (a_planned := a_planned) (a_cameOf := a_cameOf) (a_wasSaid := a_wasSaid) (a_kept := a_kept) (a_rowNow := a_rowNow) (a_rowBest := a_rowBest) (a_hasBy := a_hasBy) (a_isFit := a_isFit) (a_cameThen := a_cameThen) (a_images := a_images) (a_imageForce := a_imageForce) (a_imageX := a_imageX) (a_isMade := a_isMade) (fb := u_4)) q_m_X12_92 mv_X12_four ⟨(Nat.le_of_ble_eq_true rfl), (Nat.le_of_ble_eq_true rfl)⟩ [0, 1] [] (by decide) rfl rfl (by decide) (by decide) rfl rfl rfl rfl rfl (Nat.le_of_ble_eq_true rfl) ⟨(Nat.le_of_ble_eq_true rfl), (Nat.le_of_ble_eq_true rfl)⟩ dX12_feed_39 (fun u_5 H locs eu_5 hP hD hS => ?_)
  have hP : va_P D vwCl [(m0, .inr (12, [.ref a_tape, .int 20, .int 0, .ref a_sign, .ref a_length, .ref a_clause, .ref a_clauses, .ref a_read, .int 0, .int 0, .int 0, .int 0, .int 0, .int 0, .int 0, .ref a_open, .int 0, .ref a_stack, .int 0, .ref a_word, .ref a_said, .int (-1), .int 0, .int (-1), .ref a_planned, .ref a_cameOf, .ref a_wasSaid, .int 0, .ref a_kept, .ref a_rowNow, .ref a_rowBest, .ref a_hasBy, .ref a_isFit, .ref a_cameThen, .long 0, .ref a_images, .ref a_imageForce, .ref a_imageX, .ref a_isMade])), (a_tape, .inl (cy 2, 400, .inl (u_5)))] H := hP
  have hD : va_D A [(m0, .inr (12, [.ref a_tape, .int 20, .int 0, .ref a_sign, .ref a_length, .ref a_clause, .ref a_clauses, .ref a_read, .int 0, .int 0, .int 0, .int 0, .int 0, .int 0, .int 0, .ref a_open, .int 0, .ref a_stack, .int 0, .ref a_word, .ref a_said, .int (-1), .int 0, .int (-1), .ref a_planned, .ref a_cameOf, .ref a_wasSaid, .int 0, .ref a_kept, .ref a_rowNow, .ref a_rowBest, .ref a_hasBy, .ref a_isFit, .ref a_cameThen, .long 0, .ref a_images, .ref a_imageForce, .ref a_imageX, .ref a_isMade])), (a_tape, .inl (cy 2, 400, .inl (u_5)))] := hD
  refine lv_aload_n hx hb dX12_feed_42 rfl (lv_at hl 0 rfl) ?_
  refine va_get (D := D) (ci := 12) (v := .int 20) (C := RX12) (T := TX12) (N := 39) hx hb hG inG_X12 hown hE.1 hP 0 rfl rfl 1 (by decide) (hG _ q_f_X12_89) (fun _ h9 => h9) rfl dX12_feed_43 ?_
  exact KI.rt () F rfl (hP.sub [] rfl) (hD.sub [] (by decide) rfl) hS (rfl) (Nat.le_of_ble_eq_true rfl) (Nat.le_of_ble_eq_true rfl) dX12_feed_46

set_option maxHeartbeats 4000000 in
set_option maxRecDepth 100000 in
theorem m_end (l : Launch) (D : va_G) (cy : Nat → ClassId) (m0 a_tape a_sign a_length a_clause a_clauses a_read a_open a_stack a_word a_said a_planned a_cameOf a_wasSaid a_kept a_rowNow a_rowBest a_hasBy a_isFit a_cameThen a_images a_imageForce a_imageX a_isMade : Nat) (x0 : Int32) : KI l yX12_end cX12_end 2 (some .int) 0 0 D (kTY cy) [.ref m0, .int x0] [(m0, .inr (12, [.ref a_tape, .int 0, .int 0, .ref a_sign, .ref a_length, .ref a_clause, .ref a_clauses, .ref a_read, .int 0, .int 0, .int 0, .int 0, .int 0, .int 0, .int 0, .ref a_open, .int 0, .ref a_stack, .int 0, .ref a_word, .ref a_said, .int (-1), .int 0, .int (-1), .ref a_planned, .ref a_cameOf, .ref a_wasSaid, .int 0, .ref a_kept, .ref a_rowNow, .ref a_rowBest, .ref a_hasBy, .ref a_isFit, .ref a_cameThen, .long 0, .ref a_images, .ref a_imageForce, .ref a_imageX, .ref a_isMade]))] (S := Unit) (fun r _ => r = if x0 < 0 ∨ 0 < x0 then -1 else x0) (fun _ => []) 0 0 := by
  refine KI.of (by decide) (Nat.le_of_ble_eq_true rfl) (fun p e s m below meth c ls A F hE hP hD hA hS hl => ?_)
  have F : kF p s m meth c cX12_end 2 (some .int) _ RX12 := F
  obtain ⟨hx, hb, hr, hml, hown, hG, hlk⟩ := id F
  have hl : lv_has ls 2 [(0, .ref m0), (1, .int x0)] := hl
  refine lv_iload_n hx hb dX12_end_0 rfl (lv_at hl 1 rfl) ?_
  refine lv_if_lt (tgt := 12) hx hb dX12_end_1 (by decide) (fun c_1 => ?_) (fun c_1 => ?_)
  · refine lv_iconst (v := (-1)) hx hb dX12_end_12 (by decide) ?_
    exact KI.rt () F rfl (hP.sub [] rfl) (hD.sub [] (by decide) rfl) hS (by rw [if_pos (Or.inl c_1)]) (Nat.le_of_ble_eq_true rfl) (Nat.le_of_ble_eq_true rfl) dX12_end_13
  · refine lv_iload_n hx hb dX12_end_4 rfl (lv_at hl 1 rfl) ?_
    refine lv_aload_n hx hb dX12_end_5 rfl (lv_at hl 0 rfl) ?_
    refine va_get (D := D) (ci := 12) (v := .int 0) (C := RX12) (T := TX12) (N := 39) hx hb hG inG_X12 hown hE.1 hP 0 rfl rfl 1 (by decide) (hG _ q_f_X12_89) (fun _ h9 => h9) rfl dX12_end_6 ?_
    refine lv_icmp_le (tgt := 14) hx hb dX12_end_9 (by decide) (fun c_2 => ?_) (fun c_2 => ?_)
    · refine lv_aload_n hx hb dX12_end_14 rfl (lv_at hl 0 rfl) ?_
      refine lv_iload_n hx hb dX12_end_15 rfl (lv_at hl 1 rfl) ?_
      refine va_put (D := D) (ci := 12) (v := .int x0) (ty := .int) (C := RX12) (T := TX12) (N := 39) hx hb hG inG_X12 tyX12 tyX12_ok nmX12 hown hE.1 hP hD hS 0 rfl rfl 1 (by decide) (hG _ q_f_X12_89) (fun _ h9 => h9) rfl (by decide +kernel) rfl rfl (Nat.le_of_ble_eq_true rfl) dX12_end_16 (fun H locs hP hD hS => ?_)
      have hP : va_P D vwCl [(m0, .inr (12, [.ref a_tape, .int x0, .int 0, .ref a_sign, .ref a_length, .ref a_clause, .ref a_clauses, .ref a_read, .int 0, .int 0, .int 0, .int 0, .int 0, .int 0, .int 0, .ref a_open, .int 0, .ref a_stack, .int 0, .ref a_word, .ref a_said, .int (-1), .int 0, .int (-1), .ref a_planned, .ref a_cameOf, .ref a_wasSaid, .int 0, .ref a_kept, .ref a_rowNow, .ref a_rowBest, .ref a_hasBy, .ref a_isFit, .ref a_cameThen, .long 0, .ref a_images, .ref a_imageForce, .ref a_imageX, .ref a_isMade]))] H := hP
      have hD : va_D A [(m0, .inr (12, [.ref a_tape, .int x0, .int 0, .ref a_sign, .ref a_length, .ref a_clause, .ref a_clauses, .ref a_read, .int 0, .int 0, .int 0, .int 0, .int 0, .int 0, .int 0, .ref a_open, .int 0, .ref a_stack, .int 0, .ref a_word, .ref a_said, .int (-1), .int 0, .int (-1), .ref a_planned, .ref a_cameOf, .ref a_wasSaid, .int 0, .ref a_kept, .ref a_rowNow, .ref a_rowBest, .ref a_hasBy, .ref a_isFit, .ref a_cameThen, .long 0, .ref a_images, .ref a_imageForce, .ref a_imageX, .ref a_isMade]))] := hD
      refine lv_iload_n hx hb dX12_end_19 rfl (lv_at hl 1 rfl) ?_
      exact KI.rt () F rfl (hP.sub [] rfl) (hD.sub [] (by decide) rfl) hS (by rw [if_neg (fun q => q.elim c_1 (Int32.not_lt.mpr c_2))]) (Nat.le_of_ble_eq_true rfl) (Nat.le_of_ble_eq_true rfl) dX12_end_20
    · refine lv_iconst (v := (-1)) hx hb dX12_end_12 (by decide) ?_
      exact KI.rt () F rfl (hP.sub [] rfl) (hD.sub [] (by decide) rfl) hS (by rw [if_pos (Or.inr (Int32.not_le.mp c_2))]) (Nat.le_of_ble_eq_true rfl) (Nat.le_of_ble_eq_true rfl) dX12_end_13

theorem k_m1 (x : Int32) : (x < -1 ∨ -1 < x) ↔ ¬ x = -1 := by
  have h1 : (-1 : Int32).toInt = -1 := by decide
  rw [Int32.lt_iff_toInt_lt, Int32.lt_iff_toInt_lt, ← Int32.toInt_inj, h1]
  omega
theorem k_wd (x : Int32) : ((x.toInt64 < 0) ∨ (3 : Int64) < x.toInt64) ↔ (x < 0 ∨ 3 < x) := by
  have h0 : (0 : Int32).toInt = 0 := by decide
  have h3 : (3 : Int32).toInt = 3 := by decide
  have g0 : (0 : Int64).toInt = 0 := by decide
  have g3 : (3 : Int64).toInt = 3 := by decide
  rw [Int64.lt_iff_toInt_lt, Int64.lt_iff_toInt_lt, Int32.lt_iff_toInt_lt, Int32.lt_iff_toInt_lt, Int32.toInt_toInt64, h0, h3, g0, g3]

set_option maxHeartbeats 4000000 in
set_option maxRecDepth 100000 in
theorem m_force (l : Launch) (D : va_G) (cy : Nat → ClassId) (m0 a_tape a_sign a_length a_clause a_clauses a_read a_open a_stack a_word a_said a_planned a_cameOf a_wasSaid a_kept a_rowNow a_rowBest a_hasBy a_isFit a_cameThen a_images a_imageForce a_imageX a_isMade : Nat) (x0 : Int32) : KI l yX12_force cX12_force 3 (some .int) 1 21 D (kTY cy) [.ref m0, .int x0] [(m0, .inr (12, [.ref a_tape, .int 0, .int 0, .ref a_sign, .ref a_length, .ref a_clause, .ref a_clauses, .ref a_read, .int 0, .int 0, .int 0, .int 0, .int 0, .int 0, .int 0, .ref a_open, .int 0, .ref a_stack, .int 0, .ref a_word, .ref a_said, .int (-1), .int 0, .int (-1), .ref a_planned, .ref a_cameOf, .ref a_wasSaid, .int 0, .ref a_kept, .ref a_rowNow, .ref a_rowBest, .ref a_hasBy, .ref a_isFit, .ref a_cameThen, .long 0, .ref a_images, .ref a_imageForce, .ref a_imageX, .ref a_isMade]))] (S := Unit) (fun r _ => r = if x0 < -1 ∨ -1 < x0 then -2 else -1) (fun _ => []) 0 0 := by
  refine KI.of (by decide) (Nat.le_of_ble_eq_true rfl) (fun p e s m below meth c ls A F hE hP hD hA hS hl => ?_)
  have F : kF p s m meth c cX12_force 3 (some .int) _ RX12 := F
  obtain ⟨hx, hb, hr, hml, hown, hG, hlk⟩ := id F
  have hl : lv_has ls 3 [(0, .ref m0), (1, .int x0)] := hl
  refine lv_iload_n hx hb dX12_force_0 rfl (lv_at hl 1 rfl) ?_
  refine lv_iconst (v := (-1)) hx hb dX12_force_1 (by decide) ?_
  refine lv_icmp_eq (tgt := 16) hx hb dX12_force_2 (by decide) (fun c_1 => ?_) (fun c_1 => ?_)
  · refine lv_aload_n hx hb dX12_force_16 rfl (lv_at hl 0 rfl) ?_
    refine va_get (D := D) (ci := 12) (v := .int (-1)) (C := RX12) (T := TX12) (N := 39) hx hb hG inG_X12 hown hE.1 hP 0 rfl rfl 21 (by decide) (hG _ q_f_X12_42) (fun _ h9 => h9) rfl dX12_force_17 ?_
    refine lv_istore_n (lv' := [(2, .int (-1)), (0, .ref m0), (1, .int x0)]) hx hb dX12_force_20 rfl hl (by decide) rfl (fun ls hl => ?_)
    refine lv_aload_n hx hb dX12_force_21 rfl (lv_at hl 1 rfl) ?_
    refine lv_iload_n hx hb dX12_force_22 rfl (lv_at hl 2 rfl) ?_
    refine va_put (D := D) (ci := 12) (v := .int x0) (ty := .int) (C := RX12) (T := TX12) (N := 39) hx hb hG inG_X12 tyX12 tyX12_ok nmX12 hown hE.1 hP hD hS 0 rfl rfl 21 (by decide) (hG _ q_f_X12_42) (fun _ h9 => h9) rfl (by decide +kernel) rfl rfl (Nat.le_of_ble_eq_true rfl) dX12_force_23 (fun H locs hP hD hS => ?_)
    have hP : va_P D vwCl [(m0, .inr (12, [.ref a_tape, .int 0, .int 0, .ref a_sign, .ref a_length, .ref a_clause, .ref a_clauses, .ref a_read, .int 0, .int 0, .int 0, .int 0, .int 0, .int 0, .int 0, .ref a_open, .int 0, .ref a_stack, .int 0, .ref a_word, .ref a_said, .int x0, .int 0, .int (-1), .ref a_planned, .ref a_cameOf, .ref a_wasSaid, .int 0, .ref a_kept, .ref a_rowNow, .ref a_rowBest, .ref a_hasBy, .ref a_isFit, .ref a_cameThen, .long 0, .ref a_images, .ref a_imageForce, .ref a_imageX, .ref a_isMade]))] H := hP
    have hD : va_D A [(m0, .inr (12, [.ref a_tape, .int 0, .int 0, .ref a_sign, .ref a_length, .ref a_clause, .ref a_clauses, .ref a_read, .int 0, .int 0, .int 0, .int 0, .int 0, .int 0, .int 0, .ref a_open, .int 0, .ref a_stack, .int 0, .ref a_word, .ref a_said, .int x0, .int 0, .int (-1), .ref a_planned, .ref a_cameOf, .ref a_wasSaid, .int 0, .ref a_kept, .ref a_rowNow, .ref a_rowBest, .ref a_hasBy, .ref a_isFit, .ref a_cameThen, .long 0, .ref a_images, .ref a_imageForce, .ref a_imageX, .ref a_isMade]))] := hD
    refine lv_iload_n hx hb dX12_force_26 rfl (lv_at hl 0 rfl) ?_
    exact KI.rt () F rfl (hP.sub [] rfl) (hD.sub [] (by decide) rfl) hS (by rw [if_neg (fun q => (k_m1 _).mp q c_1)]) (Nat.le_of_ble_eq_true rfl) (Nat.le_of_ble_eq_true rfl) dX12_force_27
  · refine lv_aload_n hx hb dX12_force_5 rfl (lv_at hl 0 rfl) ?_
    refine lv_iload_n hx hb dX12_force_6 rfl (lv_at hl 1 rfl) ?_
    refine kcV (As := [.int x0]) (rest := []) F hE hP hl.1 (c_isRule l D cy (m0 := m0) (x0 := x0) (a_tape := a_tape) (a_sign := a_sign) (a_length := a_length) (a_clause := a_clause) (a_clauses := a_clauses) (a_read := a_read) (a_open := a_open) (a_stack := a_stack) (a_word := a_word) (a_said := a_said) (a_planned := a_planned) (a_cameOf := a_cameOf) (a_wasSaid := a_wasSaid) (a_kept := a_kept) (a_rowNow := a_rowNow) (a_rowBest := a_rowBest) (a_hasBy := a_hasBy) (a_isFit := a_isFit) (a_cameThen := a_cameThen) (a_images := a_images) (a_imageForce := a_imageForce) (a_imageX := a_imageX) (a_isMade := a_isMade)) q_m_X12_306 mv_X12_isRule ⟨(Nat.le_of_ble_eq_true rfl), (Nat.le_of_ble_eq_true rfl)⟩ [0] rfl rfl rfl rfl rfl rfl (Nat.le_of_ble_eq_true rfl) ⟨(Nat.le_of_ble_eq_true rfl), (Nat.le_of_ble_eq_true rfl)⟩ dX12_force_7 (fun r_2 er_2 => ?_)
    subst er_2
    refine lv_if_ne (tgt := 16) hx hb dX12_force_10 (by decide) (fun q => absurd q (by decide)) (fun _ => ?_)
    refine lv_bipush (v := (-2)) hx hb dX12_force_13 (by decide) ?_
    exact KI.rt () F rfl (hP.sub [] rfl) (hD.sub [] (by decide) rfl) hS (by rw [if_pos ((k_m1 _).mpr c_1)]) (Nat.le_of_ble_eq_true rfl) (Nat.le_of_ble_eq_true rfl) dX12_force_15

set_option maxHeartbeats 4000000 in
set_option maxRecDepth 100000 in
theorem m_seed (l : Launch) (D : va_G) (cy : Nat → ClassId) (m0 a_tape a_sign a_length a_clause a_clauses a_read a_open a_stack a_word a_said a_planned a_cameOf a_wasSaid a_kept a_rowNow a_rowBest a_hasBy a_isFit a_cameThen a_images a_imageForce a_imageX a_isMade : Nat) (x0 : Int32) : KI l yX12_seed cX12_seed 3 (some .int) 0 0 D (kTY cy) [.ref m0, .int x0] [(m0, .inr (12, [.ref a_tape, .int 0, .int 0, .ref a_sign, .ref a_length, .ref a_clause, .ref a_clauses, .ref a_read, .int 0, .int 0, .int 0, .int 0, .int 0, .int 0, .int 0, .ref a_open, .int 0, .ref a_stack, .int 0, .ref a_word, .ref a_said, .int (-1), .int 0, .int (-1), .ref a_planned, .ref a_cameOf, .ref a_wasSaid, .int 0, .ref a_kept, .ref a_rowNow, .ref a_rowBest, .ref a_hasBy, .ref a_isFit, .ref a_cameThen, .long 0, .ref a_images, .ref a_imageForce, .ref a_imageX, .ref a_isMade]))] (S := Unit) (fun r _ => r = if x0 < 0 then -1 else 0) (fun _ => []) 0 0 := by
  refine KI.of (by decide) (Nat.le_of_ble_eq_true rfl) (fun p e s m below meth c ls A F hE hP hD hA hS hl => ?_)
  have F : kF p s m meth c cX12_seed 3 (some .int) _ RX12 := F
  obtain ⟨hx, hb, hr, hml, hown, hG, hlk⟩ := id F
  have hl : lv_has ls 3 [(0, .ref m0), (1, .int x0)] := hl
  refine lv_iload_n hx hb dX12_seed_0 rfl (lv_at hl 1 rfl) ?_
  refine lv_if_ge (tgt := 6) hx hb dX12_seed_1 (by decide) (fun c_1 => ?_) (fun c_1 => ?_)
  · refine lv_aload_n hx hb dX12_seed_6 rfl (lv_at hl 0 rfl) ?_
    refine va_get (D := D) (ci := 12) (v := .int 0) (C := RX12) (T := TX12) (N := 39) hx hb hG inG_X12 hown hE.1 hP 0 rfl rfl 22 (by decide) (hG _ q_f_X12_442) (fun _ h9 => h9) rfl dX12_seed_7 ?_
    refine lv_istore_n (lv' := [(2, .int 0), (0, .ref m0), (1, .int x0)]) hx hb dX12_seed_10 rfl hl (by decide) rfl (fun ls hl => ?_)
    refine lv_aload_n hx hb dX12_seed_11 rfl (lv_at hl 1 rfl) ?_
    refine lv_iload_n hx hb dX12_seed_12 rfl (lv_at hl 2 rfl) ?_
    refine va_put (D := D) (ci := 12) (v := .int x0) (ty := .int) (C := RX12) (T := TX12) (N := 39) hx hb hG inG_X12 tyX12 tyX12_ok nmX12 hown hE.1 hP hD hS 0 rfl rfl 22 (by decide) (hG _ q_f_X12_442) (fun _ h9 => h9) rfl (by decide +kernel) rfl rfl (Nat.le_of_ble_eq_true rfl) dX12_seed_13 (fun H locs hP hD hS => ?_)
    have hP : va_P D vwCl [(m0, .inr (12, [.ref a_tape, .int 0, .int 0, .ref a_sign, .ref a_length, .ref a_clause, .ref a_clauses, .ref a_read, .int 0, .int 0, .int 0, .int 0, .int 0, .int 0, .int 0, .ref a_open, .int 0, .ref a_stack, .int 0, .ref a_word, .ref a_said, .int (-1), .int x0, .int (-1), .ref a_planned, .ref a_cameOf, .ref a_wasSaid, .int 0, .ref a_kept, .ref a_rowNow, .ref a_rowBest, .ref a_hasBy, .ref a_isFit, .ref a_cameThen, .long 0, .ref a_images, .ref a_imageForce, .ref a_imageX, .ref a_isMade]))] H := hP
    have hD : va_D A [(m0, .inr (12, [.ref a_tape, .int 0, .int 0, .ref a_sign, .ref a_length, .ref a_clause, .ref a_clauses, .ref a_read, .int 0, .int 0, .int 0, .int 0, .int 0, .int 0, .int 0, .ref a_open, .int 0, .ref a_stack, .int 0, .ref a_word, .ref a_said, .int (-1), .int x0, .int (-1), .ref a_planned, .ref a_cameOf, .ref a_wasSaid, .int 0, .ref a_kept, .ref a_rowNow, .ref a_rowBest, .ref a_hasBy, .ref a_isFit, .ref a_cameThen, .long 0, .ref a_images, .ref a_imageForce, .ref a_imageX, .ref a_isMade]))] := hD
    refine lv_iload_n hx hb dX12_seed_16 rfl (lv_at hl 0 rfl) ?_
    exact KI.rt () F rfl (hP.sub [] rfl) (hD.sub [] (by decide) rfl) hS (by first | (rw [if_neg (Int32.not_lt.mpr c_1)]; done) | (rw [if_pos (Int32.not_le.mp c_1)]; done) | (rw [if_pos c_1]; done) | (rw [if_neg c_1]; done)) (Nat.le_of_ble_eq_true rfl) (Nat.le_of_ble_eq_true rfl) dX12_seed_17
  · refine lv_iconst (v := (-1)) hx hb dX12_seed_4 (by decide) ?_
    exact KI.rt () F rfl (hP.sub [] rfl) (hD.sub [] (by decide) rfl) hS (by first | (rw [if_neg (Int32.not_lt.mpr c_1)]; done) | (rw [if_pos (Int32.not_le.mp c_1)]; done) | (rw [if_pos c_1]; done) | (rw [if_neg c_1]; done)) (Nat.le_of_ble_eq_true rfl) (Nat.le_of_ble_eq_true rfl) dX12_seed_5

set_option maxHeartbeats 4000000 in
set_option maxRecDepth 100000 in
theorem m_note (l : Launch) (D : va_G) (cy : Nat → ClassId) (m0 a_tape a_sign a_length a_clause a_clauses a_read a_open a_stack a_word a_said a_planned a_cameOf a_wasSaid a_kept a_rowNow a_rowBest a_hasBy a_isFit a_cameThen a_images a_imageForce a_imageX a_isMade : Nat) (x0 : Int32) (x1 : Int32) (x2 : Int32) : KI l yX12_note cX12_note 5 (some .int) 1 25 D (kTY cy) [.ref m0, .int x0, .int x1, .int x2] [(m0, .inr (12, [.ref a_tape, .int 0, .int 0, .ref a_sign, .ref a_length, .ref a_clause, .ref a_clauses, .ref a_read, .int 0, .int 0, .int 0, .int 0, .int 0, .int 0, .int 0, .ref a_open, .int 0, .ref a_stack, .int 0, .ref a_word, .ref a_said, .int (-1), .int 0, .int (-1), .ref a_planned, .ref a_cameOf, .ref a_wasSaid, .int 0, .ref a_kept, .ref a_rowNow, .ref a_rowBest, .ref a_hasBy, .ref a_isFit, .ref a_cameThen, .long 0, .ref a_images, .ref a_imageForce, .ref a_imageX, .ref a_isMade])), (a_said, .inl (cy 0, 115, .inl (fun _ => 0)))] (S := Unit) (fun r _ => r = if x0 = -1 then 0 else -2) (fun _ => []) 0 0 := by
  refine KI.of (by decide) (Nat.le_of_ble_eq_true rfl) (fun p e s m below meth c ls A F hE hP hD hA hS hl => ?_)
  have F : kF p s m meth c cX12_note 5 (some .int) _ RX12 := F
  obtain ⟨hx, hb, hr, hml, hown, hG, hlk⟩ := id F
  have hl : lv_has ls 5 [(0, .ref m0), (1, .int x0), (2, .int x1), (3, .int x2)] := hl
  refine lv_iload_n hx hb dX12_note_0 rfl (lv_at hl 1 rfl) ?_
  refine lv_iconst (v := (-1)) hx hb dX12_note_1 (by decide) ?_
  refine lv_icmp_ne (tgt := 15) hx hb dX12_note_2 (by decide) (fun c_1 => ?_) (fun c_1 => ?_)
  · refine lv_iload_n hx hb dX12_note_15 rfl (lv_at hl 1 rfl) ?_
    refine lv_i2l hx hb dX12_note_16 rfl ?_
    refine lv_lconst (v := 0) hx hb dX12_note_17 (by decide) ?_
    refine lv_ldc2 hx hb hown (hG _ q_q_X12_404) dX12_note_18 ?_
    refine kcS (As := [.long ((x0).toInt64), .long 0, .long 40]) (rest := []) F hE hP hl.1 (c_in l D cy (v0 := ((x0).toInt64)) (v1 := 0) (v2 := 40)) q_m_X12_127 ms_X12_in ⟨(Nat.le_of_ble_eq_true rfl), (Nat.le_of_ble_eq_true rfl)⟩ [] rfl rfl rfl (Nat.le_of_ble_eq_true rfl) ⟨(Nat.le_of_ble_eq_true rfl), (Nat.le_of_ble_eq_true rfl)⟩ dX12_note_21 (fun r_2 er_2 => ?_)
    refine lv_if_eq (tgt := 73) hx hb dX12_note_24 (by decide) (fun c_3 => ?_) (fun c_3 => ?_)
    · refine lv_bipush (v := (-2)) hx hb dX12_note_73 (by decide) ?_
      exact KI.rt () F rfl (hP.sub [] rfl) (hD.sub [] (by decide) rfl) hS (by first | (rw [if_pos c_1]; done) | (rw [if_neg c_1]; done)) (Nat.le_of_ble_eq_true rfl) (Nat.le_of_ble_eq_true rfl) dX12_note_75
    · refine lv_aload_n hx hb dX12_note_27 rfl (lv_at hl 0 rfl) ?_
      refine lv_iload_n hx hb dX12_note_28 rfl (lv_at hl 2 rfl) ?_
      refine kcV (As := [.int x1]) (rest := []) F hE hP hl.1 (c_isArcher l D cy (m0 := m0) (x0 := x1) (a_tape := a_tape) (a_sign := a_sign) (a_length := a_length) (a_clause := a_clause) (a_clauses := a_clauses) (a_read := a_read) (a_open := a_open) (a_stack := a_stack) (a_word := a_word) (a_said := a_said) (a_planned := a_planned) (a_cameOf := a_cameOf) (a_wasSaid := a_wasSaid) (a_kept := a_kept) (a_rowNow := a_rowNow) (a_rowBest := a_rowBest) (a_hasBy := a_hasBy) (a_isFit := a_isFit) (a_cameThen := a_cameThen) (a_images := a_images) (a_imageForce := a_imageForce) (a_imageX := a_imageX) (a_isMade := a_isMade)) q_m_X12_314 mv_X12_isArcher ⟨(Nat.le_of_ble_eq_true rfl), (Nat.le_of_ble_eq_true rfl)⟩ [0, 1] rfl rfl rfl rfl rfl rfl (Nat.le_of_ble_eq_true rfl) ⟨(Nat.le_of_ble_eq_true rfl), (Nat.le_of_ble_eq_true rfl)⟩ dX12_note_29 (fun r_4 er_4 => ?_)
      subst er_4
      refine lv_if_eq (tgt := 73) hx hb dX12_note_32 (by decide) (fun _ => ?_) (fun q => absurd q (by decide))
      refine lv_bipush (v := (-2)) hx hb dX12_note_73 (by decide) ?_
      exact KI.rt () F rfl (hP.sub [] rfl) (hD.sub [] (by decide) rfl) hS (by first | (rw [if_pos c_1]; done) | (rw [if_neg c_1]; done)) (Nat.le_of_ble_eq_true rfl) (Nat.le_of_ble_eq_true rfl) dX12_note_75
  · refine lv_aload_n hx hb dX12_note_5 rfl (lv_at hl 0 rfl) ?_
    refine va_get (D := D) (ci := 12) (v := .ref a_said) (C := RX12) (T := TX12) (N := 39) hx hb hG inG_X12 hown hE.1 hP 0 rfl rfl 20 (by decide) (hG _ q_f_X12_39) (fun _ h9 => h9) rfl dX12_note_6 ?_
    refine lv_bipush (v := 114) hx hb dX12_note_9 (by decide) ?_
    refine lv_iconst (v := 0) hx hb dX12_note_11 (by decide) ?_
    refine va_iast hx hb hE.1 hP hD hS 1 0 rfl rfl (by unfold vp_in; decide) dX12_note_12 (fun H locs hP hD hS => ?_)
    rw [k_upd0] at hP hD
    have hP : va_P D vwCl [(m0, .inr (12, [.ref a_tape, .int 0, .int 0, .ref a_sign, .ref a_length, .ref a_clause, .ref a_clauses, .ref a_read, .int 0, .int 0, .int 0, .int 0, .int 0, .int 0, .int 0, .ref a_open, .int 0, .ref a_stack, .int 0, .ref a_word, .ref a_said, .int (-1), .int 0, .int (-1), .ref a_planned, .ref a_cameOf, .ref a_wasSaid, .int 0, .ref a_kept, .ref a_rowNow, .ref a_rowBest, .ref a_hasBy, .ref a_isFit, .ref a_cameThen, .long 0, .ref a_images, .ref a_imageForce, .ref a_imageX, .ref a_isMade])), (a_said, .inl (cy 0, 115, .inl (fun _ => 0)))] H := hP
    have hD : va_D A [(m0, .inr (12, [.ref a_tape, .int 0, .int 0, .ref a_sign, .ref a_length, .ref a_clause, .ref a_clauses, .ref a_read, .int 0, .int 0, .int 0, .int 0, .int 0, .int 0, .int 0, .ref a_open, .int 0, .ref a_stack, .int 0, .ref a_word, .ref a_said, .int (-1), .int 0, .int (-1), .ref a_planned, .ref a_cameOf, .ref a_wasSaid, .int 0, .ref a_kept, .ref a_rowNow, .ref a_rowBest, .ref a_hasBy, .ref a_isFit, .ref a_cameThen, .long 0, .ref a_images, .ref a_imageForce, .ref a_imageX, .ref a_isMade])), (a_said, .inl (cy 0, 115, .inl (fun _ => 0)))] := hD
    refine lv_iconst (v := 0) hx hb dX12_note_13 (by decide) ?_
    exact KI.rt () F rfl (hP.sub [] rfl) (hD.sub [] (by decide) rfl) hS (by first | (rw [if_pos c_1]; done) | (rw [if_neg c_1]; done)) (Nat.le_of_ble_eq_true rfl) (Nat.le_of_ble_eq_true rfl) dX12_note_14

set_option maxHeartbeats 4000000 in
set_option maxRecDepth 100000 in
theorem c_see (l : Launch) (D : va_G) (cy : Nat → ClassId) (m0 a_tape a_sign a_length a_clause a_clauses a_read a_open a_stack a_word a_said a_planned a_cameOf a_wasSaid a_kept a_rowNow a_rowBest a_hasBy a_isFit a_cameThen a_images a_imageForce a_imageX a_isMade : Nat) (tx : Int32) : KP l yX12_see cX12_see 1 (some .int) 0 0 D (kTY cy) [.ref m0] [(m0, .inr (12, [.ref a_tape, .int 0, .int 0, .ref a_sign, .ref a_length, .ref a_clause, .ref a_clauses, .ref a_read, .int 0, .int 0, .int 0, .int tx, .int 0, .int 0, .int 0, .ref a_open, .int 0, .ref a_stack, .int 0, .ref a_word, .ref a_said, .int (-1), .int 0, .int (-1), .ref a_planned, .ref a_cameOf, .ref a_wasSaid, .int 0, .ref a_kept, .ref a_rowNow, .ref a_rowBest, .ref a_hasBy, .ref a_isFit, .ref a_cameThen, .long 0, .ref a_images, .ref a_imageForce, .ref a_imageX, .ref a_isMade]))] (fun r => r = -1) := by
  refine KP.of (by decide) (Nat.le_of_ble_eq_true rfl) (fun p e s m below meth c ls F hE hP hl => ?_)
  have F : kF p s m meth c cX12_see 1 (some .int) _ RX12 := F
  obtain ⟨hx, hb, hr, hml, hown, hG, hlk⟩ := id F
  have hl : lv_has ls 1 [(0, .ref m0)] := hl
  refine lv_aload_n hx hb dX12_see_0 rfl (lv_at hl 0 rfl) ?_
  refine va_get (D := D) (ci := 12) (v := .int 0) (C := RX12) (T := TX12) (N := 39) hx hb hG inG_X12 hown hE.1 hP 0 rfl rfl 8 (by decide) (hG _ q_f_X12_99) (fun _ h9 => h9) rfl dX12_see_1 ?_
  refine lv_aload_n hx hb dX12_see_4 rfl (lv_at hl 0 rfl) ?_
  refine va_get (D := D) (ci := 12) (v := .int 0) (C := RX12) (T := TX12) (N := 39) hx hb hG inG_X12 hown hE.1 hP 0 rfl rfl 1 (by decide) (hG _ q_f_X12_89) (fun _ h9 => h9) rfl dX12_see_5 ?_
  refine lv_icmp_ge (tgt := 38) hx hb dX12_see_8 (by decide) (fun _ => ?_) (fun q => absurd q (by decide))
  refine lv_aload_n hx hb dX12_see_38 rfl (lv_at hl 0 rfl) ?_
  refine va_get (D := D) (ci := 12) (v := .int 0) (C := RX12) (T := TX12) (N := 39) hx hb hG inG_X12 hown hE.1 hP 0 rfl rfl 8 (by decide) (hG _ q_f_X12_99) (fun _ h9 => h9) rfl dX12_see_39 ?_
  refine lv_aload_n hx hb dX12_see_42 rfl (lv_at hl 0 rfl) ?_
  refine va_get (D := D) (ci := 12) (v := .int 0) (C := RX12) (T := TX12) (N := 39) hx hb hG inG_X12 hown hE.1 hP 0 rfl rfl 1 (by decide) (hG _ q_f_X12_89) (fun _ h9 => h9) rfl dX12_see_43 ?_
  refine lv_icmp_ge (tgt := 65) hx hb dX12_see_46 (by decide) (fun _ => ?_) (fun q => absurd q (by decide))
  refine lv_iconst (v := (-1)) hx hb dX12_see_65 (by decide) ?_
  exact KP.rt F rfl (rfl) dX12_see_66

set_option maxHeartbeats 4000000 in
set_option maxRecDepth 100000 in
theorem c_isLetter (l : Launch) (D : va_G) (cy : Nat → ClassId) (m0 a_tape a_sign a_length a_clause a_clauses a_read a_open a_stack a_word a_said a_planned a_cameOf a_wasSaid a_kept a_rowNow a_rowBest a_hasBy a_isFit a_cameThen a_images a_imageForce a_imageX a_isMade : Nat) (tx : Int32) : KP l yX12_isLetter cX12_isLetter 2 (some .boolean) 0 0 D (kTY cy) [.ref m0, .int 0] [(m0, .inr (12, [.ref a_tape, .int 0, .int 0, .ref a_sign, .ref a_length, .ref a_clause, .ref a_clauses, .ref a_read, .int 0, .int 0, .int 0, .int tx, .int 0, .int 0, .int 0, .ref a_open, .int 0, .ref a_stack, .int 0, .ref a_word, .ref a_said, .int (-1), .int 0, .int (-1), .ref a_planned, .ref a_cameOf, .ref a_wasSaid, .int 0, .ref a_kept, .ref a_rowNow, .ref a_rowBest, .ref a_hasBy, .ref a_isFit, .ref a_cameThen, .long 0, .ref a_images, .ref a_imageForce, .ref a_imageX, .ref a_isMade]))] (fun r => r = 0) := by
  refine KP.of (by decide) (Nat.le_of_ble_eq_true rfl) (fun p e s m below meth c ls F hE hP hl => ?_)
  have F : kF p s m meth c cX12_isLetter 2 (some .boolean) _ RX12 := F
  obtain ⟨hx, hb, hr, hml, hown, hG, hlk⟩ := id F
  have hl : lv_has ls 2 [(0, .ref m0), (1, .int 0)] := hl
  refine lv_iload_n hx hb dX12_isLetter_0 rfl (lv_at hl 1 rfl) ?_
  refine lv_aload_n hx hb dX12_isLetter_1 rfl (lv_at hl 0 rfl) ?_
  refine va_get (D := D) (ci := 12) (v := .int 0) (C := RX12) (T := TX12) (N := 39) hx hb hG inG_X12 hown hE.1 hP 0 rfl rfl 1 (by decide) (hG _ q_f_X12_89) (fun _ h9 => h9) rfl dX12_isLetter_2 ?_
  refine lv_icmp_ge (tgt := 34) hx hb dX12_isLetter_5 (by decide) (fun _ => ?_) (fun q => absurd q (by decide))
  refine lv_iconst (v := 0) hx hb dX12_isLetter_34 (by decide) ?_
  exact KP.rt F rfl (rfl) dX12_isLetter_35

set_option maxHeartbeats 4000000 in
set_option maxRecDepth 100000 in
theorem c_isWordM (l : Launch) (D : va_G) (cy : Nat → ClassId) (m0 a_tape a_sign a_length a_clause a_clauses a_read a_open a_stack a_word a_said a_planned a_cameOf a_wasSaid a_kept a_rowNow a_rowBest a_hasBy a_isFit a_cameThen a_images a_imageForce a_imageX a_isMade : Nat) (tx : Int32) (w0 : Int64) : KP l yX12_isWord cX12_isWord 6 (some .boolean) 1 21 D (kTY cy) [.ref m0, .long w0] [(m0, .inr (12, [.ref a_tape, .int 0, .int 0, .ref a_sign, .ref a_length, .ref a_clause, .ref a_clauses, .ref a_read, .int 0, .int 0, .int 0, .int tx, .int 0, .int 0, .int 0, .ref a_open, .int 0, .ref a_stack, .int 0, .ref a_word, .ref a_said, .int (-1), .int 0, .int (-1), .ref a_planned, .ref a_cameOf, .ref a_wasSaid, .int 0, .ref a_kept, .ref a_rowNow, .ref a_rowBest, .ref a_hasBy, .ref a_isFit, .ref a_cameThen, .long 0, .ref a_images, .ref a_imageForce, .ref a_imageX, .ref a_isMade]))] (fun r => r = 0) := by
  refine KP.of (by decide) (Nat.le_of_ble_eq_true rfl) (fun p e s m below meth c ls F hE hP hl => ?_)
  have F : kF p s m meth c cX12_isWord 6 (some .boolean) _ RX12 := F
  obtain ⟨hx, hb, hr, hml, hown, hG, hlk⟩ := id F
  have hl : lv_has ls 6 [(0, .ref m0), (1, .long w0)] := hl
  refine lv_aload_n hx hb dX12_isWord_0 rfl (lv_at hl 0 rfl) ?_
  refine kcV (As := []) (rest := []) F hE hP hl.1 (c_see l D cy (m0 := m0) (a_tape := a_tape) (a_sign := a_sign) (a_length := a_length) (a_clause := a_clause) (a_clauses := a_clauses) (a_read := a_read) (tx := tx) (a_open := a_open) (a_stack := a_stack) (a_word := a_word) (a_said := a_said) (a_planned := a_planned) (a_cameOf := a_cameOf) (a_wasSaid := a_wasSaid) (a_kept := a_kept) (a_rowNow := a_rowNow) (a_rowBest := a_rowBest) (a_hasBy := a_hasBy) (a_isFit := a_isFit) (a_cameThen := a_cameThen) (a_images := a_images) (a_imageForce := a_imageForce) (a_imageX := a_imageX) (a_isMade := a_isMade)) q_m_X12_102 mv_X12_see ⟨(Nat.le_of_ble_eq_true rfl), (Nat.le_of_ble_eq_true rfl)⟩ [0] rfl rfl rfl rfl rfl rfl (Nat.le_of_ble_eq_true rfl) ⟨(Nat.le_of_ble_eq_true rfl), (Nat.le_of_ble_eq_true rfl)⟩ dX12_isWord_1 (fun r_1 er_1 => ?_)
  subst er_1
  refine lv_pop hx hb dX12_isWord_4 rfl ?_
  refine lv_lconst (v := 0) hx hb dX12_isWord_5 (by decide) ?_
  refine lv_lstore_n (lv' := [(3, .long 0), (0, .ref m0), (1, .long w0)]) hx hb dX12_isWord_6 rfl hl (by decide) rfl (fun ls hl => ?_)
  refine lv_iconst (v := 0) hx hb dX12_isWord_7 (by decide) ?_
  refine lv_istore (lv' := [(5, .int 0), (3, .long 0), (0, .ref m0), (1, .long w0)]) hx hb dX12_isWord_8 hl (by decide) rfl (fun ls hl => ?_)
  refine lv_aload_n hx hb dX12_isWord_10 rfl (lv_at hl 2 rfl) ?_
  refine lv_aload_n hx hb dX12_isWord_11 rfl (lv_at hl 2 rfl) ?_
  refine va_get (D := D) (ci := 12) (v := .int 0) (C := RX12) (T := TX12) (N := 39) hx hb hG inG_X12 hown hE.1 hP 0 rfl rfl 8 (by decide) (hG _ q_f_X12_99) (fun _ h9 => h9) rfl dX12_isWord_12 ?_
  refine lv_iload hx hb dX12_isWord_15 (lv_at hl 0 rfl) ?_
  refine lv_iadd hx hb dX12_isWord_17 ?_
  refine k_top (z := 0) (by decide) ?_
  refine kcV (As := [.int 0]) (rest := []) F hE hP hl.1 (c_isLetter l D cy (m0 := m0) (a_tape := a_tape) (a_sign := a_sign) (a_length := a_length) (a_clause := a_clause) (a_clauses := a_clauses) (a_read := a_read) (tx := tx) (a_open := a_open) (a_stack := a_stack) (a_word := a_word) (a_said := a_said) (a_planned := a_planned) (a_cameOf := a_cameOf) (a_wasSaid := a_wasSaid) (a_kept := a_kept) (a_rowNow := a_rowNow) (a_rowBest := a_rowBest) (a_hasBy := a_hasBy) (a_isFit := a_isFit) (a_cameThen := a_cameThen) (a_images := a_images) (a_imageForce := a_imageForce) (a_imageX := a_imageX) (a_isMade := a_isMade)) q_m_X12_106 mv_X12_isLetter ⟨(Nat.le_of_ble_eq_true rfl), (Nat.le_of_ble_eq_true rfl)⟩ [0] rfl rfl rfl rfl rfl rfl (Nat.le_of_ble_eq_true rfl) ⟨(Nat.le_of_ble_eq_true rfl), (Nat.le_of_ble_eq_true rfl)⟩ dX12_isWord_18 (fun r_2 er_2 => ?_)
  subst er_2
  refine lv_if_eq (tgt := 56) hx hb dX12_isWord_21 (by decide) (fun _ => ?_) (fun q => absurd q (by decide))
  refine lv_iload hx hb dX12_isWord_56 (lv_at hl 0 rfl) ?_
  refine lv_if_le (tgt := 78) hx hb dX12_isWord_58 (by decide) (fun _ => ?_) (fun q => absurd q (by decide))
  refine lv_iconst (v := 0) hx hb dX12_isWord_78 (by decide) ?_
  exact KP.rt F rfl (rfl) dX12_isWord_79

set_option maxHeartbeats 4000000 in
set_option maxRecDepth 100000 in
theorem c_isGreenWord (l : Launch) (D : va_G) (cy : Nat → ClassId) (m0 a_tape a_sign a_length a_clause a_clauses a_read a_open a_stack a_word a_said a_planned a_cameOf a_wasSaid a_kept a_rowNow a_rowBest a_hasBy a_isFit a_cameThen a_images a_imageForce a_imageX a_isMade : Nat) (tx : Int32) : KP l yX12_isGreenWord cX12_isGreenWord 1 (some .boolean) 2 46 D (kTY cy) [.ref m0] [(m0, .inr (12, [.ref a_tape, .int 0, .int 0, .ref a_sign, .ref a_length, .ref a_clause, .ref a_clauses, .ref a_read, .int 0, .int 0, .int 0, .int tx, .int 0, .int 0, .int 0, .ref a_open, .int 0, .ref a_stack, .int 0, .ref a_word, .ref a_said, .int (-1), .int 0, .int (-1), .ref a_planned, .ref a_cameOf, .ref a_wasSaid, .int 0, .ref a_kept, .ref a_rowNow, .ref a_rowBest, .ref a_hasBy, .ref a_isFit, .ref a_cameThen, .long 0, .ref a_images, .ref a_imageForce, .ref a_imageX, .ref a_isMade]))] (fun r => r = 0) := by
  refine KP.of (by decide) (Nat.le_of_ble_eq_true rfl) (fun p e s m below meth c ls F hE hP hl => ?_)
  have F : kF p s m meth c cX12_isGreenWord 1 (some .boolean) _ RX12 := F
  obtain ⟨hx, hb, hr, hml, hown, hG, hlk⟩ := id F
  have hl : lv_has ls 1 [(0, .ref m0)] := hl
  refine lv_aload_n hx hb dX12_isGreenWord_0 rfl (lv_at hl 0 rfl) ?_
  refine lv_ldc2 hx hb hown (hG _ q_q_X12_236) dX12_isGreenWord_1 ?_
  refine kcV (As := [.long 444300879214]) (rest := []) F hE hP hl.1 (c_isWordM l D cy (m0 := m0) (w0 := 444300879214) (a_tape := a_tape) (a_sign := a_sign) (a_length := a_length) (a_clause := a_clause) (a_clauses := a_clauses) (a_read := a_read) (tx := tx) (a_open := a_open) (a_stack := a_stack) (a_word := a_word) (a_said := a_said) (a_planned := a_planned) (a_cameOf := a_cameOf) (a_wasSaid := a_wasSaid) (a_kept := a_kept) (a_rowNow := a_rowNow) (a_rowBest := a_rowBest) (a_hasBy := a_hasBy) (a_isFit := a_isFit) (a_cameThen := a_cameThen) (a_images := a_images) (a_imageForce := a_imageForce) (a_imageX := a_imageX) (a_isMade := a_isMade)) q_m_X12_110 mv_X12_isWord ⟨(Nat.le_of_ble_eq_true rfl), (Nat.le_of_ble_eq_true rfl)⟩ [0] rfl rfl rfl rfl rfl rfl (Nat.le_of_ble_eq_true rfl) ⟨(Nat.le_of_ble_eq_true rfl), (Nat.le_of_ble_eq_true rfl)⟩ dX12_isGreenWord_4 (fun r_1 er_1 => ?_)
  subst er_1
  refine lv_if_ne (tgt := 40) hx hb dX12_isGreenWord_7 (by decide) (fun q => absurd q (by decide)) (fun _ => ?_)
  refine lv_aload_n hx hb dX12_isGreenWord_10 rfl (lv_at hl 0 rfl) ?_
  refine lv_ldc2 hx hb hown (hG _ q_q_X12_151) dX12_isGreenWord_11 ?_
  refine kcV (As := [.long 2003398244]) (rest := []) F hE hP hl.1 (c_isWordM l D cy (m0 := m0) (w0 := 2003398244) (a_tape := a_tape) (a_sign := a_sign) (a_length := a_length) (a_clause := a_clause) (a_clauses := a_clauses) (a_read := a_read) (tx := tx) (a_open := a_open) (a_stack := a_stack) (a_word := a_word) (a_said := a_said) (a_planned := a_planned) (a_cameOf := a_cameOf) (a_wasSaid := a_wasSaid) (a_kept := a_kept) (a_rowNow := a_rowNow) (a_rowBest := a_rowBest) (a_hasBy := a_hasBy) (a_isFit := a_isFit) (a_cameThen := a_cameThen) (a_images := a_images) (a_imageForce := a_imageForce) (a_imageX := a_imageX) (a_isMade := a_isMade)) q_m_X12_110 mv_X12_isWord ⟨(Nat.le_of_ble_eq_true rfl), (Nat.le_of_ble_eq_true rfl)⟩ [0] rfl rfl rfl rfl rfl rfl (Nat.le_of_ble_eq_true rfl) ⟨(Nat.le_of_ble_eq_true rfl), (Nat.le_of_ble_eq_true rfl)⟩ dX12_isGreenWord_14 (fun r_2 er_2 => ?_)
  subst er_2
  refine lv_if_ne (tgt := 40) hx hb dX12_isGreenWord_17 (by decide) (fun q => absurd q (by decide)) (fun _ => ?_)
  refine lv_aload_n hx hb dX12_isGreenWord_20 rfl (lv_at hl 0 rfl) ?_
  refine lv_ldc2 hx hb hown (hG _ q_q_X12_133) dX12_isGreenWord_21 ?_
  refine kcV (As := [.long 1919512167]) (rest := []) F hE hP hl.1 (c_isWordM l D cy (m0 := m0) (w0 := 1919512167) (a_tape := a_tape) (a_sign := a_sign) (a_length := a_length) (a_clause := a_clause) (a_clauses := a_clauses) (a_read := a_read) (tx := tx) (a_open := a_open) (a_stack := a_stack) (a_word := a_word) (a_said := a_said) (a_planned := a_planned) (a_cameOf := a_cameOf) (a_wasSaid := a_wasSaid) (a_kept := a_kept) (a_rowNow := a_rowNow) (a_rowBest := a_rowBest) (a_hasBy := a_hasBy) (a_isFit := a_isFit) (a_cameThen := a_cameThen) (a_images := a_images) (a_imageForce := a_imageForce) (a_imageX := a_imageX) (a_isMade := a_isMade)) q_m_X12_110 mv_X12_isWord ⟨(Nat.le_of_ble_eq_true rfl), (Nat.le_of_ble_eq_true rfl)⟩ [0] rfl rfl rfl rfl rfl rfl (Nat.le_of_ble_eq_true rfl) ⟨(Nat.le_of_ble_eq_true rfl), (Nat.le_of_ble_eq_true rfl)⟩ dX12_isGreenWord_24 (fun r_3 er_3 => ?_)
  subst er_3
  refine lv_if_ne (tgt := 40) hx hb dX12_isGreenWord_27 (by decide) (fun q => absurd q (by decide)) (fun _ => ?_)
  refine lv_aload_n hx hb dX12_isGreenWord_30 rfl (lv_at hl 0 rfl) ?_
  refine lv_ldc2 hx hb hown (hG _ q_q_X12_131) dX12_isGreenWord_31 ?_
  refine kcV (As := [.long 107143921952114]) (rest := []) F hE hP hl.1 (c_isWordM l D cy (m0 := m0) (w0 := 107143921952114) (a_tape := a_tape) (a_sign := a_sign) (a_length := a_length) (a_clause := a_clause) (a_clauses := a_clauses) (a_read := a_read) (tx := tx) (a_open := a_open) (a_stack := a_stack) (a_word := a_word) (a_said := a_said) (a_planned := a_planned) (a_cameOf := a_cameOf) (a_wasSaid := a_wasSaid) (a_kept := a_kept) (a_rowNow := a_rowNow) (a_rowBest := a_rowBest) (a_hasBy := a_hasBy) (a_isFit := a_isFit) (a_cameThen := a_cameThen) (a_images := a_images) (a_imageForce := a_imageForce) (a_imageX := a_imageX) (a_isMade := a_isMade)) q_m_X12_110 mv_X12_isWord ⟨(Nat.le_of_ble_eq_true rfl), (Nat.le_of_ble_eq_true rfl)⟩ [0] rfl rfl rfl rfl rfl rfl (Nat.le_of_ble_eq_true rfl) ⟨(Nat.le_of_ble_eq_true rfl), (Nat.le_of_ble_eq_true rfl)⟩ dX12_isGreenWord_34 (fun r_4 er_4 => ?_)
  subst er_4
  refine lv_if_eq (tgt := 44) hx hb dX12_isGreenWord_37 (by decide) (fun _ => ?_) (fun q => absurd q (by decide))
  refine lv_iconst (v := 0) hx hb dX12_isGreenWord_44 (by decide) ?_
  exact KP.rt F rfl (rfl) dX12_isGreenWord_45

set_option maxHeartbeats 4000000 in
set_option maxRecDepth 100000 in
theorem c_fails (l : Launch) (D : va_G) (cy : Nat → ClassId) (m0 a_tape a_sign a_length a_clause a_clauses a_read a_open a_stack a_word a_said a_planned a_cameOf a_wasSaid a_kept a_rowNow a_rowBest a_hasBy a_isFit a_cameThen a_images a_imageForce a_imageX a_isMade : Nat) (tx : Int32) : KI l yX12_fails cX12_fails 3 (some .boolean) 0 0 D (kTY cy) [.ref m0, .int 0, .int 0] [(m0, .inr (12, [.ref a_tape, .int 0, .int 0, .ref a_sign, .ref a_length, .ref a_clause, .ref a_clauses, .ref a_read, .int 0, .int 0, .int 0, .int tx, .int 0, .int 0, .int 0, .ref a_open, .int 0, .ref a_stack, .int 0, .ref a_word, .ref a_said, .int (-1), .int 0, .int (-1), .ref a_planned, .ref a_cameOf, .ref a_wasSaid, .int 0, .ref a_kept, .ref a_rowNow, .ref a_rowBest, .ref a_hasBy, .ref a_isFit, .ref a_cameThen, .long 0, .ref a_images, .ref a_imageForce, .ref a_imageX, .ref a_isMade]))] (S := Unit) (fun r _ => r = 0) (fun _ => [(m0, .inr (12, [.ref a_tape, .int 0, .int 0, .ref a_sign, .ref a_length, .ref a_clause, .ref a_clauses, .ref a_read, .int 0, .int 1, .int 0, .int tx, .int 0, .int 0, .int 0, .ref a_open, .int 0, .ref a_stack, .int 0, .ref a_word, .ref a_said, .int (-1), .int 0, .int (-1), .ref a_planned, .ref a_cameOf, .ref a_wasSaid, .int 0, .ref a_kept, .ref a_rowNow, .ref a_rowBest, .ref a_hasBy, .ref a_isFit, .ref a_cameThen, .long 0, .ref a_images, .ref a_imageForce, .ref a_imageX, .ref a_isMade]))]) 0 0 := by
  refine KI.of (by decide) (Nat.le_of_ble_eq_true rfl) (fun p e s m below meth c ls A F hE hP hD hA hS hl => ?_)
  have F : kF p s m meth c cX12_fails 3 (some .boolean) _ RX12 := F
  obtain ⟨hx, hb, hr, hml, hown, hG, hlk⟩ := id F
  have hl : lv_has ls 3 [(0, .ref m0), (1, .int 0), (2, .int 0)] := hl
  refine lv_aload_n hx hb dX12_fails_0 rfl (lv_at hl 0 rfl) ?_
  refine va_get (D := D) (ci := 12) (v := .int 0) (C := RX12) (T := TX12) (N := 39) hx hb hG inG_X12 hown hE.1 hP 0 rfl rfl 9 (by decide) (hG _ q_f_X12_96) (fun _ h9 => h9) rfl dX12_fails_1 ?_
  refine lv_if_ne (tgt := 19) hx hb dX12_fails_4 (by decide) (fun q => absurd q (by decide)) (fun _ => ?_)
  refine lv_aload_n hx hb dX12_fails_7 rfl (lv_at hl 0 rfl) ?_
  refine lv_iconst (v := 1) hx hb dX12_fails_8 (by decide) ?_
  refine lv_bipush (v := 8) hx hb dX12_fails_9 (by decide) ?_
  refine lv_iload_n hx hb dX12_fails_11 rfl (lv_at hl 2 rfl) ?_
  refine lv_imul hx hb dX12_fails_12 ?_
  refine k_top (z := 0) (by decide) ?_
  refine lv_iadd hx hb dX12_fails_13 ?_
  refine k_top (z := 1) (by decide) ?_
  refine lv_iload_n hx hb dX12_fails_14 rfl (lv_at hl 1 rfl) ?_
  refine lv_iadd hx hb dX12_fails_15 ?_
  refine k_top (z := 1) (by decide) ?_
  refine va_put (D := D) (ci := 12) (v := .int 1) (ty := .int) (C := RX12) (T := TX12) (N := 39) hx hb hG inG_X12 tyX12 tyX12_ok nmX12 hown hE.1 hP hD hS 0 rfl rfl 9 (by decide) (hG _ q_f_X12_96) (fun _ h9 => h9) rfl (by decide +kernel) rfl rfl (Nat.le_of_ble_eq_true rfl) dX12_fails_16 (fun H locs hP hD hS => ?_)
  have hP : va_P D vwCl [(m0, .inr (12, [.ref a_tape, .int 0, .int 0, .ref a_sign, .ref a_length, .ref a_clause, .ref a_clauses, .ref a_read, .int 0, .int 1, .int 0, .int tx, .int 0, .int 0, .int 0, .ref a_open, .int 0, .ref a_stack, .int 0, .ref a_word, .ref a_said, .int (-1), .int 0, .int (-1), .ref a_planned, .ref a_cameOf, .ref a_wasSaid, .int 0, .ref a_kept, .ref a_rowNow, .ref a_rowBest, .ref a_hasBy, .ref a_isFit, .ref a_cameThen, .long 0, .ref a_images, .ref a_imageForce, .ref a_imageX, .ref a_isMade]))] H := hP
  have hD : va_D A [(m0, .inr (12, [.ref a_tape, .int 0, .int 0, .ref a_sign, .ref a_length, .ref a_clause, .ref a_clauses, .ref a_read, .int 0, .int 1, .int 0, .int tx, .int 0, .int 0, .int 0, .ref a_open, .int 0, .ref a_stack, .int 0, .ref a_word, .ref a_said, .int (-1), .int 0, .int (-1), .ref a_planned, .ref a_cameOf, .ref a_wasSaid, .int 0, .ref a_kept, .ref a_rowNow, .ref a_rowBest, .ref a_hasBy, .ref a_isFit, .ref a_cameThen, .long 0, .ref a_images, .ref a_imageForce, .ref a_imageX, .ref a_isMade]))] := hD
  refine lv_iconst (v := 0) hx hb dX12_fails_19 (by decide) ?_
  exact KI.rt () F rfl (hP.sub [0] rfl) (hD.sub [0] (by decide) rfl) hS (rfl) (Nat.le_of_ble_eq_true rfl) (Nat.le_of_ble_eq_true rfl) dX12_fails_20

set_option maxHeartbeats 4000000 in
set_option maxRecDepth 100000 in
theorem c_clauseHere0 (l : Launch) (D : va_G) (cy : Nat → ClassId) (m0 a_tape a_sign a_length a_clause a_clauses a_read a_open a_stack a_word a_said a_planned a_cameOf a_wasSaid a_kept a_rowNow a_rowBest a_hasBy a_isFit a_cameThen a_images a_imageForce a_imageX a_isMade : Nat) : KI l yX12_clauseHere cX12_clauseHere 3 (some .boolean) 2 46 D (kTY cy) [.ref m0] [(m0, .inr (12, [.ref a_tape, .int 0, .int 0, .ref a_sign, .ref a_length, .ref a_clause, .ref a_clauses, .ref a_read, .int 0, .int 0, .int 0, .int 0, .int 0, .int 0, .int 0, .ref a_open, .int 0, .ref a_stack, .int 0, .ref a_word, .ref a_said, .int (-1), .int 0, .int (-1), .ref a_planned, .ref a_cameOf, .ref a_wasSaid, .int 0, .ref a_kept, .ref a_rowNow, .ref a_rowBest, .ref a_hasBy, .ref a_isFit, .ref a_cameThen, .long 0, .ref a_images, .ref a_imageForce, .ref a_imageX, .ref a_isMade]))] (S := Unit) (fun r _ => r = 0) (fun _ => [(m0, .inr (12, [.ref a_tape, .int 0, .int 0, .ref a_sign, .ref a_length, .ref a_clause, .ref a_clauses, .ref a_read, .int 0, .int 1, .int 0, .int 0, .int 0, .int 0, .int 0, .ref a_open, .int 0, .ref a_stack, .int 0, .ref a_word, .ref a_said, .int (-1), .int 0, .int (-1), .ref a_planned, .ref a_cameOf, .ref a_wasSaid, .int 0, .ref a_kept, .ref a_rowNow, .ref a_rowBest, .ref a_hasBy, .ref a_isFit, .ref a_cameThen, .long 0, .ref a_images, .ref a_imageForce, .ref a_imageX, .ref a_isMade]))]) 0 0 := by
  refine KI.of (by decide) (Nat.le_of_ble_eq_true rfl) (fun p e s m below meth c ls A F hE hP hD hA hS hl => ?_)
  have F : kF p s m meth c cX12_clauseHere 3 (some .boolean) _ RX12 := F
  obtain ⟨hx, hb, hr, hml, hown, hG, hlk⟩ := id F
  have hl : lv_has ls 3 [(0, .ref m0)] := hl
  refine lv_aload_n hx hb dX12_clauseHere_0 rfl (lv_at hl 0 rfl) ?_
  refine kcV (As := []) (rest := []) F hE hP hl.1 (c_see l D cy (m0 := m0) (a_tape := a_tape) (a_sign := a_sign) (a_length := a_length) (a_clause := a_clause) (a_clauses := a_clauses) (a_read := a_read) (tx := 0) (a_open := a_open) (a_stack := a_stack) (a_word := a_word) (a_said := a_said) (a_planned := a_planned) (a_cameOf := a_cameOf) (a_wasSaid := a_wasSaid) (a_kept := a_kept) (a_rowNow := a_rowNow) (a_rowBest := a_rowBest) (a_hasBy := a_hasBy) (a_isFit := a_isFit) (a_cameThen := a_cameThen) (a_images := a_images) (a_imageForce := a_imageForce) (a_imageX := a_imageX) (a_isMade := a_isMade)) q_m_X12_102 mv_X12_see ⟨(Nat.le_of_ble_eq_true rfl), (Nat.le_of_ble_eq_true rfl)⟩ [0] rfl rfl rfl rfl rfl rfl (Nat.le_of_ble_eq_true rfl) ⟨(Nat.le_of_ble_eq_true rfl), (Nat.le_of_ble_eq_true rfl)⟩ dX12_clauseHere_1 (fun r_1 er_1 => ?_)
  subst er_1
  refine lv_pop hx hb dX12_clauseHere_4 rfl ?_
  refine lv_aload_n hx hb dX12_clauseHere_5 rfl (lv_at hl 0 rfl) ?_
  refine va_get (D := D) (ci := 12) (v := .int 0) (C := RX12) (T := TX12) (N := 39) hx hb hG inG_X12 hown hE.1 hP 0 rfl rfl 8 (by decide) (hG _ q_f_X12_99) (fun _ h9 => h9) rfl dX12_clauseHere_6 ?_
  refine lv_istore_n (lv' := [(1, .int 0), (0, .ref m0)]) hx hb dX12_clauseHere_9 rfl hl (by decide) rfl (fun ls hl => ?_)
  refine lv_aload_n hx hb dX12_clauseHere_10 rfl (lv_at hl 1 rfl) ?_
  refine va_get (D := D) (ci := 12) (v := .int 0) (C := RX12) (T := TX12) (N := 39) hx hb hG inG_X12 hown hE.1 hP 0 rfl rfl 11 (by decide) (hG _ q_f_X12_157) (fun _ h9 => h9) rfl dX12_clauseHere_11 ?_
  refine lv_bipush (v := 6) hx hb dX12_clauseHere_14 (by decide) ?_
  refine lv_icmp_ne (tgt := 23) hx hb dX12_clauseHere_16 (by decide) (fun _ => ?_) (fun q => absurd q (by decide))
  refine lv_iconst (v := 0) hx hb dX12_clauseHere_23 (by decide) ?_
  refine lv_istore_n (lv' := [(2, .int 0), (1, .int 0), (0, .ref m0)]) hx hb dX12_clauseHere_24 rfl hl (by decide) rfl (fun ls hl => ?_)
  refine lv_iload_n hx hb dX12_clauseHere_25 rfl (lv_at hl 0 rfl) ?_
  refine lv_if_eq (tgt := 39) hx hb dX12_clauseHere_26 (by decide) (fun _ => ?_) (fun q => absurd q (by decide))
  refine lv_aload_n hx hb dX12_clauseHere_39 rfl (lv_at hl 2 rfl) ?_
  refine lv_ldc2 hx hb hown (hG _ q_q_X12_253) dX12_clauseHere_40 ?_
  refine kcV (As := [.long 6383981]) (rest := []) F hE hP hl.1 (c_isWordM l D cy (m0 := m0) (w0 := 6383981) (a_tape := a_tape) (a_sign := a_sign) (a_length := a_length) (a_clause := a_clause) (a_clauses := a_clauses) (a_read := a_read) (tx := 0) (a_open := a_open) (a_stack := a_stack) (a_word := a_word) (a_said := a_said) (a_planned := a_planned) (a_cameOf := a_cameOf) (a_wasSaid := a_wasSaid) (a_kept := a_kept) (a_rowNow := a_rowNow) (a_rowBest := a_rowBest) (a_hasBy := a_hasBy) (a_isFit := a_isFit) (a_cameThen := a_cameThen) (a_images := a_images) (a_imageForce := a_imageForce) (a_imageX := a_imageX) (a_isMade := a_isMade)) q_m_X12_110 mv_X12_isWord ⟨(Nat.le_of_ble_eq_true rfl), (Nat.le_of_ble_eq_true rfl)⟩ [0] rfl rfl rfl rfl rfl rfl (Nat.le_of_ble_eq_true rfl) ⟨(Nat.le_of_ble_eq_true rfl), (Nat.le_of_ble_eq_true rfl)⟩ dX12_clauseHere_43 (fun r_2 er_2 => ?_)
  subst er_2
  refine lv_if_ne (tgt := 56) hx hb dX12_clauseHere_46 (by decide) (fun q => absurd q (by decide)) (fun _ => ?_)
  refine lv_aload_n hx hb dX12_clauseHere_49 rfl (lv_at hl 2 rfl) ?_
  refine lv_iconst (v := 0) hx hb dX12_clauseHere_50 (by decide) ?_
  refine lv_iload_n hx hb dX12_clauseHere_51 rfl (lv_at hl 1 rfl) ?_
  refine kwVI (wr := []) (As := [.int 0, .int 0]) (rest := []) F hE hP hD hS hA hl.1 (c_fails l D cy (m0 := m0) (a_tape := a_tape) (a_sign := a_sign) (a_length := a_length) (a_clause := a_clause) (a_clauses := a_clauses) (a_read := a_read) (tx := 0) (a_open := a_open) (a_stack := a_stack) (a_word := a_word) (a_said := a_said) (a_planned := a_planned) (a_cameOf := a_cameOf) (a_wasSaid := a_wasSaid) (a_kept := a_kept) (a_rowNow := a_rowNow) (a_rowBest := a_rowBest) (a_hasBy := a_hasBy) (a_isFit := a_isFit) (a_cameThen := a_cameThen) (a_images := a_images) (a_imageForce := a_imageForce) (a_imageX := a_imageX) (a_isMade := a_isMade)) q_m_X12_120 mv_X12_fails ⟨(Nat.le_of_ble_eq_true rfl), (Nat.le_of_ble_eq_true rfl)⟩ [0] [] (by decide) rfl rfl (by decide) (by decide) rfl rfl rfl rfl rfl (Nat.le_of_ble_eq_true rfl) ⟨(Nat.le_of_ble_eq_true rfl), (Nat.le_of_ble_eq_true rfl)⟩ dX12_clauseHere_52 (fun r_4 u_3 H locs eu_3 hP hD hS => ?_)
  obtain rfl := eu_3
  have hP : va_P D vwCl [(m0, .inr (12, [.ref a_tape, .int 0, .int 0, .ref a_sign, .ref a_length, .ref a_clause, .ref a_clauses, .ref a_read, .int 0, .int 1, .int 0, .int 0, .int 0, .int 0, .int 0, .ref a_open, .int 0, .ref a_stack, .int 0, .ref a_word, .ref a_said, .int (-1), .int 0, .int (-1), .ref a_planned, .ref a_cameOf, .ref a_wasSaid, .int 0, .ref a_kept, .ref a_rowNow, .ref a_rowBest, .ref a_hasBy, .ref a_isFit, .ref a_cameThen, .long 0, .ref a_images, .ref a_imageForce, .ref a_imageX, .ref a_isMade]))] H := hP
  have hD : va_D A [(m0, .inr (12, [.ref a_tape, .int 0, .int 0, .ref a_sign, .ref a_length, .ref a_clause, .ref a_clauses, .ref a_read, .int 0, .int 1, .int 0, .int 0, .int 0, .int 0, .int 0, .ref a_open, .int 0, .ref a_stack, .int 0, .ref a_word, .ref a_said, .int (-1), .int 0, .int (-1), .ref a_planned, .ref a_cameOf, .ref a_wasSaid, .int 0, .ref a_kept, .ref a_rowNow, .ref a_rowBest, .ref a_hasBy, .ref a_isFit, .ref a_cameThen, .long 0, .ref a_images, .ref a_imageForce, .ref a_imageX, .ref a_isMade]))] := hD
  exact KI.rt () F rfl (hP.sub [0] rfl) (hD.sub [0] (by decide) rfl) hS (rfl) (Nat.le_of_ble_eq_true rfl) (Nat.le_of_ble_eq_true rfl) dX12_clauseHere_55

set_option maxHeartbeats 4000000 in
set_option maxRecDepth 100000 in
theorem c_clauseHere6 (l : Launch) (D : va_G) (cy : Nat → ClassId) (m0 a_tape a_sign a_length a_clause a_clauses a_read a_open a_stack a_word a_said a_planned a_cameOf a_wasSaid a_kept a_rowNow a_rowBest a_hasBy a_isFit a_cameThen a_images a_imageForce a_imageX a_isMade : Nat) : KI l yX12_clauseHere cX12_clauseHere 3 (some .boolean) 3 66 D (kTY cy) [.ref m0] [(m0, .inr (12, [.ref a_tape, .int 0, .int 0, .ref a_sign, .ref a_length, .ref a_clause, .ref a_clauses, .ref a_read, .int 0, .int 0, .int 0, .int 6, .int 0, .int 0, .int 0, .ref a_open, .int 0, .ref a_stack, .int 0, .ref a_word, .ref a_said, .int (-1), .int 0, .int (-1), .ref a_planned, .ref a_cameOf, .ref a_wasSaid, .int 0, .ref a_kept, .ref a_rowNow, .ref a_rowBest, .ref a_hasBy, .ref a_isFit, .ref a_cameThen, .long 0, .ref a_images, .ref a_imageForce, .ref a_imageX, .ref a_isMade]))] (S := Unit) (fun r _ => r = 0) (fun _ => [(m0, .inr (12, [.ref a_tape, .int 0, .int 0, .ref a_sign, .ref a_length, .ref a_clause, .ref a_clauses, .ref a_read, .int 0, .int 1, .int 0, .int 6, .int 0, .int 0, .int 0, .ref a_open, .int 0, .ref a_stack, .int 0, .ref a_word, .ref a_said, .int (-1), .int 0, .int (-1), .ref a_planned, .ref a_cameOf, .ref a_wasSaid, .int 0, .ref a_kept, .ref a_rowNow, .ref a_rowBest, .ref a_hasBy, .ref a_isFit, .ref a_cameThen, .long 0, .ref a_images, .ref a_imageForce, .ref a_imageX, .ref a_isMade]))]) 0 0 := by
  refine KI.of (by decide) (Nat.le_of_ble_eq_true rfl) (fun p e s m below meth c ls A F hE hP hD hA hS hl => ?_)
  have F : kF p s m meth c cX12_clauseHere 3 (some .boolean) _ RX12 := F
  obtain ⟨hx, hb, hr, hml, hown, hG, hlk⟩ := id F
  have hl : lv_has ls 3 [(0, .ref m0)] := hl
  refine lv_aload_n hx hb dX12_clauseHere_0 rfl (lv_at hl 0 rfl) ?_
  refine kcV (As := []) (rest := []) F hE hP hl.1 (c_see l D cy (m0 := m0) (a_tape := a_tape) (a_sign := a_sign) (a_length := a_length) (a_clause := a_clause) (a_clauses := a_clauses) (a_read := a_read) (tx := 6) (a_open := a_open) (a_stack := a_stack) (a_word := a_word) (a_said := a_said) (a_planned := a_planned) (a_cameOf := a_cameOf) (a_wasSaid := a_wasSaid) (a_kept := a_kept) (a_rowNow := a_rowNow) (a_rowBest := a_rowBest) (a_hasBy := a_hasBy) (a_isFit := a_isFit) (a_cameThen := a_cameThen) (a_images := a_images) (a_imageForce := a_imageForce) (a_imageX := a_imageX) (a_isMade := a_isMade)) q_m_X12_102 mv_X12_see ⟨(Nat.le_of_ble_eq_true rfl), (Nat.le_of_ble_eq_true rfl)⟩ [0] rfl rfl rfl rfl rfl rfl (Nat.le_of_ble_eq_true rfl) ⟨(Nat.le_of_ble_eq_true rfl), (Nat.le_of_ble_eq_true rfl)⟩ dX12_clauseHere_1 (fun r_1 er_1 => ?_)
  subst er_1
  refine lv_pop hx hb dX12_clauseHere_4 rfl ?_
  refine lv_aload_n hx hb dX12_clauseHere_5 rfl (lv_at hl 0 rfl) ?_
  refine va_get (D := D) (ci := 12) (v := .int 0) (C := RX12) (T := TX12) (N := 39) hx hb hG inG_X12 hown hE.1 hP 0 rfl rfl 8 (by decide) (hG _ q_f_X12_99) (fun _ h9 => h9) rfl dX12_clauseHere_6 ?_
  refine lv_istore_n (lv' := [(1, .int 0), (0, .ref m0)]) hx hb dX12_clauseHere_9 rfl hl (by decide) rfl (fun ls hl => ?_)
  refine lv_aload_n hx hb dX12_clauseHere_10 rfl (lv_at hl 1 rfl) ?_
  refine va_get (D := D) (ci := 12) (v := .int 6) (C := RX12) (T := TX12) (N := 39) hx hb hG inG_X12 hown hE.1 hP 0 rfl rfl 11 (by decide) (hG _ q_f_X12_157) (fun _ h9 => h9) rfl dX12_clauseHere_11 ?_
  refine lv_bipush (v := 6) hx hb dX12_clauseHere_14 (by decide) ?_
  refine lv_icmp_ne (tgt := 23) hx hb dX12_clauseHere_16 (by decide) (fun q => absurd q (by decide)) (fun _ => ?_)
  refine lv_iconst (v := 1) hx hb dX12_clauseHere_19 (by decide) ?_
  refine lv_goto (tgt := 24) hx hb dX12_clauseHere_20 (by decide) ?_
  refine lv_istore_n (lv' := [(2, .int 1), (1, .int 0), (0, .ref m0)]) hx hb dX12_clauseHere_24 rfl hl (by decide) rfl (fun ls hl => ?_)
  refine lv_iload_n hx hb dX12_clauseHere_25 rfl (lv_at hl 0 rfl) ?_
  refine lv_if_eq (tgt := 39) hx hb dX12_clauseHere_26 (by decide) (fun q => absurd q (by decide)) (fun _ => ?_)
  refine lv_aload_n hx hb dX12_clauseHere_29 rfl (lv_at hl 2 rfl) ?_
  refine kcV (As := []) (rest := []) F hE hP hl.1 (c_isGreenWord l D cy (m0 := m0) (a_tape := a_tape) (a_sign := a_sign) (a_length := a_length) (a_clause := a_clause) (a_clauses := a_clauses) (a_read := a_read) (tx := 6) (a_open := a_open) (a_stack := a_stack) (a_word := a_word) (a_said := a_said) (a_planned := a_planned) (a_cameOf := a_cameOf) (a_wasSaid := a_wasSaid) (a_kept := a_kept) (a_rowNow := a_rowNow) (a_rowBest := a_rowBest) (a_hasBy := a_hasBy) (a_isFit := a_isFit) (a_cameThen := a_cameThen) (a_images := a_images) (a_imageForce := a_imageForce) (a_imageX := a_imageX) (a_isMade := a_isMade)) q_m_X12_250 mv_X12_isGreenWord ⟨(Nat.le_of_ble_eq_true rfl), (Nat.le_of_ble_eq_true rfl)⟩ [0] rfl rfl rfl rfl rfl rfl (Nat.le_of_ble_eq_true rfl) ⟨(Nat.le_of_ble_eq_true rfl), (Nat.le_of_ble_eq_true rfl)⟩ dX12_clauseHere_30 (fun r_2 er_2 => ?_)
  subst er_2
  refine lv_if_ne (tgt := 56) hx hb dX12_clauseHere_33 (by decide) (fun q => absurd q (by decide)) (fun _ => ?_)
  refine lv_goto (tgt := 49) hx hb dX12_clauseHere_36 (by decide) ?_
  refine lv_aload_n hx hb dX12_clauseHere_49 rfl (lv_at hl 2 rfl) ?_
  refine lv_iconst (v := 0) hx hb dX12_clauseHere_50 (by decide) ?_
  refine lv_iload_n hx hb dX12_clauseHere_51 rfl (lv_at hl 1 rfl) ?_
  refine kwVI (wr := []) (As := [.int 0, .int 0]) (rest := []) F hE hP hD hS hA hl.1 (c_fails l D cy (m0 := m0) (a_tape := a_tape) (a_sign := a_sign) (a_length := a_length) (a_clause := a_clause) (a_clauses := a_clauses) (a_read := a_read) (tx := 6) (a_open := a_open) (a_stack := a_stack) (a_word := a_word) (a_said := a_said) (a_planned := a_planned) (a_cameOf := a_cameOf) (a_wasSaid := a_wasSaid) (a_kept := a_kept) (a_rowNow := a_rowNow) (a_rowBest := a_rowBest) (a_hasBy := a_hasBy) (a_isFit := a_isFit) (a_cameThen := a_cameThen) (a_images := a_images) (a_imageForce := a_imageForce) (a_imageX := a_imageX) (a_isMade := a_isMade)) q_m_X12_120 mv_X12_fails ⟨(Nat.le_of_ble_eq_true rfl), (Nat.le_of_ble_eq_true rfl)⟩ [0] [] (by decide) rfl rfl (by decide) (by decide) rfl rfl rfl rfl rfl (Nat.le_of_ble_eq_true rfl) ⟨(Nat.le_of_ble_eq_true rfl), (Nat.le_of_ble_eq_true rfl)⟩ dX12_clauseHere_52 (fun r_4 u_3 H locs eu_3 hP hD hS => ?_)
  obtain rfl := eu_3
  have hP : va_P D vwCl [(m0, .inr (12, [.ref a_tape, .int 0, .int 0, .ref a_sign, .ref a_length, .ref a_clause, .ref a_clauses, .ref a_read, .int 0, .int 1, .int 0, .int 6, .int 0, .int 0, .int 0, .ref a_open, .int 0, .ref a_stack, .int 0, .ref a_word, .ref a_said, .int (-1), .int 0, .int (-1), .ref a_planned, .ref a_cameOf, .ref a_wasSaid, .int 0, .ref a_kept, .ref a_rowNow, .ref a_rowBest, .ref a_hasBy, .ref a_isFit, .ref a_cameThen, .long 0, .ref a_images, .ref a_imageForce, .ref a_imageX, .ref a_isMade]))] H := hP
  have hD : va_D A [(m0, .inr (12, [.ref a_tape, .int 0, .int 0, .ref a_sign, .ref a_length, .ref a_clause, .ref a_clauses, .ref a_read, .int 0, .int 1, .int 0, .int 6, .int 0, .int 0, .int 0, .ref a_open, .int 0, .ref a_stack, .int 0, .ref a_word, .ref a_said, .int (-1), .int 0, .int (-1), .ref a_planned, .ref a_cameOf, .ref a_wasSaid, .int 0, .ref a_kept, .ref a_rowNow, .ref a_rowBest, .ref a_hasBy, .ref a_isFit, .ref a_cameThen, .long 0, .ref a_images, .ref a_imageForce, .ref a_imageX, .ref a_isMade]))] := hD
  exact KI.rt () F rfl (hP.sub [0] rfl) (hD.sub [0] (by decide) rfl) hS (rfl) (Nat.le_of_ble_eq_true rfl) (Nat.le_of_ble_eq_true rfl) dX12_clauseHere_55

set_option maxHeartbeats 4000000 in
set_option maxRecDepth 100000 in
theorem c_readsAll0 (l : Launch) (D : va_G) (cy : Nat → ClassId) (m0 a_tape a_sign a_length a_clause a_clauses a_read a_open a_stack a_word a_said a_planned a_cameOf a_wasSaid a_kept a_rowNow a_rowBest a_hasBy a_isFit a_cameThen a_images a_imageForce a_imageX a_isMade : Nat) : KI l yX12_readsAll cX12_readsAll 2 (some .boolean) 3 68 D (kTY cy) [.ref m0] [(m0, .inr (12, [.ref a_tape, .int 0, .int 0, .ref a_sign, .ref a_length, .ref a_clause, .ref a_clauses, .ref a_read, .int 0, .int 0, .int 0, .int 0, .int 0, .int 0, .int 0, .ref a_open, .int 0, .ref a_stack, .int 0, .ref a_word, .ref a_said, .int (-1), .int 0, .int (-1), .ref a_planned, .ref a_cameOf, .ref a_wasSaid, .int 0, .ref a_kept, .ref a_rowNow, .ref a_rowBest, .ref a_hasBy, .ref a_isFit, .ref a_cameThen, .long 0, .ref a_images, .ref a_imageForce, .ref a_imageX, .ref a_isMade])), (a_length, .inl (cy 0, 7, .inl (fun _ => 0)))] (S := Unit) (fun r _ => r = 0) (fun _ => [(m0, .inr (12, [.ref a_tape, .int 0, .int 0, .ref a_sign, .ref a_length, .ref a_clause, .ref a_clauses, .ref a_read, .int 0, .int 1, .int 0, .int 0, .int 0, .int 0, .int 0, .ref a_open, .int 0, .ref a_stack, .int 0, .ref a_word, .ref a_said, .int (-1), .int 0, .int (-1), .ref a_planned, .ref a_cameOf, .ref a_wasSaid, .int 0, .ref a_kept, .ref a_rowNow, .ref a_rowBest, .ref a_hasBy, .ref a_isFit, .ref a_cameThen, .long 0, .ref a_images, .ref a_imageForce, .ref a_imageX, .ref a_isMade]))]) 0 0 := by
  refine KI.of (by decide) (Nat.le_of_ble_eq_true rfl) (fun p e s m below meth c ls A F hE hP hD hA hS hl => ?_)
  have F : kF p s m meth c cX12_readsAll 2 (some .boolean) _ RX12 := F
  obtain ⟨hx, hb, hr, hml, hown, hG, hlk⟩ := id F
  have hl : lv_has ls 2 [(0, .ref m0)] := hl
  refine lv_aload_n hx hb dX12_readsAll_0 rfl (lv_at hl 0 rfl) ?_
  refine va_get (D := D) (ci := 12) (v := .ref a_length) (C := RX12) (T := TX12) (N := 39) hx hb hG inG_X12 hown hE.1 hP 0 rfl rfl 4 (by decide) (hG _ q_f_X12_17) (fun _ h9 => h9) rfl dX12_readsAll_1 ?_
  refine lv_aload_n hx hb dX12_readsAll_4 rfl (lv_at hl 0 rfl) ?_
  refine va_get (D := D) (ci := 12) (v := .int 0) (C := RX12) (T := TX12) (N := 39) hx hb hG inG_X12 hown hE.1 hP 0 rfl rfl 11 (by decide) (hG _ q_f_X12_157) (fun _ h9 => h9) rfl dX12_readsAll_5 ?_
  refine lv_iconst (v := 0) hx hb dX12_readsAll_8 (by decide) ?_
  refine va_iast hx hb hE.1 hP hD hS 1 0 rfl rfl (by unfold vp_in; decide) dX12_readsAll_9 (fun H locs hP hD hS => ?_)
  rw [k_upd0] at hP hD
  have hP : va_P D vwCl [(m0, .inr (12, [.ref a_tape, .int 0, .int 0, .ref a_sign, .ref a_length, .ref a_clause, .ref a_clauses, .ref a_read, .int 0, .int 0, .int 0, .int 0, .int 0, .int 0, .int 0, .ref a_open, .int 0, .ref a_stack, .int 0, .ref a_word, .ref a_said, .int (-1), .int 0, .int (-1), .ref a_planned, .ref a_cameOf, .ref a_wasSaid, .int 0, .ref a_kept, .ref a_rowNow, .ref a_rowBest, .ref a_hasBy, .ref a_isFit, .ref a_cameThen, .long 0, .ref a_images, .ref a_imageForce, .ref a_imageX, .ref a_isMade])), (a_length, .inl (cy 0, 7, .inl (fun _ => 0)))] H := hP
  have hD : va_D A [(m0, .inr (12, [.ref a_tape, .int 0, .int 0, .ref a_sign, .ref a_length, .ref a_clause, .ref a_clauses, .ref a_read, .int 0, .int 0, .int 0, .int 0, .int 0, .int 0, .int 0, .ref a_open, .int 0, .ref a_stack, .int 0, .ref a_word, .ref a_said, .int (-1), .int 0, .int (-1), .ref a_planned, .ref a_cameOf, .ref a_wasSaid, .int 0, .ref a_kept, .ref a_rowNow, .ref a_rowBest, .ref a_hasBy, .ref a_isFit, .ref a_cameThen, .long 0, .ref a_images, .ref a_imageForce, .ref a_imageX, .ref a_isMade])), (a_length, .inl (cy 0, 7, .inl (fun _ => 0)))] := hD
  refine lv_aload_n hx hb dX12_readsAll_10 rfl (lv_at hl 0 rfl) ?_
  refine lv_iconst (v := 0) hx hb dX12_readsAll_11 (by decide) ?_
  refine va_put (D := D) (ci := 12) (v := .int 0) (ty := .int) (C := RX12) (T := TX12) (N := 39) hx hb hG inG_X12 tyX12 tyX12_ok nmX12 hown hE.1 hP hD hS 0 rfl rfl 14 (by decide) (hG _ q_f_X12_255) (fun _ h9 => h9) rfl (by decide +kernel) rfl rfl (Nat.le_of_ble_eq_true rfl) dX12_readsAll_12 (fun H locs hP hD hS => ?_)
  have hP : va_P D vwCl [(m0, .inr (12, [.ref a_tape, .int 0, .int 0, .ref a_sign, .ref a_length, .ref a_clause, .ref a_clauses, .ref a_read, .int 0, .int 0, .int 0, .int 0, .int 0, .int 0, .int 0, .ref a_open, .int 0, .ref a_stack, .int 0, .ref a_word, .ref a_said, .int (-1), .int 0, .int (-1), .ref a_planned, .ref a_cameOf, .ref a_wasSaid, .int 0, .ref a_kept, .ref a_rowNow, .ref a_rowBest, .ref a_hasBy, .ref a_isFit, .ref a_cameThen, .long 0, .ref a_images, .ref a_imageForce, .ref a_imageX, .ref a_isMade])), (a_length, .inl (cy 0, 7, .inl (fun _ => 0)))] H := hP
  have hD : va_D A [(m0, .inr (12, [.ref a_tape, .int 0, .int 0, .ref a_sign, .ref a_length, .ref a_clause, .ref a_clauses, .ref a_read, .int 0, .int 0, .int 0, .int 0, .int 0, .int 0, .int 0, .ref a_open, .int 0, .ref a_stack, .int 0, .ref a_word, .ref a_said, .int (-1), .int 0, .int (-1), .ref a_planned, .ref a_cameOf, .ref a_wasSaid, .int 0, .ref a_kept, .ref a_rowNow, .ref a_rowBest, .ref a_hasBy, .ref a_isFit, .ref a_cameThen, .long 0, .ref a_images, .ref a_imageForce, .ref a_imageX, .ref a_isMade])), (a_length, .inl (cy 0, 7, .inl (fun _ => 0)))] := hD
  refine lv_aload_n hx hb dX12_readsAll_15 rfl (lv_at hl 0 rfl) ?_
  refine lv_iconst (v := 0) hx hb dX12_readsAll_16 (by decide) ?_
  refine va_put (D := D) (ci := 12) (v := .int 0) (ty := .int) (C := RX12) (T := TX12) (N := 39) hx hb hG inG_X12 tyX12 tyX12_ok nmX12 hown hE.1 hP hD hS 0 rfl rfl 8 (by decide) (hG _ q_f_X12_99) (fun _ h9 => h9) rfl (by decide +kernel) rfl rfl (Nat.le_of_ble_eq_true rfl) dX12_readsAll_17 (fun H locs hP hD hS => ?_)
  have hP : va_P D vwCl [(m0, .inr (12, [.ref a_tape, .int 0, .int 0, .ref a_sign, .ref a_length, .ref a_clause, .ref a_clauses, .ref a_read, .int 0, .int 0, .int 0, .int 0, .int 0, .int 0, .int 0, .ref a_open, .int 0, .ref a_stack, .int 0, .ref a_word, .ref a_said, .int (-1), .int 0, .int (-1), .ref a_planned, .ref a_cameOf, .ref a_wasSaid, .int 0, .ref a_kept, .ref a_rowNow, .ref a_rowBest, .ref a_hasBy, .ref a_isFit, .ref a_cameThen, .long 0, .ref a_images, .ref a_imageForce, .ref a_imageX, .ref a_isMade])), (a_length, .inl (cy 0, 7, .inl (fun _ => 0)))] H := hP
  have hD : va_D A [(m0, .inr (12, [.ref a_tape, .int 0, .int 0, .ref a_sign, .ref a_length, .ref a_clause, .ref a_clauses, .ref a_read, .int 0, .int 0, .int 0, .int 0, .int 0, .int 0, .int 0, .ref a_open, .int 0, .ref a_stack, .int 0, .ref a_word, .ref a_said, .int (-1), .int 0, .int (-1), .ref a_planned, .ref a_cameOf, .ref a_wasSaid, .int 0, .ref a_kept, .ref a_rowNow, .ref a_rowBest, .ref a_hasBy, .ref a_isFit, .ref a_cameThen, .long 0, .ref a_images, .ref a_imageForce, .ref a_imageX, .ref a_isMade])), (a_length, .inl (cy 0, 7, .inl (fun _ => 0)))] := hD
  refine lv_aload_n hx hb dX12_readsAll_20 rfl (lv_at hl 0 rfl) ?_
  refine lv_iconst (v := 0) hx hb dX12_readsAll_21 (by decide) ?_
  refine va_put (D := D) (ci := 12) (v := .int 0) (ty := .int) (C := RX12) (T := TX12) (N := 39) hx hb hG inG_X12 tyX12 tyX12_ok nmX12 hown hE.1 hP hD hS 0 rfl rfl 9 (by decide) (hG _ q_f_X12_96) (fun _ h9 => h9) rfl (by decide +kernel) rfl rfl (Nat.le_of_ble_eq_true rfl) dX12_readsAll_22 (fun H locs hP hD hS => ?_)
  have hP : va_P D vwCl [(m0, .inr (12, [.ref a_tape, .int 0, .int 0, .ref a_sign, .ref a_length, .ref a_clause, .ref a_clauses, .ref a_read, .int 0, .int 0, .int 0, .int 0, .int 0, .int 0, .int 0, .ref a_open, .int 0, .ref a_stack, .int 0, .ref a_word, .ref a_said, .int (-1), .int 0, .int (-1), .ref a_planned, .ref a_cameOf, .ref a_wasSaid, .int 0, .ref a_kept, .ref a_rowNow, .ref a_rowBest, .ref a_hasBy, .ref a_isFit, .ref a_cameThen, .long 0, .ref a_images, .ref a_imageForce, .ref a_imageX, .ref a_isMade])), (a_length, .inl (cy 0, 7, .inl (fun _ => 0)))] H := hP
  have hD : va_D A [(m0, .inr (12, [.ref a_tape, .int 0, .int 0, .ref a_sign, .ref a_length, .ref a_clause, .ref a_clauses, .ref a_read, .int 0, .int 0, .int 0, .int 0, .int 0, .int 0, .int 0, .ref a_open, .int 0, .ref a_stack, .int 0, .ref a_word, .ref a_said, .int (-1), .int 0, .int (-1), .ref a_planned, .ref a_cameOf, .ref a_wasSaid, .int 0, .ref a_kept, .ref a_rowNow, .ref a_rowBest, .ref a_hasBy, .ref a_isFit, .ref a_cameThen, .long 0, .ref a_images, .ref a_imageForce, .ref a_imageX, .ref a_isMade])), (a_length, .inl (cy 0, 7, .inl (fun _ => 0)))] := hD
  refine lv_aload_n hx hb dX12_readsAll_25 rfl (lv_at hl 0 rfl) ?_
  refine lv_iconst (v := 0) hx hb dX12_readsAll_26 (by decide) ?_
  refine va_put (D := D) (ci := 12) (v := .int 0) (ty := .int) (C := RX12) (T := TX12) (N := 39) hx hb hG inG_X12 tyX12 tyX12_ok nmX12 hown hE.1 hP hD hS 0 rfl rfl 12 (by decide) (hG _ q_f_X12_160) (fun _ h9 => h9) rfl (by decide +kernel) rfl rfl (Nat.le_of_ble_eq_true rfl) dX12_readsAll_27 (fun H locs hP hD hS => ?_)
  have hP : va_P D vwCl [(m0, .inr (12, [.ref a_tape, .int 0, .int 0, .ref a_sign, .ref a_length, .ref a_clause, .ref a_clauses, .ref a_read, .int 0, .int 0, .int 0, .int 0, .int 0, .int 0, .int 0, .ref a_open, .int 0, .ref a_stack, .int 0, .ref a_word, .ref a_said, .int (-1), .int 0, .int (-1), .ref a_planned, .ref a_cameOf, .ref a_wasSaid, .int 0, .ref a_kept, .ref a_rowNow, .ref a_rowBest, .ref a_hasBy, .ref a_isFit, .ref a_cameThen, .long 0, .ref a_images, .ref a_imageForce, .ref a_imageX, .ref a_isMade])), (a_length, .inl (cy 0, 7, .inl (fun _ => 0)))] H := hP
  have hD : va_D A [(m0, .inr (12, [.ref a_tape, .int 0, .int 0, .ref a_sign, .ref a_length, .ref a_clause, .ref a_clauses, .ref a_read, .int 0, .int 0, .int 0, .int 0, .int 0, .int 0, .int 0, .ref a_open, .int 0, .ref a_stack, .int 0, .ref a_word, .ref a_said, .int (-1), .int 0, .int (-1), .ref a_planned, .ref a_cameOf, .ref a_wasSaid, .int 0, .ref a_kept, .ref a_rowNow, .ref a_rowBest, .ref a_hasBy, .ref a_isFit, .ref a_cameThen, .long 0, .ref a_images, .ref a_imageForce, .ref a_imageX, .ref a_isMade])), (a_length, .inl (cy 0, 7, .inl (fun _ => 0)))] := hD
  refine lv_aload_n hx hb dX12_readsAll_30 rfl (lv_at hl 0 rfl) ?_
  refine kwVI (wr := [(a_length, .inl (cy 0, 7, .inl (fun _ => 0)))]) (As := []) (rest := []) F hE hP hD hS hA hl.1 (c_clauseHere0 l D cy (m0 := m0) (a_tape := a_tape) (a_sign := a_sign) (a_length := a_length) (a_clause := a_clause) (a_clauses := a_clauses) (a_read := a_read) (a_open := a_open) (a_stack := a_stack) (a_word := a_word) (a_said := a_said) (a_planned := a_planned) (a_cameOf := a_cameOf) (a_wasSaid := a_wasSaid) (a_kept := a_kept) (a_rowNow := a_rowNow) (a_rowBest := a_rowBest) (a_hasBy := a_hasBy) (a_isFit := a_isFit) (a_cameThen := a_cameThen) (a_images := a_images) (a_imageForce := a_imageForce) (a_imageX := a_imageX) (a_isMade := a_isMade)) q_m_X12_264 mv_X12_clauseHere ⟨(Nat.le_of_ble_eq_true rfl), (Nat.le_of_ble_eq_true rfl)⟩ [0] [1] (by decide) rfl rfl (by decide) (by decide) rfl rfl rfl rfl rfl (Nat.le_of_ble_eq_true rfl) ⟨(Nat.le_of_ble_eq_true rfl), (Nat.le_of_ble_eq_true rfl)⟩ dX12_readsAll_31 (fun r_3 u_2 H locs eu_2 hP hD hS => ?_)
  obtain rfl := eu_2
  have hP : va_P D vwCl [(a_length, .inl (cy 0, 7, .inl (fun _ => 0))), (m0, .inr (12, [.ref a_tape, .int 0, .int 0, .ref a_sign, .ref a_length, .ref a_clause, .ref a_clauses, .ref a_read, .int 0, .int 1, .int 0, .int 0, .int 0, .int 0, .int 0, .ref a_open, .int 0, .ref a_stack, .int 0, .ref a_word, .ref a_said, .int (-1), .int 0, .int (-1), .ref a_planned, .ref a_cameOf, .ref a_wasSaid, .int 0, .ref a_kept, .ref a_rowNow, .ref a_rowBest, .ref a_hasBy, .ref a_isFit, .ref a_cameThen, .long 0, .ref a_images, .ref a_imageForce, .ref a_imageX, .ref a_isMade]))] H := hP
  have hD : va_D A [(a_length, .inl (cy 0, 7, .inl (fun _ => 0))), (m0, .inr (12, [.ref a_tape, .int 0, .int 0, .ref a_sign, .ref a_length, .ref a_clause, .ref a_clauses, .ref a_read, .int 0, .int 1, .int 0, .int 0, .int 0, .int 0, .int 0, .ref a_open, .int 0, .ref a_stack, .int 0, .ref a_word, .ref a_said, .int (-1), .int 0, .int (-1), .ref a_planned, .ref a_cameOf, .ref a_wasSaid, .int 0, .ref a_kept, .ref a_rowNow, .ref a_rowBest, .ref a_hasBy, .ref a_isFit, .ref a_cameThen, .long 0, .ref a_images, .ref a_imageForce, .ref a_imageX, .ref a_isMade]))] := hD
  refine lv_istore_n (lv' := [(1, .int 0), (0, .ref m0)]) hx hb dX12_readsAll_34 rfl hl (by decide) rfl (fun ls hl => ?_)
  refine lv_iload_n hx hb dX12_readsAll_35 rfl (lv_at hl 0 rfl) ?_
  refine lv_if_eq (tgt := 66) hx hb dX12_readsAll_36 (by decide) (fun _ => ?_) (fun q => absurd q (by decide))
  refine lv_iload_n hx hb dX12_readsAll_66 rfl (lv_at hl 0 rfl) ?_
  refine lv_if_eq (tgt := 88) hx hb dX12_readsAll_67 (by decide) (fun _ => ?_) (fun q => absurd q (by decide))
  refine lv_aload_n hx hb dX12_readsAll_88 rfl (lv_at hl 1 rfl) ?_
  refine lv_iconst (v := 0) hx hb dX12_readsAll_89 (by decide) ?_
  refine va_put (D := D) (ci := 12) (v := .int 0) (ty := .int) (C := RX12) (T := TX12) (N := 39) hx hb hG inG_X12 tyX12 tyX12_ok nmX12 hown hE.1 hP hD hS 1 rfl rfl 1 (by decide) (hG _ q_f_X12_89) (fun _ h9 => h9) rfl (by decide +kernel) rfl rfl (Nat.le_of_ble_eq_true rfl) dX12_readsAll_90 (fun H locs hP hD hS => ?_)
  have hP : va_P D vwCl [(a_length, .inl (cy 0, 7, .inl (fun _ => 0))), (m0, .inr (12, [.ref a_tape, .int 0, .int 0, .ref a_sign, .ref a_length, .ref a_clause, .ref a_clauses, .ref a_read, .int 0, .int 1, .int 0, .int 0, .int 0, .int 0, .int 0, .ref a_open, .int 0, .ref a_stack, .int 0, .ref a_word, .ref a_said, .int (-1), .int 0, .int (-1), .ref a_planned, .ref a_cameOf, .ref a_wasSaid, .int 0, .ref a_kept, .ref a_rowNow, .ref a_rowBest, .ref a_hasBy, .ref a_isFit, .ref a_cameThen, .long 0, .ref a_images, .ref a_imageForce, .ref a_imageX, .ref a_isMade]))] H := hP
  have hD : va_D A [(a_length, .inl (cy 0, 7, .inl (fun _ => 0))), (m0, .inr (12, [.ref a_tape, .int 0, .int 0, .ref a_sign, .ref a_length, .ref a_clause, .ref a_clauses, .ref a_read, .int 0, .int 1, .int 0, .int 0, .int 0, .int 0, .int 0, .ref a_open, .int 0, .ref a_stack, .int 0, .ref a_word, .ref a_said, .int (-1), .int 0, .int (-1), .ref a_planned, .ref a_cameOf, .ref a_wasSaid, .int 0, .ref a_kept, .ref a_rowNow, .ref a_rowBest, .ref a_hasBy, .ref a_isFit, .ref a_cameThen, .long 0, .ref a_images, .ref a_imageForce, .ref a_imageX, .ref a_isMade]))] := hD
  refine lv_aload_n hx hb dX12_readsAll_93 rfl (lv_at hl 1 rfl) ?_
  refine va_get (D := D) (ci := 12) (v := .int 1) (C := RX12) (T := TX12) (N := 39) hx hb hG inG_X12 hown hE.1 hP 1 rfl rfl 9 (by decide) (hG _ q_f_X12_96) (fun _ h9 => h9) rfl dX12_readsAll_94 ?_
  refine lv_if_ne (tgt := 104) hx hb dX12_readsAll_97 (by decide) (fun _ => ?_) (fun q => absurd q (by decide))
  refine lv_iconst (v := 0) hx hb dX12_readsAll_104 (by decide) ?_
  exact KI.rt () F rfl (hP.sub [1] rfl) (hD.sub [1] (by decide) rfl) hS (rfl) (Nat.le_of_ble_eq_true rfl) (Nat.le_of_ble_eq_true rfl) dX12_readsAll_105

set_option maxHeartbeats 4000000 in
set_option maxRecDepth 100000 in
theorem c_readsAll6 (l : Launch) (D : va_G) (cy : Nat → ClassId) (m0 a_tape a_sign a_length a_clause a_clauses a_read a_open a_stack a_word a_said a_planned a_cameOf a_wasSaid a_kept a_rowNow a_rowBest a_hasBy a_isFit a_cameThen a_images a_imageForce a_imageX a_isMade : Nat) : KI l yX12_readsAll cX12_readsAll 2 (some .boolean) 4 88 D (kTY cy) [.ref m0] [(m0, .inr (12, [.ref a_tape, .int 0, .int 0, .ref a_sign, .ref a_length, .ref a_clause, .ref a_clauses, .ref a_read, .int 0, .int 0, .int 0, .int 6, .int 0, .int 0, .int 0, .ref a_open, .int 0, .ref a_stack, .int 0, .ref a_word, .ref a_said, .int (-1), .int 0, .int (-1), .ref a_planned, .ref a_cameOf, .ref a_wasSaid, .int 0, .ref a_kept, .ref a_rowNow, .ref a_rowBest, .ref a_hasBy, .ref a_isFit, .ref a_cameThen, .long 0, .ref a_images, .ref a_imageForce, .ref a_imageX, .ref a_isMade])), (a_length, .inl (cy 0, 7, .inl (fun _ => 0)))] (S := Unit) (fun r _ => r = 0) (fun _ => [(m0, .inr (12, [.ref a_tape, .int 0, .int 0, .ref a_sign, .ref a_length, .ref a_clause, .ref a_clauses, .ref a_read, .int 0, .int 1, .int 0, .int 6, .int 0, .int 0, .int 0, .ref a_open, .int 0, .ref a_stack, .int 0, .ref a_word, .ref a_said, .int (-1), .int 0, .int (-1), .ref a_planned, .ref a_cameOf, .ref a_wasSaid, .int 0, .ref a_kept, .ref a_rowNow, .ref a_rowBest, .ref a_hasBy, .ref a_isFit, .ref a_cameThen, .long 0, .ref a_images, .ref a_imageForce, .ref a_imageX, .ref a_isMade]))]) 0 0 := by
  refine KI.of (by decide) (Nat.le_of_ble_eq_true rfl) (fun p e s m below meth c ls A F hE hP hD hA hS hl => ?_)
  have F : kF p s m meth c cX12_readsAll 2 (some .boolean) _ RX12 := F
  obtain ⟨hx, hb, hr, hml, hown, hG, hlk⟩ := id F
  have hl : lv_has ls 2 [(0, .ref m0)] := hl
  refine lv_aload_n hx hb dX12_readsAll_0 rfl (lv_at hl 0 rfl) ?_
  refine va_get (D := D) (ci := 12) (v := .ref a_length) (C := RX12) (T := TX12) (N := 39) hx hb hG inG_X12 hown hE.1 hP 0 rfl rfl 4 (by decide) (hG _ q_f_X12_17) (fun _ h9 => h9) rfl dX12_readsAll_1 ?_
  refine lv_aload_n hx hb dX12_readsAll_4 rfl (lv_at hl 0 rfl) ?_
  refine va_get (D := D) (ci := 12) (v := .int 6) (C := RX12) (T := TX12) (N := 39) hx hb hG inG_X12 hown hE.1 hP 0 rfl rfl 11 (by decide) (hG _ q_f_X12_157) (fun _ h9 => h9) rfl dX12_readsAll_5 ?_
  refine lv_iconst (v := 0) hx hb dX12_readsAll_8 (by decide) ?_
  refine va_iast hx hb hE.1 hP hD hS 1 0 rfl rfl (by unfold vp_in; decide) dX12_readsAll_9 (fun H locs hP hD hS => ?_)
  rw [k_upd0] at hP hD
  have hP : va_P D vwCl [(m0, .inr (12, [.ref a_tape, .int 0, .int 0, .ref a_sign, .ref a_length, .ref a_clause, .ref a_clauses, .ref a_read, .int 0, .int 0, .int 0, .int 6, .int 0, .int 0, .int 0, .ref a_open, .int 0, .ref a_stack, .int 0, .ref a_word, .ref a_said, .int (-1), .int 0, .int (-1), .ref a_planned, .ref a_cameOf, .ref a_wasSaid, .int 0, .ref a_kept, .ref a_rowNow, .ref a_rowBest, .ref a_hasBy, .ref a_isFit, .ref a_cameThen, .long 0, .ref a_images, .ref a_imageForce, .ref a_imageX, .ref a_isMade])), (a_length, .inl (cy 0, 7, .inl (fun _ => 0)))] H := hP
  have hD : va_D A [(m0, .inr (12, [.ref a_tape, .int 0, .int 0, .ref a_sign, .ref a_length, .ref a_clause, .ref a_clauses, .ref a_read, .int 0, .int 0, .int 0, .int 6, .int 0, .int 0, .int 0, .ref a_open, .int 0, .ref a_stack, .int 0, .ref a_word, .ref a_said, .int (-1), .int 0, .int (-1), .ref a_planned, .ref a_cameOf, .ref a_wasSaid, .int 0, .ref a_kept, .ref a_rowNow, .ref a_rowBest, .ref a_hasBy, .ref a_isFit, .ref a_cameThen, .long 0, .ref a_images, .ref a_imageForce, .ref a_imageX, .ref a_isMade])), (a_length, .inl (cy 0, 7, .inl (fun _ => 0)))] := hD
  refine lv_aload_n hx hb dX12_readsAll_10 rfl (lv_at hl 0 rfl) ?_
  refine lv_iconst (v := 0) hx hb dX12_readsAll_11 (by decide) ?_
  refine va_put (D := D) (ci := 12) (v := .int 0) (ty := .int) (C := RX12) (T := TX12) (N := 39) hx hb hG inG_X12 tyX12 tyX12_ok nmX12 hown hE.1 hP hD hS 0 rfl rfl 14 (by decide) (hG _ q_f_X12_255) (fun _ h9 => h9) rfl (by decide +kernel) rfl rfl (Nat.le_of_ble_eq_true rfl) dX12_readsAll_12 (fun H locs hP hD hS => ?_)
  have hP : va_P D vwCl [(m0, .inr (12, [.ref a_tape, .int 0, .int 0, .ref a_sign, .ref a_length, .ref a_clause, .ref a_clauses, .ref a_read, .int 0, .int 0, .int 0, .int 6, .int 0, .int 0, .int 0, .ref a_open, .int 0, .ref a_stack, .int 0, .ref a_word, .ref a_said, .int (-1), .int 0, .int (-1), .ref a_planned, .ref a_cameOf, .ref a_wasSaid, .int 0, .ref a_kept, .ref a_rowNow, .ref a_rowBest, .ref a_hasBy, .ref a_isFit, .ref a_cameThen, .long 0, .ref a_images, .ref a_imageForce, .ref a_imageX, .ref a_isMade])), (a_length, .inl (cy 0, 7, .inl (fun _ => 0)))] H := hP
  have hD : va_D A [(m0, .inr (12, [.ref a_tape, .int 0, .int 0, .ref a_sign, .ref a_length, .ref a_clause, .ref a_clauses, .ref a_read, .int 0, .int 0, .int 0, .int 6, .int 0, .int 0, .int 0, .ref a_open, .int 0, .ref a_stack, .int 0, .ref a_word, .ref a_said, .int (-1), .int 0, .int (-1), .ref a_planned, .ref a_cameOf, .ref a_wasSaid, .int 0, .ref a_kept, .ref a_rowNow, .ref a_rowBest, .ref a_hasBy, .ref a_isFit, .ref a_cameThen, .long 0, .ref a_images, .ref a_imageForce, .ref a_imageX, .ref a_isMade])), (a_length, .inl (cy 0, 7, .inl (fun _ => 0)))] := hD
  refine lv_aload_n hx hb dX12_readsAll_15 rfl (lv_at hl 0 rfl) ?_
  refine lv_iconst (v := 0) hx hb dX12_readsAll_16 (by decide) ?_
  refine va_put (D := D) (ci := 12) (v := .int 0) (ty := .int) (C := RX12) (T := TX12) (N := 39) hx hb hG inG_X12 tyX12 tyX12_ok nmX12 hown hE.1 hP hD hS 0 rfl rfl 8 (by decide) (hG _ q_f_X12_99) (fun _ h9 => h9) rfl (by decide +kernel) rfl rfl (Nat.le_of_ble_eq_true rfl) dX12_readsAll_17 (fun H locs hP hD hS => ?_)
  have hP : va_P D vwCl [(m0, .inr (12, [.ref a_tape, .int 0, .int 0, .ref a_sign, .ref a_length, .ref a_clause, .ref a_clauses, .ref a_read, .int 0, .int 0, .int 0, .int 6, .int 0, .int 0, .int 0, .ref a_open, .int 0, .ref a_stack, .int 0, .ref a_word, .ref a_said, .int (-1), .int 0, .int (-1), .ref a_planned, .ref a_cameOf, .ref a_wasSaid, .int 0, .ref a_kept, .ref a_rowNow, .ref a_rowBest, .ref a_hasBy, .ref a_isFit, .ref a_cameThen, .long 0, .ref a_images, .ref a_imageForce, .ref a_imageX, .ref a_isMade])), (a_length, .inl (cy 0, 7, .inl (fun _ => 0)))] H := hP
  have hD : va_D A [(m0, .inr (12, [.ref a_tape, .int 0, .int 0, .ref a_sign, .ref a_length, .ref a_clause, .ref a_clauses, .ref a_read, .int 0, .int 0, .int 0, .int 6, .int 0, .int 0, .int 0, .ref a_open, .int 0, .ref a_stack, .int 0, .ref a_word, .ref a_said, .int (-1), .int 0, .int (-1), .ref a_planned, .ref a_cameOf, .ref a_wasSaid, .int 0, .ref a_kept, .ref a_rowNow, .ref a_rowBest, .ref a_hasBy, .ref a_isFit, .ref a_cameThen, .long 0, .ref a_images, .ref a_imageForce, .ref a_imageX, .ref a_isMade])), (a_length, .inl (cy 0, 7, .inl (fun _ => 0)))] := hD
  refine lv_aload_n hx hb dX12_readsAll_20 rfl (lv_at hl 0 rfl) ?_
  refine lv_iconst (v := 0) hx hb dX12_readsAll_21 (by decide) ?_
  refine va_put (D := D) (ci := 12) (v := .int 0) (ty := .int) (C := RX12) (T := TX12) (N := 39) hx hb hG inG_X12 tyX12 tyX12_ok nmX12 hown hE.1 hP hD hS 0 rfl rfl 9 (by decide) (hG _ q_f_X12_96) (fun _ h9 => h9) rfl (by decide +kernel) rfl rfl (Nat.le_of_ble_eq_true rfl) dX12_readsAll_22 (fun H locs hP hD hS => ?_)
  have hP : va_P D vwCl [(m0, .inr (12, [.ref a_tape, .int 0, .int 0, .ref a_sign, .ref a_length, .ref a_clause, .ref a_clauses, .ref a_read, .int 0, .int 0, .int 0, .int 6, .int 0, .int 0, .int 0, .ref a_open, .int 0, .ref a_stack, .int 0, .ref a_word, .ref a_said, .int (-1), .int 0, .int (-1), .ref a_planned, .ref a_cameOf, .ref a_wasSaid, .int 0, .ref a_kept, .ref a_rowNow, .ref a_rowBest, .ref a_hasBy, .ref a_isFit, .ref a_cameThen, .long 0, .ref a_images, .ref a_imageForce, .ref a_imageX, .ref a_isMade])), (a_length, .inl (cy 0, 7, .inl (fun _ => 0)))] H := hP
  have hD : va_D A [(m0, .inr (12, [.ref a_tape, .int 0, .int 0, .ref a_sign, .ref a_length, .ref a_clause, .ref a_clauses, .ref a_read, .int 0, .int 0, .int 0, .int 6, .int 0, .int 0, .int 0, .ref a_open, .int 0, .ref a_stack, .int 0, .ref a_word, .ref a_said, .int (-1), .int 0, .int (-1), .ref a_planned, .ref a_cameOf, .ref a_wasSaid, .int 0, .ref a_kept, .ref a_rowNow, .ref a_rowBest, .ref a_hasBy, .ref a_isFit, .ref a_cameThen, .long 0, .ref a_images, .ref a_imageForce, .ref a_imageX, .ref a_isMade])), (a_length, .inl (cy 0, 7, .inl (fun _ => 0)))] := hD
  refine lv_aload_n hx hb dX12_readsAll_25 rfl (lv_at hl 0 rfl) ?_
  refine lv_iconst (v := 0) hx hb dX12_readsAll_26 (by decide) ?_
  refine va_put (D := D) (ci := 12) (v := .int 0) (ty := .int) (C := RX12) (T := TX12) (N := 39) hx hb hG inG_X12 tyX12 tyX12_ok nmX12 hown hE.1 hP hD hS 0 rfl rfl 12 (by decide) (hG _ q_f_X12_160) (fun _ h9 => h9) rfl (by decide +kernel) rfl rfl (Nat.le_of_ble_eq_true rfl) dX12_readsAll_27 (fun H locs hP hD hS => ?_)
  have hP : va_P D vwCl [(m0, .inr (12, [.ref a_tape, .int 0, .int 0, .ref a_sign, .ref a_length, .ref a_clause, .ref a_clauses, .ref a_read, .int 0, .int 0, .int 0, .int 6, .int 0, .int 0, .int 0, .ref a_open, .int 0, .ref a_stack, .int 0, .ref a_word, .ref a_said, .int (-1), .int 0, .int (-1), .ref a_planned, .ref a_cameOf, .ref a_wasSaid, .int 0, .ref a_kept, .ref a_rowNow, .ref a_rowBest, .ref a_hasBy, .ref a_isFit, .ref a_cameThen, .long 0, .ref a_images, .ref a_imageForce, .ref a_imageX, .ref a_isMade])), (a_length, .inl (cy 0, 7, .inl (fun _ => 0)))] H := hP
  have hD : va_D A [(m0, .inr (12, [.ref a_tape, .int 0, .int 0, .ref a_sign, .ref a_length, .ref a_clause, .ref a_clauses, .ref a_read, .int 0, .int 0, .int 0, .int 6, .int 0, .int 0, .int 0, .ref a_open, .int 0, .ref a_stack, .int 0, .ref a_word, .ref a_said, .int (-1), .int 0, .int (-1), .ref a_planned, .ref a_cameOf, .ref a_wasSaid, .int 0, .ref a_kept, .ref a_rowNow, .ref a_rowBest, .ref a_hasBy, .ref a_isFit, .ref a_cameThen, .long 0, .ref a_images, .ref a_imageForce, .ref a_imageX, .ref a_isMade])), (a_length, .inl (cy 0, 7, .inl (fun _ => 0)))] := hD
  refine lv_aload_n hx hb dX12_readsAll_30 rfl (lv_at hl 0 rfl) ?_
  refine kwVI (wr := [(a_length, .inl (cy 0, 7, .inl (fun _ => 0)))]) (As := []) (rest := []) F hE hP hD hS hA hl.1 (c_clauseHere6 l D cy (m0 := m0) (a_tape := a_tape) (a_sign := a_sign) (a_length := a_length) (a_clause := a_clause) (a_clauses := a_clauses) (a_read := a_read) (a_open := a_open) (a_stack := a_stack) (a_word := a_word) (a_said := a_said) (a_planned := a_planned) (a_cameOf := a_cameOf) (a_wasSaid := a_wasSaid) (a_kept := a_kept) (a_rowNow := a_rowNow) (a_rowBest := a_rowBest) (a_hasBy := a_hasBy) (a_isFit := a_isFit) (a_cameThen := a_cameThen) (a_images := a_images) (a_imageForce := a_imageForce) (a_imageX := a_imageX) (a_isMade := a_isMade)) q_m_X12_264 mv_X12_clauseHere ⟨(Nat.le_of_ble_eq_true rfl), (Nat.le_of_ble_eq_true rfl)⟩ [0] [1] (by decide) rfl rfl (by decide) (by decide) rfl rfl rfl rfl rfl (Nat.le_of_ble_eq_true rfl) ⟨(Nat.le_of_ble_eq_true rfl), (Nat.le_of_ble_eq_true rfl)⟩ dX12_readsAll_31 (fun r_3 u_2 H locs eu_2 hP hD hS => ?_)
  obtain rfl := eu_2
  have hP : va_P D vwCl [(a_length, .inl (cy 0, 7, .inl (fun _ => 0))), (m0, .inr (12, [.ref a_tape, .int 0, .int 0, .ref a_sign, .ref a_length, .ref a_clause, .ref a_clauses, .ref a_read, .int 0, .int 1, .int 0, .int 6, .int 0, .int 0, .int 0, .ref a_open, .int 0, .ref a_stack, .int 0, .ref a_word, .ref a_said, .int (-1), .int 0, .int (-1), .ref a_planned, .ref a_cameOf, .ref a_wasSaid, .int 0, .ref a_kept, .ref a_rowNow, .ref a_rowBest, .ref a_hasBy, .ref a_isFit, .ref a_cameThen, .long 0, .ref a_images, .ref a_imageForce, .ref a_imageX, .ref a_isMade]))] H := hP
  have hD : va_D A [(a_length, .inl (cy 0, 7, .inl (fun _ => 0))), (m0, .inr (12, [.ref a_tape, .int 0, .int 0, .ref a_sign, .ref a_length, .ref a_clause, .ref a_clauses, .ref a_read, .int 0, .int 1, .int 0, .int 6, .int 0, .int 0, .int 0, .ref a_open, .int 0, .ref a_stack, .int 0, .ref a_word, .ref a_said, .int (-1), .int 0, .int (-1), .ref a_planned, .ref a_cameOf, .ref a_wasSaid, .int 0, .ref a_kept, .ref a_rowNow, .ref a_rowBest, .ref a_hasBy, .ref a_isFit, .ref a_cameThen, .long 0, .ref a_images, .ref a_imageForce, .ref a_imageX, .ref a_isMade]))] := hD
  refine lv_istore_n (lv' := [(1, .int 0), (0, .ref m0)]) hx hb dX12_readsAll_34 rfl hl (by decide) rfl (fun ls hl => ?_)
  refine lv_iload_n hx hb dX12_readsAll_35 rfl (lv_at hl 0 rfl) ?_
  refine lv_if_eq (tgt := 66) hx hb dX12_readsAll_36 (by decide) (fun _ => ?_) (fun q => absurd q (by decide))
  refine lv_iload_n hx hb dX12_readsAll_66 rfl (lv_at hl 0 rfl) ?_
  refine lv_if_eq (tgt := 88) hx hb dX12_readsAll_67 (by decide) (fun _ => ?_) (fun q => absurd q (by decide))
  refine lv_aload_n hx hb dX12_readsAll_88 rfl (lv_at hl 1 rfl) ?_
  refine lv_iconst (v := 0) hx hb dX12_readsAll_89 (by decide) ?_
  refine va_put (D := D) (ci := 12) (v := .int 0) (ty := .int) (C := RX12) (T := TX12) (N := 39) hx hb hG inG_X12 tyX12 tyX12_ok nmX12 hown hE.1 hP hD hS 1 rfl rfl 1 (by decide) (hG _ q_f_X12_89) (fun _ h9 => h9) rfl (by decide +kernel) rfl rfl (Nat.le_of_ble_eq_true rfl) dX12_readsAll_90 (fun H locs hP hD hS => ?_)
  have hP : va_P D vwCl [(a_length, .inl (cy 0, 7, .inl (fun _ => 0))), (m0, .inr (12, [.ref a_tape, .int 0, .int 0, .ref a_sign, .ref a_length, .ref a_clause, .ref a_clauses, .ref a_read, .int 0, .int 1, .int 0, .int 6, .int 0, .int 0, .int 0, .ref a_open, .int 0, .ref a_stack, .int 0, .ref a_word, .ref a_said, .int (-1), .int 0, .int (-1), .ref a_planned, .ref a_cameOf, .ref a_wasSaid, .int 0, .ref a_kept, .ref a_rowNow, .ref a_rowBest, .ref a_hasBy, .ref a_isFit, .ref a_cameThen, .long 0, .ref a_images, .ref a_imageForce, .ref a_imageX, .ref a_isMade]))] H := hP
  have hD : va_D A [(a_length, .inl (cy 0, 7, .inl (fun _ => 0))), (m0, .inr (12, [.ref a_tape, .int 0, .int 0, .ref a_sign, .ref a_length, .ref a_clause, .ref a_clauses, .ref a_read, .int 0, .int 1, .int 0, .int 6, .int 0, .int 0, .int 0, .ref a_open, .int 0, .ref a_stack, .int 0, .ref a_word, .ref a_said, .int (-1), .int 0, .int (-1), .ref a_planned, .ref a_cameOf, .ref a_wasSaid, .int 0, .ref a_kept, .ref a_rowNow, .ref a_rowBest, .ref a_hasBy, .ref a_isFit, .ref a_cameThen, .long 0, .ref a_images, .ref a_imageForce, .ref a_imageX, .ref a_isMade]))] := hD
  refine lv_aload_n hx hb dX12_readsAll_93 rfl (lv_at hl 1 rfl) ?_
  refine va_get (D := D) (ci := 12) (v := .int 1) (C := RX12) (T := TX12) (N := 39) hx hb hG inG_X12 hown hE.1 hP 1 rfl rfl 9 (by decide) (hG _ q_f_X12_96) (fun _ h9 => h9) rfl dX12_readsAll_94 ?_
  refine lv_if_ne (tgt := 104) hx hb dX12_readsAll_97 (by decide) (fun _ => ?_) (fun q => absurd q (by decide))
  refine lv_iconst (v := 0) hx hb dX12_readsAll_104 (by decide) ?_
  exact KI.rt () F rfl (hP.sub [1] rfl) (hD.sub [1] (by decide) rfl) hS (rfl) (Nat.le_of_ble_eq_true rfl) (Nat.le_of_ble_eq_true rfl) dX12_readsAll_105

set_option maxHeartbeats 4000000 in
set_option maxRecDepth 100000 in
theorem m_rule (l : Launch) (D : va_G) (cy : Nat → ClassId) (m0 a_tape a_sign a_length a_clause a_clauses a_read a_open a_stack a_word a_said a_planned a_cameOf a_wasSaid a_kept a_rowNow a_rowBest a_hasBy a_isFit a_cameThen a_images a_imageForce a_imageX a_isMade : Nat) : KI l yX12_rule cX12_rule 1 (some .int) 4 89 D (kTY cy) [.ref m0] [(m0, .inr (12, [.ref a_tape, .int 0, .int 0, .ref a_sign, .ref a_length, .ref a_clause, .ref a_clauses, .ref a_read, .int 0, .int 0, .int 0, .int 0, .int 0, .int 0, .int 0, .ref a_open, .int 0, .ref a_stack, .int 0, .ref a_word, .ref a_said, .int (-1), .int 0, .int (-1), .ref a_planned, .ref a_cameOf, .ref a_wasSaid, .int 0, .ref a_kept, .ref a_rowNow, .ref a_rowBest, .ref a_hasBy, .ref a_isFit, .ref a_cameThen, .long 0, .ref a_images, .ref a_imageForce, .ref a_imageX, .ref a_isMade])), (a_length, .inl (cy 0, 7, .inl (fun _ => 0))), (a_clauses, .inl (cy 0, 6, .inl (fun _ => 0)))] (S := Unit) (fun r _ => r = -3) (fun _ => []) 0 0 := by
  refine KI.of (by decide) (Nat.le_of_ble_eq_true rfl) (fun p e s m below meth c ls A F hE hP hD hA hS hl => ?_)
  have F : kF p s m meth c cX12_rule 1 (some .int) _ RX12 := F
  obtain ⟨hx, hb, hr, hml, hown, hG, hlk⟩ := id F
  have hl : lv_has ls 1 [(0, .ref m0)] := hl
  refine lv_aload_n hx hb dX12_rule_0 rfl (lv_at hl 0 rfl) ?_
  refine va_get (D := D) (ci := 12) (v := .int 0) (C := RX12) (T := TX12) (N := 39) hx hb hG inG_X12 hown hE.1 hP 0 rfl rfl 2 (by decide) (hG _ q_f_X12_267) (fun _ h9 => h9) rfl dX12_rule_1 ?_
  refine lv_bipush (v := 6) hx hb dX12_rule_4 (by decide) ?_
  refine lv_icmp_ne (tgt := 11) hx hb dX12_rule_6 (by decide) (fun _ => ?_) (fun q => absurd q (by decide))
  refine lv_aload_n hx hb dX12_rule_11 rfl (lv_at hl 0 rfl) ?_
  refine lv_aload_n hx hb dX12_rule_12 rfl (lv_at hl 0 rfl) ?_
  refine va_get (D := D) (ci := 12) (v := .int 0) (C := RX12) (T := TX12) (N := 39) hx hb hG inG_X12 hown hE.1 hP 0 rfl rfl 2 (by decide) (hG _ q_f_X12_267) (fun _ h9 => h9) rfl dX12_rule_13 ?_
  refine va_put (D := D) (ci := 12) (v := .int 0) (ty := .int) (C := RX12) (T := TX12) (N := 39) hx hb hG inG_X12 tyX12 tyX12_ok nmX12 hown hE.1 hP hD hS 0 rfl rfl 11 (by decide) (hG _ q_f_X12_157) (fun _ h9 => h9) rfl (by decide +kernel) rfl rfl (Nat.le_of_ble_eq_true rfl) dX12_rule_16 (fun H locs hP hD hS => ?_)
  have hP : va_P D vwCl [(m0, .inr (12, [.ref a_tape, .int 0, .int 0, .ref a_sign, .ref a_length, .ref a_clause, .ref a_clauses, .ref a_read, .int 0, .int 0, .int 0, .int 0, .int 0, .int 0, .int 0, .ref a_open, .int 0, .ref a_stack, .int 0, .ref a_word, .ref a_said, .int (-1), .int 0, .int (-1), .ref a_planned, .ref a_cameOf, .ref a_wasSaid, .int 0, .ref a_kept, .ref a_rowNow, .ref a_rowBest, .ref a_hasBy, .ref a_isFit, .ref a_cameThen, .long 0, .ref a_images, .ref a_imageForce, .ref a_imageX, .ref a_isMade])), (a_length, .inl (cy 0, 7, .inl (fun _ => 0))), (a_clauses, .inl (cy 0, 6, .inl (fun _ => 0)))] H := hP
  have hD : va_D A [(m0, .inr (12, [.ref a_tape, .int 0, .int 0, .ref a_sign, .ref a_length, .ref a_clause, .ref a_clauses, .ref a_read, .int 0, .int 0, .int 0, .int 0, .int 0, .int 0, .int 0, .ref a_open, .int 0, .ref a_stack, .int 0, .ref a_word, .ref a_said, .int (-1), .int 0, .int (-1), .ref a_planned, .ref a_cameOf, .ref a_wasSaid, .int 0, .ref a_kept, .ref a_rowNow, .ref a_rowBest, .ref a_hasBy, .ref a_isFit, .ref a_cameThen, .long 0, .ref a_images, .ref a_imageForce, .ref a_imageX, .ref a_isMade])), (a_length, .inl (cy 0, 7, .inl (fun _ => 0))), (a_clauses, .inl (cy 0, 6, .inl (fun _ => 0)))] := hD
  refine lv_aload_n hx hb dX12_rule_19 rfl (lv_at hl 0 rfl) ?_
  refine va_get (D := D) (ci := 12) (v := .ref a_clauses) (C := RX12) (T := TX12) (N := 39) hx hb hG inG_X12 hown hE.1 hP 0 rfl rfl 6 (by decide) (hG _ q_f_X12_23) (fun _ h9 => h9) rfl dX12_rule_20 ?_
  refine lv_aload_n hx hb dX12_rule_23 rfl (lv_at hl 0 rfl) ?_
  refine va_get (D := D) (ci := 12) (v := .int 0) (C := RX12) (T := TX12) (N := 39) hx hb hG inG_X12 hown hE.1 hP 0 rfl rfl 11 (by decide) (hG _ q_f_X12_157) (fun _ h9 => h9) rfl dX12_rule_24 ?_
  refine lv_iconst (v := 0) hx hb dX12_rule_27 (by decide) ?_
  refine va_iast hx hb hE.1 hP hD hS 2 0 rfl rfl (by unfold vp_in; decide) dX12_rule_28 (fun H locs hP hD hS => ?_)
  rw [k_upd0] at hP hD
  have hP : va_P D vwCl [(m0, .inr (12, [.ref a_tape, .int 0, .int 0, .ref a_sign, .ref a_length, .ref a_clause, .ref a_clauses, .ref a_read, .int 0, .int 0, .int 0, .int 0, .int 0, .int 0, .int 0, .ref a_open, .int 0, .ref a_stack, .int 0, .ref a_word, .ref a_said, .int (-1), .int 0, .int (-1), .ref a_planned, .ref a_cameOf, .ref a_wasSaid, .int 0, .ref a_kept, .ref a_rowNow, .ref a_rowBest, .ref a_hasBy, .ref a_isFit, .ref a_cameThen, .long 0, .ref a_images, .ref a_imageForce, .ref a_imageX, .ref a_isMade])), (a_length, .inl (cy 0, 7, .inl (fun _ => 0))), (a_clauses, .inl (cy 0, 6, .inl (fun _ => 0)))] H := hP
  have hD : va_D A [(m0, .inr (12, [.ref a_tape, .int 0, .int 0, .ref a_sign, .ref a_length, .ref a_clause, .ref a_clauses, .ref a_read, .int 0, .int 0, .int 0, .int 0, .int 0, .int 0, .int 0, .ref a_open, .int 0, .ref a_stack, .int 0, .ref a_word, .ref a_said, .int (-1), .int 0, .int (-1), .ref a_planned, .ref a_cameOf, .ref a_wasSaid, .int 0, .ref a_kept, .ref a_rowNow, .ref a_rowBest, .ref a_hasBy, .ref a_isFit, .ref a_cameThen, .long 0, .ref a_images, .ref a_imageForce, .ref a_imageX, .ref a_isMade])), (a_length, .inl (cy 0, 7, .inl (fun _ => 0))), (a_clauses, .inl (cy 0, 6, .inl (fun _ => 0)))] := hD
  refine lv_aload_n hx hb dX12_rule_29 rfl (lv_at hl 0 rfl) ?_
  refine kwVI (wr := [(a_clauses, .inl (cy 0, 6, .inl (fun _ => 0)))]) (As := []) (rest := []) F hE hP hD hS hA hl.1 (c_readsAll0 l D cy (m0 := m0) (a_tape := a_tape) (a_sign := a_sign) (a_length := a_length) (a_clause := a_clause) (a_clauses := a_clauses) (a_read := a_read) (a_open := a_open) (a_stack := a_stack) (a_word := a_word) (a_said := a_said) (a_planned := a_planned) (a_cameOf := a_cameOf) (a_wasSaid := a_wasSaid) (a_kept := a_kept) (a_rowNow := a_rowNow) (a_rowBest := a_rowBest) (a_hasBy := a_hasBy) (a_isFit := a_isFit) (a_cameThen := a_cameThen) (a_images := a_images) (a_imageForce := a_imageForce) (a_imageX := a_imageX) (a_isMade := a_isMade)) q_m_X12_270 mv_X12_readsAll ⟨(Nat.le_of_ble_eq_true rfl), (Nat.le_of_ble_eq_true rfl)⟩ [0, 1] [2] (by decide) rfl rfl (by decide) (by decide) rfl rfl rfl rfl rfl (Nat.le_of_ble_eq_true rfl) ⟨(Nat.le_of_ble_eq_true rfl), (Nat.le_of_ble_eq_true rfl)⟩ dX12_rule_30 (fun r_3 u_2 H locs eu_2 hP hD hS => ?_)
  obtain rfl := eu_2
  have hP : va_P D vwCl [(a_clauses, .inl (cy 0, 6, .inl (fun _ => 0))), (m0, .inr (12, [.ref a_tape, .int 0, .int 0, .ref a_sign, .ref a_length, .ref a_clause, .ref a_clauses, .ref a_read, .int 0, .int 1, .int 0, .int 0, .int 0, .int 0, .int 0, .ref a_open, .int 0, .ref a_stack, .int 0, .ref a_word, .ref a_said, .int (-1), .int 0, .int (-1), .ref a_planned, .ref a_cameOf, .ref a_wasSaid, .int 0, .ref a_kept, .ref a_rowNow, .ref a_rowBest, .ref a_hasBy, .ref a_isFit, .ref a_cameThen, .long 0, .ref a_images, .ref a_imageForce, .ref a_imageX, .ref a_isMade]))] H := hP
  have hD : va_D A [(a_clauses, .inl (cy 0, 6, .inl (fun _ => 0))), (m0, .inr (12, [.ref a_tape, .int 0, .int 0, .ref a_sign, .ref a_length, .ref a_clause, .ref a_clauses, .ref a_read, .int 0, .int 1, .int 0, .int 0, .int 0, .int 0, .int 0, .ref a_open, .int 0, .ref a_stack, .int 0, .ref a_word, .ref a_said, .int (-1), .int 0, .int (-1), .ref a_planned, .ref a_cameOf, .ref a_wasSaid, .int 0, .ref a_kept, .ref a_rowNow, .ref a_rowBest, .ref a_hasBy, .ref a_isFit, .ref a_cameThen, .long 0, .ref a_images, .ref a_imageForce, .ref a_imageX, .ref a_isMade]))] := hD
  refine lv_if_ne (tgt := 44) hx hb dX12_rule_33 (by decide) (fun q => absurd q (by decide)) (fun _ => ?_)
  refine lv_bipush (v := (-2)) hx hb dX12_rule_36 (by decide) ?_
  refine lv_aload_n hx hb dX12_rule_38 rfl (lv_at hl 0 rfl) ?_
  refine va_get (D := D) (ci := 12) (v := .int 1) (C := RX12) (T := TX12) (N := 39) hx hb hG inG_X12 hown hE.1 hP 1 rfl rfl 9 (by decide) (hG _ q_f_X12_96) (fun _ h9 => h9) rfl dX12_rule_39 ?_
  refine lv_isub hx hb dX12_rule_42 ?_
  refine k_top (z := (-3)) (by decide) ?_
  exact KI.rt () F rfl (hP.sub [] rfl) (hD.sub [] (by decide) rfl) hS (rfl) (Nat.le_of_ble_eq_true rfl) (Nat.le_of_ble_eq_true rfl) dX12_rule_43

set_option maxHeartbeats 4000000 in
set_option maxRecDepth 100000 in
theorem m_green (l : Launch) (D : va_G) (cy : Nat → ClassId) (m0 a_tape a_sign a_length a_clause a_clauses a_read a_open a_stack a_word a_said a_planned a_cameOf a_wasSaid a_kept a_rowNow a_rowBest a_hasBy a_isFit a_cameThen a_images a_imageForce a_imageX a_isMade : Nat) : KI l yX12_green cX12_green 2 (some .int) 5 109 D (kTY cy) [.ref m0] [(m0, .inr (12, [.ref a_tape, .int 0, .int 0, .ref a_sign, .ref a_length, .ref a_clause, .ref a_clauses, .ref a_read, .int 0, .int 0, .int 0, .int 0, .int 0, .int 0, .int 0, .ref a_open, .int 0, .ref a_stack, .int 0, .ref a_word, .ref a_said, .int (-1), .int 0, .int (-1), .ref a_planned, .ref a_cameOf, .ref a_wasSaid, .int 0, .ref a_kept, .ref a_rowNow, .ref a_rowBest, .ref a_hasBy, .ref a_isFit, .ref a_cameThen, .long 0, .ref a_images, .ref a_imageForce, .ref a_imageX, .ref a_isMade])), (a_read, .inl (cy 0, 84, .inl (fun _ => 0))), (a_length, .inl (cy 0, 7, .inl (fun _ => 0)))] (S := Unit) (fun r _ => r = -3) (fun _ => []) 0 0 := by
  refine KI.of (by decide) (Nat.le_of_ble_eq_true rfl) (fun p e s m below meth c ls A F hE hP hD hA hS hl => ?_)
  have F : kF p s m meth c cX12_green 2 (some .int) _ RX12 := F
  obtain ⟨hx, hb, hr, hml, hown, hG, hlk⟩ := id F
  have hl : lv_has ls 2 [(0, .ref m0)] := hl
  refine lv_aload_n hx hb dX12_green_0 rfl (lv_at hl 0 rfl) ?_
  refine lv_bipush (v := 6) hx hb dX12_green_1 (by decide) ?_
  refine va_put (D := D) (ci := 12) (v := .int 6) (ty := .int) (C := RX12) (T := TX12) (N := 39) hx hb hG inG_X12 tyX12 tyX12_ok nmX12 hown hE.1 hP hD hS 0 rfl rfl 11 (by decide) (hG _ q_f_X12_157) (fun _ h9 => h9) rfl (by decide +kernel) rfl rfl (Nat.le_of_ble_eq_true rfl) dX12_green_3 (fun H locs hP hD hS => ?_)
  have hP : va_P D vwCl [(m0, .inr (12, [.ref a_tape, .int 0, .int 0, .ref a_sign, .ref a_length, .ref a_clause, .ref a_clauses, .ref a_read, .int 0, .int 0, .int 0, .int 6, .int 0, .int 0, .int 0, .ref a_open, .int 0, .ref a_stack, .int 0, .ref a_word, .ref a_said, .int (-1), .int 0, .int (-1), .ref a_planned, .ref a_cameOf, .ref a_wasSaid, .int 0, .ref a_kept, .ref a_rowNow, .ref a_rowBest, .ref a_hasBy, .ref a_isFit, .ref a_cameThen, .long 0, .ref a_images, .ref a_imageForce, .ref a_imageX, .ref a_isMade])), (a_read, .inl (cy 0, 84, .inl (fun _ => 0))), (a_length, .inl (cy 0, 7, .inl (fun _ => 0)))] H := hP
  have hD : va_D A [(m0, .inr (12, [.ref a_tape, .int 0, .int 0, .ref a_sign, .ref a_length, .ref a_clause, .ref a_clauses, .ref a_read, .int 0, .int 0, .int 0, .int 6, .int 0, .int 0, .int 0, .ref a_open, .int 0, .ref a_stack, .int 0, .ref a_word, .ref a_said, .int (-1), .int 0, .int (-1), .ref a_planned, .ref a_cameOf, .ref a_wasSaid, .int 0, .ref a_kept, .ref a_rowNow, .ref a_rowBest, .ref a_hasBy, .ref a_isFit, .ref a_cameThen, .long 0, .ref a_images, .ref a_imageForce, .ref a_imageX, .ref a_isMade])), (a_read, .inl (cy 0, 84, .inl (fun _ => 0))), (a_length, .inl (cy 0, 7, .inl (fun _ => 0)))] := hD
  refine lv_iconst (v := 0) hx hb dX12_green_6 (by decide) ?_
  refine lv_istore_n (lv' := [(1, .int 0), (0, .ref m0)]) hx hb dX12_green_7 rfl hl (by decide) rfl (fun ls hl => ?_)
  have lp : ∀ (fu k : Nat) (g0 : Nat → Int32) (H : Heap) (locs : List Loc) (ls : Array Slot), k + fu = 84 → va_P D vwCl [(m0, .inr (12, [.ref a_tape, .int 0, .int 0, .ref a_sign, .ref a_length, .ref a_clause, .ref a_clauses, .ref a_read, .int 0, .int 0, .int 0, .int 6, .int 0, .int 0, .int 0, .ref a_open, .int 0, .ref a_stack, .int 0, .ref a_word, .ref a_said, .int (-1), .int 0, .int (-1), .ref a_planned, .ref a_cameOf, .ref a_wasSaid, .int 0, .ref a_kept, .ref a_rowNow, .ref a_rowBest, .ref a_hasBy, .ref a_isFit, .ref a_cameThen, .long 0, .ref a_images, .ref a_imageForce, .ref a_imageX, .ref a_isMade])), (a_read, .inl (cy 0, 84, .inl (g0))), (a_length, .inl (cy 0, 7, .inl (fun _ => 0)))] H → va_D A [(m0, .inr (12, [.ref a_tape, .int 0, .int 0, .ref a_sign, .ref a_length, .ref a_clause, .ref a_clauses, .ref a_read, .int 0, .int 0, .int 0, .int 6, .int 0, .int 0, .int 0, .ref a_open, .int 0, .ref a_stack, .int 0, .ref a_word, .ref a_said, .int (-1), .int 0, .int (-1), .ref a_planned, .ref a_cameOf, .ref a_wasSaid, .int 0, .ref a_kept, .ref a_rowNow, .ref a_rowBest, .ref a_hasBy, .ref a_isFit, .ref a_cameThen, .long 0, .ref a_images, .ref a_imageForce, .ref a_imageX, .ref a_isMade])), (a_read, .inl (cy 0, 84, .inl (g0))), (a_length, .inl (cy 0, 7, .inl (fun _ => 0)))] → va_S A s.heap H locs → lv_has ls 2 [(1, .int (nI k)), (0, .ref m0)] → W p l e (kRm 5 109 0 0) s m ([.ref m0] : List Value).toArray below meth c H locs 0 0 (MQ below (va_Qi (S := Unit) (fun r _ => r = -3) (kBw D A (fun _ => [])) A) ([.ref m0] : List Value).toArray s 0 0 A) (F0 m 8 ls []) := by
    intro fu
    induction fu with
    | zero =>
      intro k g0 H locs ls hk hP hD hS hl
      have e0 : k = 84 := by omega
      subst e0
      have hl : lv_has ls 2 [(1, .int 84), (0, .ref m0)] := hl
      refine lv_iload_n hx hb dX12_green_8 rfl (lv_at hl 0 rfl) ?_
      refine lv_bipush (v := 84) hx hb dX12_green_9 (by decide) ?_
      refine lv_icmp_ge (tgt := 27) hx hb dX12_green_11 (by decide) (fun _ => ?_) (fun q => absurd q (by decide))
      refine lv_aload_n hx hb dX12_green_27 rfl (lv_at hl 1 rfl) ?_
      refine kwVI (wr := [(a_read, .inl (cy 0, 84, .inl (g0)))]) (As := []) (rest := []) F hE hP hD hS hA hl.1 (c_readsAll6 l D cy (m0 := m0) (a_tape := a_tape) (a_sign := a_sign) (a_length := a_length) (a_clause := a_clause) (a_clauses := a_clauses) (a_read := a_read) (a_open := a_open) (a_stack := a_stack) (a_word := a_word) (a_said := a_said) (a_planned := a_planned) (a_cameOf := a_cameOf) (a_wasSaid := a_wasSaid) (a_kept := a_kept) (a_rowNow := a_rowNow) (a_rowBest := a_rowBest) (a_hasBy := a_hasBy) (a_isFit := a_isFit) (a_cameThen := a_cameThen) (a_images := a_images) (a_imageForce := a_imageForce) (a_imageX := a_imageX) (a_isMade := a_isMade)) q_m_X12_270 mv_X12_readsAll ⟨(Nat.le_of_ble_eq_true rfl), (Nat.le_of_ble_eq_true rfl)⟩ [0, 2] [1] (by decide) rfl rfl (by decide) (by decide) rfl rfl rfl rfl rfl (Nat.le_of_ble_eq_true rfl) ⟨(Nat.le_of_ble_eq_true rfl), (Nat.le_of_ble_eq_true rfl)⟩ dX12_green_28 (fun r_2 u_1 H locs eu_1 hP hD hS => ?_)
      obtain rfl := eu_1
      have hP : va_P D vwCl [(a_read, .inl (cy 0, 84, .inl (g0))), (m0, .inr (12, [.ref a_tape, .int 0, .int 0, .ref a_sign, .ref a_length, .ref a_clause, .ref a_clauses, .ref a_read, .int 0, .int 1, .int 0, .int 6, .int 0, .int 0, .int 0, .ref a_open, .int 0, .ref a_stack, .int 0, .ref a_word, .ref a_said, .int (-1), .int 0, .int (-1), .ref a_planned, .ref a_cameOf, .ref a_wasSaid, .int 0, .ref a_kept, .ref a_rowNow, .ref a_rowBest, .ref a_hasBy, .ref a_isFit, .ref a_cameThen, .long 0, .ref a_images, .ref a_imageForce, .ref a_imageX, .ref a_isMade]))] H := hP
      have hD : va_D A [(a_read, .inl (cy 0, 84, .inl (g0))), (m0, .inr (12, [.ref a_tape, .int 0, .int 0, .ref a_sign, .ref a_length, .ref a_clause, .ref a_clauses, .ref a_read, .int 0, .int 1, .int 0, .int 6, .int 0, .int 0, .int 0, .ref a_open, .int 0, .ref a_stack, .int 0, .ref a_word, .ref a_said, .int (-1), .int 0, .int (-1), .ref a_planned, .ref a_cameOf, .ref a_wasSaid, .int 0, .ref a_kept, .ref a_rowNow, .ref a_rowBest, .ref a_hasBy, .ref a_isFit, .ref a_cameThen, .long 0, .ref a_images, .ref a_imageForce, .ref a_imageX, .ref a_isMade]))] := hD
      refine lv_if_ne (tgt := 42) hx hb dX12_green_31 (by decide) (fun q => absurd q (by decide)) (fun _ => ?_)
      refine lv_bipush (v := (-2)) hx hb dX12_green_34 (by decide) ?_
      refine lv_aload_n hx hb dX12_green_36 rfl (lv_at hl 1 rfl) ?_
      refine va_get (D := D) (ci := 12) (v := .int 1) (C := RX12) (T := TX12) (N := 39) hx hb hG inG_X12 hown hE.1 hP 1 rfl rfl 9 (by decide) (hG _ q_f_X12_96) (fun _ h9 => h9) rfl dX12_green_37 ?_
      refine lv_isub hx hb dX12_green_40 ?_
      refine k_top (z := (-3)) (by decide) ?_
      exact KI.rt () F rfl (hP.sub [] rfl) (hD.sub [] (by decide) rfl) hS (rfl) (Nat.le_of_ble_eq_true rfl) (Nat.le_of_ble_eq_true rfl) dX12_green_41
    | succ fu ih =>
      intro k g0 H locs ls hk hP hD hS hl
      have hlt : k < 84 := by omega
      refine lv_iload_n hx hb dX12_green_8 rfl (lv_at hl 0 rfl) ?_
      refine lv_bipush (v := 84) hx hb dX12_green_9 (by decide) ?_
      refine lv_icmp_ge (tgt := 27) hx hb dX12_green_11 (by decide) (fun q => absurd q (nI_ge hlt (by decide))) (fun _ => ?_)
      refine lv_aload_n hx hb dX12_green_14 rfl (lv_at hl 1 rfl) ?_
      refine va_get (D := D) (ci := 12) (v := .ref a_read) (C := RX12) (T := TX12) (N := 39) hx hb hG inG_X12 hown hE.1 hP 0 rfl rfl 7 (by decide) (hG _ q_f_X12_26) (fun _ h9 => h9) rfl dX12_green_15 ?_
      refine lv_iload_n hx hb dX12_green_18 rfl (lv_at hl 0 rfl) ?_
      refine lv_iconst (v := 0) hx hb dX12_green_19 (by decide) ?_
      refine va_iast hx hb hE.1 hP hD hS 1 0 rfl rfl (vp_in_nI hlt (by decide)) dX12_green_20 (fun H locs hP hD hS => ?_)
      generalize upd (g0) (Int32.toNatClampNeg (nI k)) 0 = fn_3 at hP hD
      have hP : va_P D vwCl [(m0, .inr (12, [.ref a_tape, .int 0, .int 0, .ref a_sign, .ref a_length, .ref a_clause, .ref a_clauses, .ref a_read, .int 0, .int 0, .int 0, .int 6, .int 0, .int 0, .int 0, .ref a_open, .int 0, .ref a_stack, .int 0, .ref a_word, .ref a_said, .int (-1), .int 0, .int (-1), .ref a_planned, .ref a_cameOf, .ref a_wasSaid, .int 0, .ref a_kept, .ref a_rowNow, .ref a_rowBest, .ref a_hasBy, .ref a_isFit, .ref a_cameThen, .long 0, .ref a_images, .ref a_imageForce, .ref a_imageX, .ref a_isMade])), (a_read, .inl (cy 0, 84, .inl (fn_3))), (a_length, .inl (cy 0, 7, .inl (fun _ => 0)))] H := hP
      have hD : va_D A [(m0, .inr (12, [.ref a_tape, .int 0, .int 0, .ref a_sign, .ref a_length, .ref a_clause, .ref a_clauses, .ref a_read, .int 0, .int 0, .int 0, .int 6, .int 0, .int 0, .int 0, .ref a_open, .int 0, .ref a_stack, .int 0, .ref a_word, .ref a_said, .int (-1), .int 0, .int (-1), .ref a_planned, .ref a_cameOf, .ref a_wasSaid, .int 0, .ref a_kept, .ref a_rowNow, .ref a_rowBest, .ref a_hasBy, .ref a_isFit, .ref a_cameThen, .long 0, .ref a_images, .ref a_imageForce, .ref a_imageX, .ref a_isMade])), (a_read, .inl (cy 0, 84, .inl (fn_3))), (a_length, .inl (cy 0, 7, .inl (fun _ => 0)))] := hD
      refine lv_iinc (v := (nI (k + 1))) (lv' := [(1, .int (nI (k + 1))), (0, .ref m0)]) hx hb dX12_green_21 hl (k := 0) rfl (nI_1 k) (by decide) rfl (fun ls hl => ?_)
      refine lv_goto (tgt := 8) hx hb dX12_green_24 (by decide) ?_
      exact ih (k + 1) fn_3 H locs ls (by omega) hP hD hS (lv_sub hl [0, 1] rfl)
  exact lp 84 0 (fun _ => 0) _ _ ls (by omega) hP hD hS hl

set_option maxHeartbeats 4000000 in
set_option maxRecDepth 100000 in
theorem m_imageOut (l : Launch) (D : va_G) (cy : Nat → ClassId) (m0 a_tape a_sign a_length a_clause a_clauses a_read a_open a_stack a_word a_said a_planned a_cameOf a_wasSaid a_kept a_rowNow a_rowBest a_hasBy a_isFit a_cameThen a_images a_imageForce a_imageX a_isMade : Nat) (x0 : Int32) (hk : x0 < 0 ∨ 3 < x0) : KP l yX12_image cX12_image 3 (some .int) 1 25 D (kTY cy) [.ref m0, .int x0] [(m0, .inr (12, [.ref a_tape, .int 0, .int 0, .ref a_sign, .ref a_length, .ref a_clause, .ref a_clauses, .ref a_read, .int 0, .int 0, .int 0, .int 0, .int 0, .int 0, .int 0, .ref a_open, .int 0, .ref a_stack, .int 0, .ref a_word, .ref a_said, .int (-1), .int 0, .int (-1), .ref a_planned, .ref a_cameOf, .ref a_wasSaid, .int 0, .ref a_kept, .ref a_rowNow, .ref a_rowBest, .ref a_hasBy, .ref a_isFit, .ref a_cameThen, .long 0, .ref a_images, .ref a_imageForce, .ref a_imageX, .ref a_isMade]))] (fun r => r = -1) := by
  refine KP.of (by decide) (Nat.le_of_ble_eq_true rfl) (fun p e s m below meth c ls F hE hP hl => ?_)
  have F : kF p s m meth c cX12_image 3 (some .int) _ RX12 := F
  obtain ⟨hx, hb, hr, hml, hown, hG, hlk⟩ := id F
  have hl : lv_has ls 3 [(0, .ref m0), (1, .int x0)] := hl
  refine lv_iload_n hx hb dX12_image_0 rfl (lv_at hl 1 rfl) ?_
  refine lv_i2l hx hb dX12_image_1 rfl ?_
  refine lv_lconst (v := 0) hx hb dX12_image_2 (by decide) ?_
  refine lv_ldc2 hx hb hown (hG _ q_q_X12_462) dX12_image_3 ?_
  refine kcS (As := [.long ((x0).toInt64), .long 0, .long 3]) (rest := []) F hE hP hl.1 (c_in l D cy (v0 := ((x0).toInt64)) (v1 := 0) (v2 := 3)) q_m_X12_127 ms_X12_in ⟨(Nat.le_of_ble_eq_true rfl), (Nat.le_of_ble_eq_true rfl)⟩ [] rfl rfl rfl (Nat.le_of_ble_eq_true rfl) ⟨(Nat.le_of_ble_eq_true rfl), (Nat.le_of_ble_eq_true rfl)⟩ dX12_image_6 (fun r_1 er_1 => ?_)
  obtain rfl : r_1 = 0 := er_1.trans (if_pos ((k_wd _).mpr hk))
  refine lv_if_ne (tgt := 14) hx hb dX12_image_9 (by decide) (fun q => absurd q (by decide)) (fun _ => ?_)
  refine lv_iconst (v := (-1)) hx hb dX12_image_12 (by decide) ?_
  exact KP.rt F rfl (rfl) dX12_image_13

set_option maxHeartbeats 4000000 in
set_option maxRecDepth 100000 in
theorem m_backOut (l : Launch) (D : va_G) (cy : Nat → ClassId) (m0 a_tape a_sign a_length a_clause a_clauses a_read a_open a_stack a_word a_said a_planned a_cameOf a_wasSaid a_kept a_rowNow a_rowBest a_hasBy a_isFit a_cameThen a_images a_imageForce a_imageX a_isMade : Nat) (x0 : Int32) (hk : x0 < 0 ∨ 3 < x0) : KP l yX12_back cX12_back 3 (some .int) 1 25 D (kTY cy) [.ref m0, .int x0] [(m0, .inr (12, [.ref a_tape, .int 0, .int 0, .ref a_sign, .ref a_length, .ref a_clause, .ref a_clauses, .ref a_read, .int 0, .int 0, .int 0, .int 0, .int 0, .int 0, .int 0, .ref a_open, .int 0, .ref a_stack, .int 0, .ref a_word, .ref a_said, .int (-1), .int 0, .int (-1), .ref a_planned, .ref a_cameOf, .ref a_wasSaid, .int 0, .ref a_kept, .ref a_rowNow, .ref a_rowBest, .ref a_hasBy, .ref a_isFit, .ref a_cameThen, .long 0, .ref a_images, .ref a_imageForce, .ref a_imageX, .ref a_isMade]))] (fun r => r = -1) := by
  refine KP.of (by decide) (Nat.le_of_ble_eq_true rfl) (fun p e s m below meth c ls F hE hP hl => ?_)
  have F : kF p s m meth c cX12_back 3 (some .int) _ RX12 := F
  obtain ⟨hx, hb, hr, hml, hown, hG, hlk⟩ := id F
  have hl : lv_has ls 3 [(0, .ref m0), (1, .int x0)] := hl
  refine lv_iload_n hx hb dX12_back_0 rfl (lv_at hl 1 rfl) ?_
  refine lv_i2l hx hb dX12_back_1 rfl ?_
  refine lv_lconst (v := 0) hx hb dX12_back_2 (by decide) ?_
  refine lv_ldc2 hx hb hown (hG _ q_q_X12_462) dX12_back_3 ?_
  refine kcS (As := [.long ((x0).toInt64), .long 0, .long 3]) (rest := []) F hE hP hl.1 (c_in l D cy (v0 := ((x0).toInt64)) (v1 := 0) (v2 := 3)) q_m_X12_127 ms_X12_in ⟨(Nat.le_of_ble_eq_true rfl), (Nat.le_of_ble_eq_true rfl)⟩ [] rfl rfl rfl (Nat.le_of_ble_eq_true rfl) ⟨(Nat.le_of_ble_eq_true rfl), (Nat.le_of_ble_eq_true rfl)⟩ dX12_back_6 (fun r_1 er_1 => ?_)
  obtain rfl : r_1 = 0 := er_1.trans (if_pos ((k_wd _).mpr hk))
  refine lv_if_eq (tgt := 21) hx hb dX12_back_9 (by decide) (fun _ => ?_) (fun q => absurd q (by decide))
  refine lv_iconst (v := (-1)) hx hb dX12_back_21 (by decide) ?_
  exact KP.rt F rfl (rfl) dX12_back_22

set_option maxHeartbeats 4000000 in
set_option maxRecDepth 100000 in
theorem m_backIn (l : Launch) (D : va_G) (cy : Nat → ClassId) (m0 a_tape a_sign a_length a_clause a_clauses a_read a_open a_stack a_word a_said a_planned a_cameOf a_wasSaid a_kept a_rowNow a_rowBest a_hasBy a_isFit a_cameThen a_images a_imageForce a_imageX a_isMade : Nat) (x0 : Int32) (hk : ¬ (x0 < 0 ∨ 3 < x0)) : KP l yX12_back cX12_back 3 (some .int) 1 25 D (kTY cy) [.ref m0, .int x0] [(m0, .inr (12, [.ref a_tape, .int 0, .int 0, .ref a_sign, .ref a_length, .ref a_clause, .ref a_clauses, .ref a_read, .int 0, .int 0, .int 0, .int 0, .int 0, .int 0, .int 0, .ref a_open, .int 0, .ref a_stack, .int 0, .ref a_word, .ref a_said, .int (-1), .int 0, .int (-1), .ref a_planned, .ref a_cameOf, .ref a_wasSaid, .int 0, .ref a_kept, .ref a_rowNow, .ref a_rowBest, .ref a_hasBy, .ref a_isFit, .ref a_cameThen, .long 0, .ref a_images, .ref a_imageForce, .ref a_imageX, .ref a_isMade])), (a_isMade, .inl (cy 3, 4, .inl (fun _ => 0)))] (fun r => r = -1) := by
  refine KP.of (by decide) (Nat.le_of_ble_eq_true rfl) (fun p e s m below meth c ls F hE hP hl => ?_)
  have F : kF p s m meth c cX12_back 3 (some .int) _ RX12 := F
  obtain ⟨hx, hb, hr, hml, hown, hG, hlk⟩ := id F
  have hl : lv_has ls 3 [(0, .ref m0), (1, .int x0)] := hl
  refine lv_iload_n hx hb dX12_back_0 rfl (lv_at hl 1 rfl) ?_
  refine lv_i2l hx hb dX12_back_1 rfl ?_
  refine lv_lconst (v := 0) hx hb dX12_back_2 (by decide) ?_
  refine lv_ldc2 hx hb hown (hG _ q_q_X12_462) dX12_back_3 ?_
  refine kcS (As := [.long ((x0).toInt64), .long 0, .long 3]) (rest := []) F hE hP hl.1 (c_in l D cy (v0 := ((x0).toInt64)) (v1 := 0) (v2 := 3)) q_m_X12_127 ms_X12_in ⟨(Nat.le_of_ble_eq_true rfl), (Nat.le_of_ble_eq_true rfl)⟩ [] rfl rfl rfl (Nat.le_of_ble_eq_true rfl) ⟨(Nat.le_of_ble_eq_true rfl), (Nat.le_of_ble_eq_true rfl)⟩ dX12_back_6 (fun r_1 er_1 => ?_)
  obtain rfl : r_1 = 1 := er_1.trans (if_neg (fun q => hk ((k_wd _).mp q)))
  refine lv_if_eq (tgt := 21) hx hb dX12_back_9 (by decide) (fun q => absurd q (by decide)) (fun _ => ?_)
  refine lv_aload_n hx hb dX12_back_12 rfl (lv_at hl 0 rfl) ?_
  refine va_get (D := D) (ci := 12) (v := .ref a_isMade) (C := RX12) (T := TX12) (N := 39) hx hb hG inG_X12 hown hE.1 hP 0 rfl rfl 38 (by decide) (hG _ q_f_X12_86) (fun _ h9 => h9) rfl dX12_back_13 ?_
  refine lv_iload_n hx hb dX12_back_16 rfl (lv_at hl 1 rfl) ?_
  refine va_zald hx hb hE.1 hP 1 3 rfl rfl (k_in4 hk) dX12_back_17 ?_
  refine k_top (z := 0) rfl ?_
  refine lv_if_ne (tgt := 23) hx hb dX12_back_18 (by decide) (fun q => absurd q (by decide)) (fun _ => ?_)
  refine lv_iconst (v := (-1)) hx hb dX12_back_21 (by decide) ?_
  exact KP.rt F rfl (rfl) dX12_back_22

theorem k_j4 {j : Nat} (h : j < 4) : ¬ (nI j < 0 ∨ 3 < nI j) := fun q => q.elim (nI_pos (by omega)) (fun q => (nI_nlt (a := 3) (b := j) (by omega) (by decide)) q)

set_option maxHeartbeats 4000000 in
set_option maxRecDepth 100000 in
theorem m_imageIn (l : Launch) (D : va_G) (cy : Nat → ClassId) (m0 a_tape a_sign a_length a_clause a_clauses a_read a_open a_stack a_word a_said a_planned a_cameOf a_wasSaid a_kept a_rowNow a_rowBest a_hasBy a_isFit a_cameThen a_images a_imageForce a_imageX a_isMade : Nat) (j : Nat) (hj : j < 4) : KI l yX12_image cX12_image 3 (some .int) 1 25 D (kTY cy) [.ref m0, .int (nI j)] [(m0, .inr (12, [.ref a_tape, .int 0, .int 0, .ref a_sign, .ref a_length, .ref a_clause, .ref a_clauses, .ref a_read, .int 0, .int 0, .int 0, .int 0, .int 0, .int 0, .int 0, .ref a_open, .int 0, .ref a_stack, .int 0, .ref a_word, .ref a_said, .int (-1), .int 0, .int (-1), .ref a_planned, .ref a_cameOf, .ref a_wasSaid, .int 0, .ref a_kept, .ref a_rowNow, .ref a_rowBest, .ref a_hasBy, .ref a_isFit, .ref a_cameThen, .long 0, .ref a_images, .ref a_imageForce, .ref a_imageX, .ref a_isMade])), (a_said, .inl (cy 0, 115, .inl (fun _ => 0))), (a_isMade, .inl (cy 3, 4, .inl (fun _ => 0))), (a_imageForce, .inl (cy 0, 4, .inl (fun _ => 0))), (a_imageX, .inl (cy 0, 4, .inl (fun _ => 0))), (a_images, .inl (cy 0, 460, .inl (fun _ => 0)))] (S := Unit) (fun r _ => r = 0) (fun _ => []) 0 0 := by
  refine KI.of (by decide) (Nat.le_of_ble_eq_true rfl) (fun p e s m below meth c ls A F hE hP hD hA hS hl => ?_)
  have F : kF p s m meth c cX12_image 3 (some .int) _ RX12 := F
  obtain ⟨hx, hb, hr, hml, hown, hG, hlk⟩ := id F
  have hl : lv_has ls 3 [(0, .ref m0), (1, .int (nI j))] := hl
  refine lv_iload_n hx hb dX12_image_0 rfl (lv_at hl 1 rfl) ?_
  refine lv_i2l hx hb dX12_image_1 rfl ?_
  refine lv_lconst (v := 0) hx hb dX12_image_2 (by decide) ?_
  refine lv_ldc2 hx hb hown (hG _ q_q_X12_462) dX12_image_3 ?_
  refine kcS (As := [.long (((nI j)).toInt64), .long 0, .long 3]) (rest := []) F hE hP hl.1 (c_in l D cy (v0 := (((nI j)).toInt64)) (v1 := 0) (v2 := 3)) q_m_X12_127 ms_X12_in ⟨(Nat.le_of_ble_eq_true rfl), (Nat.le_of_ble_eq_true rfl)⟩ [] rfl rfl rfl (Nat.le_of_ble_eq_true rfl) ⟨(Nat.le_of_ble_eq_true rfl), (Nat.le_of_ble_eq_true rfl)⟩ dX12_image_6 (fun r_1 er_1 => ?_)
  obtain rfl : r_1 = 1 := er_1.trans (if_neg (fun q => k_j4 hj ((k_wd _).mp q)))
  refine lv_if_ne (tgt := 14) hx hb dX12_image_9 (by decide) (fun _ => ?_) (fun q => absurd q (by decide))
  refine lv_aload_n hx hb dX12_image_14 rfl (lv_at hl 0 rfl) ?_
  refine va_get (D := D) (ci := 12) (v := .ref a_isMade) (C := RX12) (T := TX12) (N := 39) hx hb hG inG_X12 hown hE.1 hP 0 rfl rfl 38 (by decide) (hG _ q_f_X12_86) (fun _ h9 => h9) rfl dX12_image_15 ?_
  refine lv_iload_n hx hb dX12_image_18 rfl (lv_at hl 1 rfl) ?_
  refine lv_iconst (v := 1) hx hb dX12_image_19 (by decide) ?_
  refine va_zast hx hb hE.1 hP hD hS 2 3 rfl rfl (vp_in_nI hj (by decide)) dX12_image_20 (fun H locs hP hD hS => ?_)
  generalize upd (fun _ => 0) (Int32.toNatClampNeg (nI j)) (vp_nar .boolean 1) = fn_2 at hP hD
  have hP : va_P D vwCl [(m0, .inr (12, [.ref a_tape, .int 0, .int 0, .ref a_sign, .ref a_length, .ref a_clause, .ref a_clauses, .ref a_read, .int 0, .int 0, .int 0, .int 0, .int 0, .int 0, .int 0, .ref a_open, .int 0, .ref a_stack, .int 0, .ref a_word, .ref a_said, .int (-1), .int 0, .int (-1), .ref a_planned, .ref a_cameOf, .ref a_wasSaid, .int 0, .ref a_kept, .ref a_rowNow, .ref a_rowBest, .ref a_hasBy, .ref a_isFit, .ref a_cameThen, .long 0, .ref a_images, .ref a_imageForce, .ref a_imageX, .ref a_isMade])), (a_said, .inl (cy 0, 115, .inl (fun _ => 0))), (a_isMade, .inl (cy 3, 4, .inl (fn_2))), (a_imageForce, .inl (cy 0, 4, .inl (fun _ => 0))), (a_imageX, .inl (cy 0, 4, .inl (fun _ => 0))), (a_images, .inl (cy 0, 460, .inl (fun _ => 0)))] H := hP
  have hD : va_D A [(m0, .inr (12, [.ref a_tape, .int 0, .int 0, .ref a_sign, .ref a_length, .ref a_clause, .ref a_clauses, .ref a_read, .int 0, .int 0, .int 0, .int 0, .int 0, .int 0, .int 0, .ref a_open, .int 0, .ref a_stack, .int 0, .ref a_word, .ref a_said, .int (-1), .int 0, .int (-1), .ref a_planned, .ref a_cameOf, .ref a_wasSaid, .int 0, .ref a_kept, .ref a_rowNow, .ref a_rowBest, .ref a_hasBy, .ref a_isFit, .ref a_cameThen, .long 0, .ref a_images, .ref a_imageForce, .ref a_imageX, .ref a_isMade])), (a_said, .inl (cy 0, 115, .inl (fun _ => 0))), (a_isMade, .inl (cy 3, 4, .inl (fn_2))), (a_imageForce, .inl (cy 0, 4, .inl (fun _ => 0))), (a_imageX, .inl (cy 0, 4, .inl (fun _ => 0))), (a_images, .inl (cy 0, 460, .inl (fun _ => 0)))] := hD
  refine lv_aload_n hx hb dX12_image_21 rfl (lv_at hl 0 rfl) ?_
  refine va_get (D := D) (ci := 12) (v := .ref a_imageForce) (C := RX12) (T := TX12) (N := 39) hx hb hG inG_X12 hown hE.1 hP 0 rfl rfl 36 (by decide) (hG _ q_f_X12_80) (fun _ h9 => h9) rfl dX12_image_22 ?_
  refine lv_iload_n hx hb dX12_image_25 rfl (lv_at hl 1 rfl) ?_
  refine lv_aload_n hx hb dX12_image_26 rfl (lv_at hl 0 rfl) ?_
  refine va_get (D := D) (ci := 12) (v := .int (-1)) (C := RX12) (T := TX12) (N := 39) hx hb hG inG_X12 hown hE.1 hP 0 rfl rfl 21 (by decide) (hG _ q_f_X12_42) (fun _ h9 => h9) rfl dX12_image_27 ?_
  refine va_iast hx hb hE.1 hP hD hS 3 0 rfl rfl (vp_in_nI hj (by decide)) dX12_image_30 (fun H locs hP hD hS => ?_)
  generalize upd (fun _ => 0) (Int32.toNatClampNeg (nI j)) (-1) = fn_3 at hP hD
  have hP : va_P D vwCl [(m0, .inr (12, [.ref a_tape, .int 0, .int 0, .ref a_sign, .ref a_length, .ref a_clause, .ref a_clauses, .ref a_read, .int 0, .int 0, .int 0, .int 0, .int 0, .int 0, .int 0, .ref a_open, .int 0, .ref a_stack, .int 0, .ref a_word, .ref a_said, .int (-1), .int 0, .int (-1), .ref a_planned, .ref a_cameOf, .ref a_wasSaid, .int 0, .ref a_kept, .ref a_rowNow, .ref a_rowBest, .ref a_hasBy, .ref a_isFit, .ref a_cameThen, .long 0, .ref a_images, .ref a_imageForce, .ref a_imageX, .ref a_isMade])), (a_said, .inl (cy 0, 115, .inl (fun _ => 0))), (a_isMade, .inl (cy 3, 4, .inl (fn_2))), (a_imageForce, .inl (cy 0, 4, .inl (fn_3))), (a_imageX, .inl (cy 0, 4, .inl (fun _ => 0))), (a_images, .inl (cy 0, 460, .inl (fun _ => 0)))] H := hP
  have hD : va_D A [(m0, .inr (12, [.ref a_tape, .int 0, .int 0, .ref a_sign, .ref a_length, .ref a_clause, .ref a_clauses, .ref a_read, .int 0, .int 0, .int 0, .int 0, .int 0, .int 0, .int 0, .ref a_open, .int 0, .ref a_stack, .int 0, .ref a_word, .ref a_said, .int (-1), .int 0, .int (-1), .ref a_planned, .ref a_cameOf, .ref a_wasSaid, .int 0, .ref a_kept, .ref a_rowNow, .ref a_rowBest, .ref a_hasBy, .ref a_isFit, .ref a_cameThen, .long 0, .ref a_images, .ref a_imageForce, .ref a_imageX, .ref a_isMade])), (a_said, .inl (cy 0, 115, .inl (fun _ => 0))), (a_isMade, .inl (cy 3, 4, .inl (fn_2))), (a_imageForce, .inl (cy 0, 4, .inl (fn_3))), (a_imageX, .inl (cy 0, 4, .inl (fun _ => 0))), (a_images, .inl (cy 0, 460, .inl (fun _ => 0)))] := hD
  refine lv_aload_n hx hb dX12_image_31 rfl (lv_at hl 0 rfl) ?_
  refine va_get (D := D) (ci := 12) (v := .ref a_imageX) (C := RX12) (T := TX12) (N := 39) hx hb hG inG_X12 hown hE.1 hP 0 rfl rfl 37 (by decide) (hG _ q_f_X12_83) (fun _ h9 => h9) rfl dX12_image_32 ?_
  refine lv_iload_n hx hb dX12_image_35 rfl (lv_at hl 1 rfl) ?_
  refine lv_aload_n hx hb dX12_image_36 rfl (lv_at hl 0 rfl) ?_
  refine va_get (D := D) (ci := 12) (v := .int 0) (C := RX12) (T := TX12) (N := 39) hx hb hG inG_X12 hown hE.1 hP 0 rfl rfl 22 (by decide) (hG _ q_f_X12_442) (fun _ h9 => h9) rfl dX12_image_37 ?_
  refine va_iast hx hb hE.1 hP hD hS 4 0 rfl rfl (vp_in_nI hj (by decide)) dX12_image_40 (fun H locs hP hD hS => ?_)
  rw [k_upd0] at hP hD
  have hP : va_P D vwCl [(m0, .inr (12, [.ref a_tape, .int 0, .int 0, .ref a_sign, .ref a_length, .ref a_clause, .ref a_clauses, .ref a_read, .int 0, .int 0, .int 0, .int 0, .int 0, .int 0, .int 0, .ref a_open, .int 0, .ref a_stack, .int 0, .ref a_word, .ref a_said, .int (-1), .int 0, .int (-1), .ref a_planned, .ref a_cameOf, .ref a_wasSaid, .int 0, .ref a_kept, .ref a_rowNow, .ref a_rowBest, .ref a_hasBy, .ref a_isFit, .ref a_cameThen, .long 0, .ref a_images, .ref a_imageForce, .ref a_imageX, .ref a_isMade])), (a_said, .inl (cy 0, 115, .inl (fun _ => 0))), (a_isMade, .inl (cy 3, 4, .inl (fn_2))), (a_imageForce, .inl (cy 0, 4, .inl (fn_3))), (a_imageX, .inl (cy 0, 4, .inl (fun _ => 0))), (a_images, .inl (cy 0, 460, .inl (fun _ => 0)))] H := hP
  have hD : va_D A [(m0, .inr (12, [.ref a_tape, .int 0, .int 0, .ref a_sign, .ref a_length, .ref a_clause, .ref a_clauses, .ref a_read, .int 0, .int 0, .int 0, .int 0, .int 0, .int 0, .int 0, .ref a_open, .int 0, .ref a_stack, .int 0, .ref a_word, .ref a_said, .int (-1), .int 0, .int (-1), .ref a_planned, .ref a_cameOf, .ref a_wasSaid, .int 0, .ref a_kept, .ref a_rowNow, .ref a_rowBest, .ref a_hasBy, .ref a_isFit, .ref a_cameThen, .long 0, .ref a_images, .ref a_imageForce, .ref a_imageX, .ref a_isMade])), (a_said, .inl (cy 0, 115, .inl (fun _ => 0))), (a_isMade, .inl (cy 3, 4, .inl (fn_2))), (a_imageForce, .inl (cy 0, 4, .inl (fn_3))), (a_imageX, .inl (cy 0, 4, .inl (fun _ => 0))), (a_images, .inl (cy 0, 460, .inl (fun _ => 0)))] := hD
  refine lv_iconst (v := 0) hx hb dX12_image_41 (by decide) ?_
  refine lv_istore_n (lv' := [(2, .int 0), (0, .ref m0), (1, .int (nI j))]) hx hb dX12_image_42 rfl hl (by decide) rfl (fun ls hl => ?_)
  have lp : ∀ (fu k : Nat) (g0 : Nat → Int32) (H : Heap) (locs : List Loc) (ls : Array Slot), k + fu = 115 → va_P D vwCl [(m0, .inr (12, [.ref a_tape, .int 0, .int 0, .ref a_sign, .ref a_length, .ref a_clause, .ref a_clauses, .ref a_read, .int 0, .int 0, .int 0, .int 0, .int 0, .int 0, .int 0, .ref a_open, .int 0, .ref a_stack, .int 0, .ref a_word, .ref a_said, .int (-1), .int 0, .int (-1), .ref a_planned, .ref a_cameOf, .ref a_wasSaid, .int 0, .ref a_kept, .ref a_rowNow, .ref a_rowBest, .ref a_hasBy, .ref a_isFit, .ref a_cameThen, .long 0, .ref a_images, .ref a_imageForce, .ref a_imageX, .ref a_isMade])), (a_said, .inl (cy 0, 115, .inl (fun _ => 0))), (a_isMade, .inl (cy 3, 4, .inl (fn_2))), (a_imageForce, .inl (cy 0, 4, .inl (fn_3))), (a_imageX, .inl (cy 0, 4, .inl (fun _ => 0))), (a_images, .inl (cy 0, 460, .inl (g0)))] H → va_D A [(m0, .inr (12, [.ref a_tape, .int 0, .int 0, .ref a_sign, .ref a_length, .ref a_clause, .ref a_clauses, .ref a_read, .int 0, .int 0, .int 0, .int 0, .int 0, .int 0, .int 0, .ref a_open, .int 0, .ref a_stack, .int 0, .ref a_word, .ref a_said, .int (-1), .int 0, .int (-1), .ref a_planned, .ref a_cameOf, .ref a_wasSaid, .int 0, .ref a_kept, .ref a_rowNow, .ref a_rowBest, .ref a_hasBy, .ref a_isFit, .ref a_cameThen, .long 0, .ref a_images, .ref a_imageForce, .ref a_imageX, .ref a_isMade])), (a_said, .inl (cy 0, 115, .inl (fun _ => 0))), (a_isMade, .inl (cy 3, 4, .inl (fn_2))), (a_imageForce, .inl (cy 0, 4, .inl (fn_3))), (a_imageX, .inl (cy 0, 4, .inl (fun _ => 0))), (a_images, .inl (cy 0, 460, .inl (g0)))] → va_S A s.heap H locs → lv_has ls 3 [(2, .int (nI k)), (0, .ref m0), (1, .int (nI j))] → W p l e (kRm 1 25 0 0) s m ([.ref m0, .int (nI j)] : List Value).toArray below meth c H locs 0 0 (MQ below (va_Qi (S := Unit) (fun r _ => r = 0) (kBw D A (fun _ => [])) A) ([.ref m0, .int (nI j)] : List Value).toArray s 0 0 A) (F0 m 43 ls []) := by
    intro fu
    induction fu with
    | zero =>
      intro k g0 H locs ls hk hP hD hS hl
      have e0 : k = 115 := by omega
      subst e0
      have hl : lv_has ls 3 [(2, .int 115), (0, .ref m0), (1, .int (nI j))] := hl
      refine lv_iload_n hx hb dX12_image_43 rfl (lv_at hl 0 rfl) ?_
      refine lv_bipush (v := 115) hx hb dX12_image_44 (by decide) ?_
      refine lv_icmp_ge (tgt := 72) hx hb dX12_image_46 (by decide) (fun _ => ?_) (fun q => absurd q (by decide))
      refine lv_aload_n hx hb dX12_image_72 rfl (lv_at hl 1 rfl) ?_
      refine va_get (D := D) (ci := 12) (v := .ref a_said) (C := RX12) (T := TX12) (N := 39) hx hb hG inG_X12 hown hE.1 hP 0 rfl rfl 20 (by decide) (hG _ q_f_X12_39) (fun _ h9 => h9) rfl dX12_image_73 ?_
      refine lv_bipush (v := 10) hx hb dX12_image_76 (by decide) ?_
      refine va_iald hx hb hE.1 hP 1 0 rfl rfl (by unfold vp_in; decide) dX12_image_78 ?_
      refine k_top (z := 0) rfl ?_
      exact KI.rt () F rfl (hP.sub [] rfl) (hD.sub [] (by decide) rfl) hS (rfl) (Nat.le_of_ble_eq_true rfl) (Nat.le_of_ble_eq_true rfl) dX12_image_79
    | succ fu ih =>
      intro k g0 H locs ls hk hP hD hS hl
      have hlt : k < 115 := by omega
      refine lv_iload_n hx hb dX12_image_43 rfl (lv_at hl 0 rfl) ?_
      refine lv_bipush (v := 115) hx hb dX12_image_44 (by decide) ?_
      refine lv_icmp_ge (tgt := 72) hx hb dX12_image_46 (by decide) (fun q => absurd q (nI_ge hlt (by decide))) (fun _ => ?_)
      refine lv_aload_n hx hb dX12_image_49 rfl (lv_at hl 1 rfl) ?_
      refine va_get (D := D) (ci := 12) (v := .ref a_images) (C := RX12) (T := TX12) (N := 39) hx hb hG inG_X12 hown hE.1 hP 0 rfl rfl 35 (by decide) (hG _ q_f_X12_77) (fun _ h9 => h9) rfl dX12_image_50 ?_
      refine lv_bipush (v := 115) hx hb dX12_image_53 (by decide) ?_
      refine lv_iload_n hx hb dX12_image_55 rfl (lv_at hl 2 rfl) ?_
      refine lv_imul hx hb dX12_image_56 ?_
      refine lv_topi (fun z_5 ez_5 => ?_)
      refine lv_iload_n hx hb dX12_image_57 rfl (lv_at hl 0 rfl) ?_
      refine lv_iadd hx hb dX12_image_58 ?_
      refine lv_topi (fun z_6 ez_6 => ?_)
      refine lv_aload_n hx hb dX12_image_59 rfl (lv_at hl 1 rfl) ?_
      refine va_get (D := D) (ci := 12) (v := .ref a_said) (C := RX12) (T := TX12) (N := 39) hx hb hG inG_X12 hown hE.1 hP 0 rfl rfl 20 (by decide) (hG _ q_f_X12_39) (fun _ h9 => h9) rfl dX12_image_60 ?_
      refine lv_iload_n hx hb dX12_image_63 rfl (lv_at hl 0 rfl) ?_
      refine va_iald hx hb hE.1 hP 1 0 rfl rfl (vp_in_nI hlt (by decide)) dX12_image_64 ?_
      refine k_top (z := 0) rfl ?_
      refine va_iast hx hb hE.1 hP hD hS 5 0 rfl rfl (by rw [ez_6, ez_5, show (115 : Int32) = nI 115 from rfl, pk_mul, nI_add]; exact vp_in_nI (by omega) (by decide)) dX12_image_65 (fun H locs hP hD hS => ?_)
      generalize upd (g0) (Int32.toNatClampNeg z_6) 0 = fn_7 at hP hD
      have hP : va_P D vwCl [(m0, .inr (12, [.ref a_tape, .int 0, .int 0, .ref a_sign, .ref a_length, .ref a_clause, .ref a_clauses, .ref a_read, .int 0, .int 0, .int 0, .int 0, .int 0, .int 0, .int 0, .ref a_open, .int 0, .ref a_stack, .int 0, .ref a_word, .ref a_said, .int (-1), .int 0, .int (-1), .ref a_planned, .ref a_cameOf, .ref a_wasSaid, .int 0, .ref a_kept, .ref a_rowNow, .ref a_rowBest, .ref a_hasBy, .ref a_isFit, .ref a_cameThen, .long 0, .ref a_images, .ref a_imageForce, .ref a_imageX, .ref a_isMade])), (a_said, .inl (cy 0, 115, .inl (fun _ => 0))), (a_isMade, .inl (cy 3, 4, .inl (fn_2))), (a_imageForce, .inl (cy 0, 4, .inl (fn_3))), (a_imageX, .inl (cy 0, 4, .inl (fun _ => 0))), (a_images, .inl (cy 0, 460, .inl (fn_7)))] H := hP
      have hD : va_D A [(m0, .inr (12, [.ref a_tape, .int 0, .int 0, .ref a_sign, .ref a_length, .ref a_clause, .ref a_clauses, .ref a_read, .int 0, .int 0, .int 0, .int 0, .int 0, .int 0, .int 0, .ref a_open, .int 0, .ref a_stack, .int 0, .ref a_word, .ref a_said, .int (-1), .int 0, .int (-1), .ref a_planned, .ref a_cameOf, .ref a_wasSaid, .int 0, .ref a_kept, .ref a_rowNow, .ref a_rowBest, .ref a_hasBy, .ref a_isFit, .ref a_cameThen, .long 0, .ref a_images, .ref a_imageForce, .ref a_imageX, .ref a_isMade])), (a_said, .inl (cy 0, 115, .inl (fun _ => 0))), (a_isMade, .inl (cy 3, 4, .inl (fn_2))), (a_imageForce, .inl (cy 0, 4, .inl (fn_3))), (a_imageX, .inl (cy 0, 4, .inl (fun _ => 0))), (a_images, .inl (cy 0, 460, .inl (fn_7)))] := hD
      refine lv_iinc (v := (nI (k + 1))) (lv' := [(2, .int (nI (k + 1))), (0, .ref m0), (1, .int (nI j))]) hx hb dX12_image_66 hl (k := 0) rfl (nI_1 k) (by decide) rfl (fun ls hl => ?_)
      refine lv_goto (tgt := 43) hx hb dX12_image_69 (by decide) ?_
      exact ih (k + 1) fn_7 H locs ls (by omega) hP hD hS (lv_sub hl [0, 1, 2] rfl)
  exact lp 115 0 (fun _ => 0) _ _ ls (by omega) hP hD hS hl
