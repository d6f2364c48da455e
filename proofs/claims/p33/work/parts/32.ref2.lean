set_option maxHeartbeats 4000000 in
set_option maxRecDepth 100000 in
theorem cm_push (l : Launch) (D : va_G) (cy : Nat → ClassId) (m0 : Nat) (a_tape : Nat) (a_sign : Nat) (a_length : Nat) (a_clause : Nat) (a_clauses : Nat) (a_read : Nat) (a_open : Nat) (a_stack : Nat) (a_word : Nat) (a_said : Nat) (a_planned : Nat) (a_cameOf : Nat) (a_wasSaid : Nat) (a_kept : Nat) (a_rowNow : Nat) (a_rowBest : Nat) (a_hasBy : Nat) (a_isFit : Nat) (a_cameThen : Nat) (a_images : Nat) (a_imageForce : Nat) (a_imageX : Nat) (a_isMade : Nat) (f_taped : Int32) (f_rules : Int32) (f_next : Int32) (f_wrong : Int32) (f_number : Int32) (f_text : Int32) (f_made : Int32) (f_deep : Int32) (f_lines : Int32) (f_opened : Int32) (f_top : Int32) (f_force : Int32) (f_x : Int32) (f_windAlone : Int32) (f_undone : Int32) (f_drawX : Int64) (g_stack : Nat → Int64) (x0 : Int64) (p0 : 0 ≤ f_top.toInt) (p1 : f_top.toInt < 64) : KV l yX12_push cX12_push 3 0 0 D (kTY cy) [.ref m0, .long x0] [(m0, .inr (12, [.ref a_tape, .int f_taped, .int f_rules, .ref a_sign, .ref a_length, .ref a_clause, .ref a_clauses, .ref a_read, .int f_next, .int f_wrong, .int f_number, .int f_text, .int f_made, .int f_deep, .int f_lines, .ref a_open, .int f_opened, .ref a_stack, .int f_top, .ref a_word, .ref a_said, .int f_force, .int f_x, .int f_windAlone, .ref a_planned, .ref a_cameOf, .ref a_wasSaid, .int f_undone, .ref a_kept, .ref a_rowNow, .ref a_rowBest, .ref a_hasBy, .ref a_isFit, .ref a_cameThen, .long f_drawX, .ref a_images, .ref a_imageForce, .ref a_imageX, .ref a_isMade])), (a_stack, .inl (cy 1, 64, .inr (.inl g_stack)))] (S := Int32 × (Nat → Int64)) (fun u => ((u.1).toInt = f_top.toInt + 1)) (fun u => [(m0, .inr (12, [.ref a_tape, .int f_taped, .int f_rules, .ref a_sign, .ref a_length, .ref a_clause, .ref a_clauses, .ref a_read, .int f_next, .int f_wrong, .int f_number, .int f_text, .int f_made, .int f_deep, .int f_lines, .ref a_open, .int f_opened, .ref a_stack, .int (u.1), .ref a_word, .ref a_said, .int f_force, .int f_x, .int f_windAlone, .ref a_planned, .ref a_cameOf, .ref a_wasSaid, .int f_undone, .ref a_kept, .ref a_rowNow, .ref a_rowBest, .ref a_hasBy, .ref a_isFit, .ref a_cameThen, .long f_drawX, .ref a_images, .ref a_imageForce, .ref a_imageX, .ref a_isMade])), (a_stack, .inl (cy 1, 64, .inr (.inl (u.2))))]) 0 0 := by
  refine KV.of (by decide) (Nat.le_of_ble_eq_true rfl) (fun p e s m below meth c ls A F hin hE hP hD hA hS hl => ?_)
  have F : kF p s m meth c cX12_push 3 none _ RX12 := F
  obtain ⟨hx, hb, hr, hml, hown, hG, hlk⟩ := id F
  have hl : lv_has ls 3 [(0, .ref m0), (1, .long x0)] := hl
  refine lv_aload_n hx hb dX12_push_0 rfl (lv_at hl 0 rfl) ?_
  refine va_get (D := D) (ci := 12) (v := .ref a_stack) (C := RX12) (T := TX12) (N := 39) hx hb hG inG_X12 hown hE.1 hP 0 rfl rfl 17 (by decide) (hG _ q_f_X12_32) (fun _ h9 => h9) rfl dX12_push_1 ?_
  refine lv_aload_n hx hb dX12_push_4 rfl (lv_at hl 0 rfl) ?_
  refine va_get (D := D) (ci := 12) (v := .int f_top) (C := RX12) (T := TX12) (N := 39) hx hb hG inG_X12 hown hE.1 hP 0 rfl rfl 18 (by decide) (hG _ q_f_X12_279) (fun _ h9 => h9) rfl dX12_push_5 ?_
  refine lv_lload_n hx hb dX12_push_8 rfl (lv_at hl 1 rfl) ?_
  refine va_last hx hb hE.1 hP hD hS 1 1 rfl rfl (k_in (by omega)) dX12_push_9 (fun H locs hP hD hS => ?_)
  generalize vp_updL g_stack (Int32.toNatClampNeg f_top) x0 = fn_1 at hP hD
  have hP : va_P D vwCl [(m0, .inr (12, [.ref a_tape, .int f_taped, .int f_rules, .ref a_sign, .ref a_length, .ref a_clause, .ref a_clauses, .ref a_read, .int f_next, .int f_wrong, .int f_number, .int f_text, .int f_made, .int f_deep, .int f_lines, .ref a_open, .int f_opened, .ref a_stack, .int f_top, .ref a_word, .ref a_said, .int f_force, .int f_x, .int f_windAlone, .ref a_planned, .ref a_cameOf, .ref a_wasSaid, .int f_undone, .ref a_kept, .ref a_rowNow, .ref a_rowBest, .ref a_hasBy, .ref a_isFit, .ref a_cameThen, .long f_drawX, .ref a_images, .ref a_imageForce, .ref a_imageX, .ref a_isMade])), (a_stack, .inl (cy 1, 64, .inr (.inl fn_1)))] H := hP
  have hD : va_D A [(m0, .inr (12, [.ref a_tape, .int f_taped, .int f_rules, .ref a_sign, .ref a_length, .ref a_clause, .ref a_clauses, .ref a_read, .int f_next, .int f_wrong, .int f_number, .int f_text, .int f_made, .int f_deep, .int f_lines, .ref a_open, .int f_opened, .ref a_stack, .int f_top, .ref a_word, .ref a_said, .int f_force, .int f_x, .int f_windAlone, .ref a_planned, .ref a_cameOf, .ref a_wasSaid, .int f_undone, .ref a_kept, .ref a_rowNow, .ref a_rowBest, .ref a_hasBy, .ref a_isFit, .ref a_cameThen, .long f_drawX, .ref a_images, .ref a_imageForce, .ref a_imageX, .ref a_isMade])), (a_stack, .inl (cy 1, 64, .inr (.inl fn_1)))] := hD
  refine lv_aload_n hx hb dX12_push_10 rfl (lv_at hl 0 rfl) ?_
  refine lv_dup hx hb dX12_push_11 rfl ?_
  refine va_get (D := D) (ci := 12) (v := .int f_top) (C := RX12) (T := TX12) (N := 39) hx hb hG inG_X12 hown hE.1 hP 0 rfl rfl 18 (by decide) (hG _ q_f_X12_279) (fun _ h9 => h9) rfl dX12_push_12 ?_
  refine lv_iconst (v := 1) hx hb dX12_push_15 (by decide) ?_
  refine lv_iadd hx hb dX12_push_16 ?_
  refine lv_topi (fun z_2 ez_2 => ?_)
  have iz_2 : z_2.toInt = f_top.toInt + 1 := k_addI ez_2 rfl (by decide) (by omega)
  refine va_put (D := D) (ci := 12) (v := .int z_2) (ty := .int) (C := RX12) (T := TX12) (N := 39) hx hb hG inG_X12 tyX12 tyX12_ok nmX12 hown hE.1 hP hD hS 0 rfl rfl 18 (by decide) (hG _ q_f_X12_279) (fun _ h9 => h9) rfl (by decide +kernel) rfl rfl (Nat.le_of_ble_eq_true rfl) dX12_push_17 (fun H locs hP hD hS => ?_)
  have hP : va_P D vwCl [(m0, .inr (12, [.ref a_tape, .int f_taped, .int f_rules, .ref a_sign, .ref a_length, .ref a_clause, .ref a_clauses, .ref a_read, .int f_next, .int f_wrong, .int f_number, .int f_text, .int f_made, .int f_deep, .int f_lines, .ref a_open, .int f_opened, .ref a_stack, .int z_2, .ref a_word, .ref a_said, .int f_force, .int f_x, .int f_windAlone, .ref a_planned, .ref a_cameOf, .ref a_wasSaid, .int f_undone, .ref a_kept, .ref a_rowNow, .ref a_rowBest, .ref a_hasBy, .ref a_isFit, .ref a_cameThen, .long f_drawX, .ref a_images, .ref a_imageForce, .ref a_imageX, .ref a_isMade])), (a_stack, .inl (cy 1, 64, .inr (.inl fn_1)))] H := hP
  have hD : va_D A [(m0, .inr (12, [.ref a_tape, .int f_taped, .int f_rules, .ref a_sign, .ref a_length, .ref a_clause, .ref a_clauses, .ref a_read, .int f_next, .int f_wrong, .int f_number, .int f_text, .int f_made, .int f_deep, .int f_lines, .ref a_open, .int f_opened, .ref a_stack, .int z_2, .ref a_word, .ref a_said, .int f_force, .int f_x, .int f_windAlone, .ref a_planned, .ref a_cameOf, .ref a_wasSaid, .int f_undone, .ref a_kept, .ref a_rowNow, .ref a_rowBest, .ref a_hasBy, .ref a_isFit, .ref a_cameThen, .long f_drawX, .ref a_images, .ref a_imageForce, .ref a_imageX, .ref a_isMade])), (a_stack, .inl (cy 1, 64, .inr (.inl fn_1)))] := hD
  exact KV.rt ⟨z_2, fn_1⟩ F (hP.sub [0, 1] rfl) (hD.sub [0, 1] (by decide) rfl) hS (show (z_2.toInt = f_top.toInt + 1) from (by first | omega | assumption)) (Nat.le_of_ble_eq_true rfl) (Nat.le_of_ble_eq_true rfl) dX12_push_20

set_option maxHeartbeats 4000000 in
set_option maxRecDepth 100000 in
theorem cm_pop (l : Launch) (D : va_G) (cy : Nat → ClassId) (m0 : Nat) (a_tape : Nat) (a_sign : Nat) (a_length : Nat) (a_clause : Nat) (a_clauses : Nat) (a_read : Nat) (a_open : Nat) (a_stack : Nat) (a_word : Nat) (a_said : Nat) (a_planned : Nat) (a_cameOf : Nat) (a_wasSaid : Nat) (a_kept : Nat) (a_rowNow : Nat) (a_rowBest : Nat) (a_hasBy : Nat) (a_isFit : Nat) (a_cameThen : Nat) (a_images : Nat) (a_imageForce : Nat) (a_imageX : Nat) (a_isMade : Nat) (f_taped : Int32) (f_rules : Int32) (f_next : Int32) (f_wrong : Int32) (f_number : Int32) (f_text : Int32) (f_made : Int32) (f_deep : Int32) (f_lines : Int32) (f_opened : Int32) (f_top : Int32) (f_force : Int32) (f_x : Int32) (f_windAlone : Int32) (f_undone : Int32) (f_drawX : Int64) (g_stack : Nat → Int64) (p0 : 1 ≤ f_top.toInt) (p1 : f_top.toInt ≤ 64) : KL l yX12_pop cX12_pop 1 (some .long) 0 0 D (kTY cy) [.ref m0] [(m0, .inr (12, [.ref a_tape, .int f_taped, .int f_rules, .ref a_sign, .ref a_length, .ref a_clause, .ref a_clauses, .ref a_read, .int f_next, .int f_wrong, .int f_number, .int f_text, .int f_made, .int f_deep, .int f_lines, .ref a_open, .int f_opened, .ref a_stack, .int f_top, .ref a_word, .ref a_said, .int f_force, .int f_x, .int f_windAlone, .ref a_planned, .ref a_cameOf, .ref a_wasSaid, .int f_undone, .ref a_kept, .ref a_rowNow, .ref a_rowBest, .ref a_hasBy, .ref a_isFit, .ref a_cameThen, .long f_drawX, .ref a_images, .ref a_imageForce, .ref a_imageX, .ref a_isMade])), (a_stack, .inl (cy 1, 64, .inr (.inl g_stack)))] (S := Int32) (fun r u => (u.toInt = f_top.toInt - 1)) (fun u => [(m0, .inr (12, [.ref a_tape, .int f_taped, .int f_rules, .ref a_sign, .ref a_length, .ref a_clause, .ref a_clauses, .ref a_read, .int f_next, .int f_wrong, .int f_number, .int f_text, .int f_made, .int f_deep, .int f_lines, .ref a_open, .int f_opened, .ref a_stack, .int u, .ref a_word, .ref a_said, .int f_force, .int f_x, .int f_windAlone, .ref a_planned, .ref a_cameOf, .ref a_wasSaid, .int f_undone, .ref a_kept, .ref a_rowNow, .ref a_rowBest, .ref a_hasBy, .ref a_isFit, .ref a_cameThen, .long f_drawX, .ref a_images, .ref a_imageForce, .ref a_imageX, .ref a_isMade])), (a_stack, .inl (cy 1, 64, .inr (.inl g_stack)))]) 0 0 := by
  refine KL.of (by decide) (Nat.le_of_ble_eq_true rfl) (fun p e s m below meth c ls A F hE hP hD hA hS hl => ?_)
  have F : kF p s m meth c cX12_pop 1 (some .long) _ RX12 := F
  obtain ⟨hx, hb, hr, hml, hown, hG, hlk⟩ := id F
  have hl : lv_has ls 1 [(0, .ref m0)] := hl
  refine lv_aload_n hx hb dX12_pop_0 rfl (lv_at hl 0 rfl) ?_
  refine lv_dup hx hb dX12_pop_1 rfl ?_
  refine va_get (D := D) (ci := 12) (v := .int f_top) (C := RX12) (T := TX12) (N := 39) hx hb hG inG_X12 hown hE.1 hP 0 rfl rfl 18 (by decide) (hG _ q_f_X12_279) (fun _ h9 => h9) rfl dX12_pop_2 ?_
  refine lv_iconst (v := 1) hx hb dX12_pop_5 (by decide) ?_
  refine lv_isub hx hb dX12_pop_6 ?_
  refine lv_topi (fun z_1 ez_1 => ?_)
  have iz_1 : z_1.toInt = f_top.toInt - 1 := k_subI ez_1 rfl (by decide) (by omega)
  refine va_put (D := D) (ci := 12) (v := .int z_1) (ty := .int) (C := RX12) (T := TX12) (N := 39) hx hb hG inG_X12 tyX12 tyX12_ok nmX12 hown hE.1 hP hD hS 0 rfl rfl 18 (by decide) (hG _ q_f_X12_279) (fun _ h9 => h9) rfl (by decide +kernel) rfl rfl (Nat.le_of_ble_eq_true rfl) dX12_pop_7 (fun H locs hP hD hS => ?_)
  have hP : va_P D vwCl [(m0, .inr (12, [.ref a_tape, .int f_taped, .int f_rules, .ref a_sign, .ref a_length, .ref a_clause, .ref a_clauses, .ref a_read, .int f_next, .int f_wrong, .int f_number, .int f_text, .int f_made, .int f_deep, .int f_lines, .ref a_open, .int f_opened, .ref a_stack, .int z_1, .ref a_word, .ref a_said, .int f_force, .int f_x, .int f_windAlone, .ref a_planned, .ref a_cameOf, .ref a_wasSaid, .int f_undone, .ref a_kept, .ref a_rowNow, .ref a_rowBest, .ref a_hasBy, .ref a_isFit, .ref a_cameThen, .long f_drawX, .ref a_images, .ref a_imageForce, .ref a_imageX, .ref a_isMade])), (a_stack, .inl (cy 1, 64, .inr (.inl g_stack)))] H := hP
  have hD : va_D A [(m0, .inr (12, [.ref a_tape, .int f_taped, .int f_rules, .ref a_sign, .ref a_length, .ref a_clause, .ref a_clauses, .ref a_read, .int f_next, .int f_wrong, .int f_number, .int f_text, .int f_made, .int f_deep, .int f_lines, .ref a_open, .int f_opened, .ref a_stack, .int z_1, .ref a_word, .ref a_said, .int f_force, .int f_x, .int f_windAlone, .ref a_planned, .ref a_cameOf, .ref a_wasSaid, .int f_undone, .ref a_kept, .ref a_rowNow, .ref a_rowBest, .ref a_hasBy, .ref a_isFit, .ref a_cameThen, .long f_drawX, .ref a_images, .ref a_imageForce, .ref a_imageX, .ref a_isMade])), (a_stack, .inl (cy 1, 64, .inr (.inl g_stack)))] := hD
  refine lv_aload_n hx hb dX12_pop_10 rfl (lv_at hl 0 rfl) ?_
  refine va_get (D := D) (ci := 12) (v := .ref a_stack) (C := RX12) (T := TX12) (N := 39) hx hb hG inG_X12 hown hE.1 hP 0 rfl rfl 17 (by decide) (hG _ q_f_X12_32) (fun _ h9 => h9) rfl dX12_pop_11 ?_
  refine lv_aload_n hx hb dX12_pop_14 rfl (lv_at hl 0 rfl) ?_
  refine va_get (D := D) (ci := 12) (v := .int z_1) (C := RX12) (T := TX12) (N := 39) hx hb hG inG_X12 hown hE.1 hP 0 rfl rfl 18 (by decide) (hG _ q_f_X12_279) (fun _ h9 => h9) rfl dX12_pop_15 ?_
  refine va_lald hx hb hE.1 hP 1 1 rfl rfl (k_in (by omega)) dX12_pop_18 ?_
  refine lv_topl (fun z_2 ez_2 => ?_)
  exact KL.rt z_1 F (hP.sub [0, 1] rfl) (hD.sub [0, 1] (by decide) rfl) hS (show (z_1.toInt = f_top.toInt - 1) from (by first | omega | assumption)) (Nat.le_of_ble_eq_true rfl) (Nat.le_of_ble_eq_true rfl) dX12_pop_19

set_option maxHeartbeats 4000000 in
set_option maxRecDepth 100000 in
theorem cm_one (l : Launch) (D : va_G) (cy : Nat → ClassId) (x0 : Int32) (x1 : Int64) (x2 : Int64)  : KL l yX12_one cX12_one 5 (some .long) 0 0 D (kTY cy) [.int x0, .long x1, .long x2] [] (S := Unit) (fun r u => True) (fun _ => []) 0 0 := by
  refine KL.of (by decide) (Nat.le_of_ble_eq_true rfl) (fun p e s m below meth c ls A F hE hP hD hA hS hl => ?_)
  have F : kF p s m meth c cX12_one 5 (some .long) _ RX12 := F
  obtain ⟨hx, hb, hr, hml, hown, hG, hlk⟩ := id F
  have hl : lv_has ls 5 [(0, .int x0), (1, .long x1), (3, .long x2)] := hl
  refine lv_iload_n hx hb dX12_one_0 rfl (lv_at hl 0 rfl) ?_
  by_cases c_1 : x0.toInt = 2
  · refine lv_tableIn (off := 67) (tgt := 68) hx hb dX12_one_1 (by omega) (by omega) (by rw [c_1]; rfl) (by decide) ?_
    refine lv_lload_n hx hb dX12_one_68 rfl (lv_at hl 1 rfl) ?_
    refine lv_lload_n hx hb dX12_one_69 rfl (lv_at hl 2 rfl) ?_
    refine lv_ladd hx hb dX12_one_70 ?_
    refine lv_topl (fun z_2 ez_2 => ?_)
    exact KL.rt () F (hP.sub [] rfl) (hD.sub [] (by decide) rfl) hS trivial (Nat.le_of_ble_eq_true rfl) (Nat.le_of_ble_eq_true rfl) dX12_one_71
  by_cases c_3 : x0.toInt = 3
  · refine lv_tableIn (off := 71) (tgt := 72) hx hb dX12_one_1 (by omega) (by omega) (by rw [c_3]; rfl) (by decide) ?_
    refine lv_lload_n hx hb dX12_one_72 rfl (lv_at hl 1 rfl) ?_
    refine lv_lload_n hx hb dX12_one_73 rfl (lv_at hl 2 rfl) ?_
    refine lv_lsub hx hb dX12_one_74 ?_
    refine lv_topl (fun z_4 ez_4 => ?_)
    exact KL.rt () F (hP.sub [] rfl) (hD.sub [] (by decide) rfl) hS trivial (Nat.le_of_ble_eq_true rfl) (Nat.le_of_ble_eq_true rfl) dX12_one_75
  by_cases c_5 : x0.toInt = 4
  · refine lv_tableIn (off := 75) (tgt := 76) hx hb dX12_one_1 (by omega) (by omega) (by rw [c_5]; rfl) (by decide) ?_
    refine lv_lload_n hx hb dX12_one_76 rfl (lv_at hl 1 rfl) ?_
    refine lv_lload_n hx hb dX12_one_77 rfl (lv_at hl 2 rfl) ?_
    refine lv_lmul hx hb dX12_one_78 ?_
    refine lv_topl (fun z_6 ez_6 => ?_)
    exact KL.rt () F (hP.sub [] rfl) (hD.sub [] (by decide) rfl) hS trivial (Nat.le_of_ble_eq_true rfl) (Nat.le_of_ble_eq_true rfl) dX12_one_79
  by_cases c_7 : x0.toInt = 5
  · refine lv_tableIn (off := 79) (tgt := 80) hx hb dX12_one_1 (by omega) (by omega) (by rw [c_7]; rfl) (by decide) ?_
    refine lv_lload_n hx hb dX12_one_80 rfl (lv_at hl 2 rfl) ?_
    refine lv_lconst (v := 0) hx hb dX12_one_81 (by decide) ?_
    refine W.lcmp hx hb dX12_one_82 ?_
    refine lv_topi (fun z_8 ez_8 => ?_)
    refine lv_if_ne (tgt := 90) hx hb dX12_one_83 (by decide) (fun c_9 => ?_) (fun c_9 => ?_)
    · have ic_9 : z_8.toInt ≠ 0 := k_ne c_9 rfl (by decide)
      refine lv_lload_n hx hb dX12_one_90 rfl (lv_at hl 1 rfl) ?_
      refine lv_lload_n hx hb dX12_one_91 rfl (lv_at hl 2 rfl) ?_
      refine lv_ldiv hx hb dX12_one_92 (fun q => ic_9 (by rw [ez_8, (lg_cmp_eq _ _).mpr q]; decide)) ?_
      refine lv_topl (fun z_10 ez_10 => ?_)
      exact KL.rt () F (hP.sub [] rfl) (hD.sub [] (by decide) rfl) hS trivial (Nat.le_of_ble_eq_true rfl) (Nat.le_of_ble_eq_true rfl) dX12_one_93
    · have ic_9 : z_8.toInt = 0 := k_eq c_9 rfl (by decide)
      refine lv_lconst (v := 0) hx hb dX12_one_86 (by decide) ?_
      refine lv_goto (tgt := 93) hx hb dX12_one_87 (by decide) ?_
      exact KL.rt () F (hP.sub [] rfl) (hD.sub [] (by decide) rfl) hS trivial (Nat.le_of_ble_eq_true rfl) (Nat.le_of_ble_eq_true rfl) dX12_one_93
  by_cases c_11 : x0.toInt = 6
  · refine lv_tableIn (off := 107) (tgt := 108) hx hb dX12_one_1 (by omega) (by omega) (by rw [c_11]; rfl) (by decide) ?_
    refine lv_lload_n hx hb dX12_one_108 rfl (lv_at hl 1 rfl) ?_
    refine lv_lload_n hx hb dX12_one_109 rfl (lv_at hl 2 rfl) ?_
    refine W.lcmp hx hb dX12_one_110 ?_
    refine lv_topi (fun z_12 ez_12 => ?_)
    refine lv_if_ge (tgt := 118) hx hb dX12_one_111 (by decide) (fun c_13 => ?_) (fun c_13 => ?_)
    · have ic_13 : 0 ≤ z_12.toInt := k_le c_13 (by decide) rfl
      refine lv_lconst (v := 0) hx hb dX12_one_118 (by decide) ?_
      exact KL.rt () F (hP.sub [] rfl) (hD.sub [] (by decide) rfl) hS trivial (Nat.le_of_ble_eq_true rfl) (Nat.le_of_ble_eq_true rfl) dX12_one_119
    · have ic_13 : z_12.toInt < 0 := k_nle c_13 (by decide) rfl
      refine lv_lconst (v := 1) hx hb dX12_one_114 (by decide) ?_
      refine lv_goto (tgt := 119) hx hb dX12_one_115 (by decide) ?_
      exact KL.rt () F (hP.sub [] rfl) (hD.sub [] (by decide) rfl) hS trivial (Nat.le_of_ble_eq_true rfl) (Nat.le_of_ble_eq_true rfl) dX12_one_119
  by_cases c_14 : x0.toInt = 7
  · refine lv_tableIn (off := 119) (tgt := 120) hx hb dX12_one_1 (by omega) (by omega) (by rw [c_14]; rfl) (by decide) ?_
    refine lv_lload_n hx hb dX12_one_120 rfl (lv_at hl 1 rfl) ?_
    refine lv_lload_n hx hb dX12_one_121 rfl (lv_at hl 2 rfl) ?_
    refine W.lcmp hx hb dX12_one_122 ?_
    refine lv_topi (fun z_15 ez_15 => ?_)
    refine lv_if_gt (tgt := 130) hx hb dX12_one_123 (by decide) (fun c_16 => ?_) (fun c_16 => ?_)
    · have ic_16 : 0 < z_15.toInt := k_lt c_16 (by decide) rfl
      refine lv_lconst (v := 0) hx hb dX12_one_130 (by decide) ?_
      exact KL.rt () F (hP.sub [] rfl) (hD.sub [] (by decide) rfl) hS trivial (Nat.le_of_ble_eq_true rfl) (Nat.le_of_ble_eq_true rfl) dX12_one_131
    · have ic_16 : z_15.toInt ≤ 0 := k_nlt c_16 (by decide) rfl
      refine lv_lconst (v := 1) hx hb dX12_one_126 (by decide) ?_
      refine lv_goto (tgt := 131) hx hb dX12_one_127 (by decide) ?_
      exact KL.rt () F (hP.sub [] rfl) (hD.sub [] (by decide) rfl) hS trivial (Nat.le_of_ble_eq_true rfl) (Nat.le_of_ble_eq_true rfl) dX12_one_131
  by_cases c_17 : x0.toInt = 8
  · refine lv_tableIn (off := 131) (tgt := 132) hx hb dX12_one_1 (by omega) (by omega) (by rw [c_17]; rfl) (by decide) ?_
    refine lv_lload_n hx hb dX12_one_132 rfl (lv_at hl 1 rfl) ?_
    refine lv_lload_n hx hb dX12_one_133 rfl (lv_at hl 2 rfl) ?_
    refine W.lcmp hx hb dX12_one_134 ?_
    refine lv_topi (fun z_18 ez_18 => ?_)
    refine lv_if_ne (tgt := 142) hx hb dX12_one_135 (by decide) (fun c_19 => ?_) (fun c_19 => ?_)
    · have ic_19 : z_18.toInt ≠ 0 := k_ne c_19 rfl (by decide)
      refine lv_lconst (v := 0) hx hb dX12_one_142 (by decide) ?_
      exact KL.rt () F (hP.sub [] rfl) (hD.sub [] (by decide) rfl) hS trivial (Nat.le_of_ble_eq_true rfl) (Nat.le_of_ble_eq_true rfl) dX12_one_143
    · have ic_19 : z_18.toInt = 0 := k_eq c_19 rfl (by decide)
      refine lv_lconst (v := 1) hx hb dX12_one_138 (by decide) ?_
      refine lv_goto (tgt := 143) hx hb dX12_one_139 (by decide) ?_
      exact KL.rt () F (hP.sub [] rfl) (hD.sub [] (by decide) rfl) hS trivial (Nat.le_of_ble_eq_true rfl) (Nat.le_of_ble_eq_true rfl) dX12_one_143
  by_cases c_20 : x0.toInt = 9
  · refine lv_tableIn (off := 143) (tgt := 144) hx hb dX12_one_1 (by omega) (by omega) (by rw [c_20]; rfl) (by decide) ?_
    refine lv_lload_n hx hb dX12_one_144 rfl (lv_at hl 1 rfl) ?_
    refine lv_lload_n hx hb dX12_one_145 rfl (lv_at hl 2 rfl) ?_
    refine W.lcmp hx hb dX12_one_146 ?_
    refine lv_topi (fun z_21 ez_21 => ?_)
    refine lv_if_lt (tgt := 154) hx hb dX12_one_147 (by decide) (fun c_22 => ?_) (fun c_22 => ?_)
    · have ic_22 : z_21.toInt < 0 := k_lt c_22 rfl (by decide)
      refine lv_lconst (v := 0) hx hb dX12_one_154 (by decide) ?_
      exact KL.rt () F (hP.sub [] rfl) (hD.sub [] (by decide) rfl) hS trivial (Nat.le_of_ble_eq_true rfl) (Nat.le_of_ble_eq_true rfl) dX12_one_155
    · have ic_22 : 0 ≤ z_21.toInt := k_nlt c_22 rfl (by decide)
      refine lv_lconst (v := 1) hx hb dX12_one_150 (by decide) ?_
      refine lv_goto (tgt := 155) hx hb dX12_one_151 (by decide) ?_
      exact KL.rt () F (hP.sub [] rfl) (hD.sub [] (by decide) rfl) hS trivial (Nat.le_of_ble_eq_true rfl) (Nat.le_of_ble_eq_true rfl) dX12_one_155
  by_cases c_23 : x0.toInt = 10
  · refine lv_tableIn (off := 155) (tgt := 156) hx hb dX12_one_1 (by omega) (by omega) (by rw [c_23]; rfl) (by decide) ?_
    refine lv_lload_n hx hb dX12_one_156 rfl (lv_at hl 1 rfl) ?_
    refine lv_lload_n hx hb dX12_one_157 rfl (lv_at hl 2 rfl) ?_
    refine W.lcmp hx hb dX12_one_158 ?_
    refine lv_topi (fun z_24 ez_24 => ?_)
    refine lv_if_le (tgt := 166) hx hb dX12_one_159 (by decide) (fun c_25 => ?_) (fun c_25 => ?_)
    · have ic_25 : z_24.toInt ≤ 0 := k_le c_25 rfl (by decide)
      refine lv_lconst (v := 0) hx hb dX12_one_166 (by decide) ?_
      exact KL.rt () F (hP.sub [] rfl) (hD.sub [] (by decide) rfl) hS trivial (Nat.le_of_ble_eq_true rfl) (Nat.le_of_ble_eq_true rfl) dX12_one_167
    · have ic_25 : 0 < z_24.toInt := k_nle c_25 rfl (by decide)
      refine lv_lconst (v := 1) hx hb dX12_one_162 (by decide) ?_
      refine lv_goto (tgt := 167) hx hb dX12_one_163 (by decide) ?_
      exact KL.rt () F (hP.sub [] rfl) (hD.sub [] (by decide) rfl) hS trivial (Nat.le_of_ble_eq_true rfl) (Nat.le_of_ble_eq_true rfl) dX12_one_167
  by_cases c_26 : x0.toInt = 11
  · refine lv_tableIn (off := 171) (tgt := 172) hx hb dX12_one_1 (by omega) (by omega) (by rw [c_26]; rfl) (by decide) ?_
    refine lv_lload_n hx hb dX12_one_172 rfl (lv_at hl 1 rfl) ?_
    refine lv_lload_n hx hb dX12_one_173 rfl (lv_at hl 2 rfl) ?_
    refine lv_lor hx hb dX12_one_174 ?_
    refine lv_topl (fun z_27 ez_27 => ?_)
    exact KL.rt () F (hP.sub [] rfl) (hD.sub [] (by decide) rfl) hS trivial (Nat.le_of_ble_eq_true rfl) (Nat.le_of_ble_eq_true rfl) dX12_one_175
  by_cases c_28 : x0.toInt = 12
  · refine lv_tableIn (off := 167) (tgt := 168) hx hb dX12_one_1 (by omega) (by omega) (by rw [c_28]; rfl) (by decide) ?_
    refine lv_lload_n hx hb dX12_one_168 rfl (lv_at hl 1 rfl) ?_
    refine lv_lload_n hx hb dX12_one_169 rfl (lv_at hl 2 rfl) ?_
    refine lv_land hx hb dX12_one_170 ?_
    refine lv_topl (fun z_29 ez_29 => ?_)
    exact KL.rt () F (hP.sub [] rfl) (hD.sub [] (by decide) rfl) hS trivial (Nat.le_of_ble_eq_true rfl) (Nat.le_of_ble_eq_true rfl) dX12_one_171
  by_cases c_30 : x0.toInt = 13
  · refine lv_tableIn (off := 171) (tgt := 172) hx hb dX12_one_1 (by omega) (by omega) (by rw [c_30]; rfl) (by decide) ?_
    refine lv_lload_n hx hb dX12_one_172 rfl (lv_at hl 1 rfl) ?_
    refine lv_lload_n hx hb dX12_one_173 rfl (lv_at hl 2 rfl) ?_
    refine lv_lor hx hb dX12_one_174 ?_
    refine lv_topl (fun z_31 ez_31 => ?_)
    exact KL.rt () F (hP.sub [] rfl) (hD.sub [] (by decide) rfl) hS trivial (Nat.le_of_ble_eq_true rfl) (Nat.le_of_ble_eq_true rfl) dX12_one_175
  by_cases c_32 : x0.toInt = 14
  · refine lv_tableIn (off := 93) (tgt := 94) hx hb dX12_one_1 (by omega) (by omega) (by rw [c_32]; rfl) (by decide) ?_
    refine lv_lload_n hx hb dX12_one_94 rfl (lv_at hl 2 rfl) ?_
    refine lv_lconst (v := 0) hx hb dX12_one_95 (by decide) ?_
    refine W.lcmp hx hb dX12_one_96 ?_
    refine lv_topi (fun z_33 ez_33 => ?_)
    refine lv_if_ne (tgt := 104) hx hb dX12_one_97 (by decide) (fun c_34 => ?_) (fun c_34 => ?_)
    · have ic_34 : z_33.toInt ≠ 0 := k_ne c_34 rfl (by decide)
      refine lv_lload_n hx hb dX12_one_104 rfl (lv_at hl 1 rfl) ?_
      refine lv_lload_n hx hb dX12_one_105 rfl (lv_at hl 2 rfl) ?_
      refine lv_lrem hx hb dX12_one_106 (fun q => ic_34 (by rw [ez_33, (lg_cmp_eq _ _).mpr q]; decide)) ?_
      refine lv_topl (fun z_35 ez_35 => ?_)
      exact KL.rt () F (hP.sub [] rfl) (hD.sub [] (by decide) rfl) hS trivial (Nat.le_of_ble_eq_true rfl) (Nat.le_of_ble_eq_true rfl) dX12_one_107
    · have ic_34 : z_33.toInt = 0 := k_eq c_34 rfl (by decide)
      refine lv_lconst (v := 0) hx hb dX12_one_100 (by decide) ?_
      refine lv_goto (tgt := 107) hx hb dX12_one_101 (by decide) ?_
      exact KL.rt () F (hP.sub [] rfl) (hD.sub [] (by decide) rfl) hS trivial (Nat.le_of_ble_eq_true rfl) (Nat.le_of_ble_eq_true rfl) dX12_one_107
  refine lv_tableOut (tgt := 172) hx hb dX12_one_1 (by omega) (by decide) ?_
  refine lv_lload_n hx hb dX12_one_172 rfl (lv_at hl 1 rfl) ?_
  refine lv_lload_n hx hb dX12_one_173 rfl (lv_at hl 2 rfl) ?_
  refine lv_lor hx hb dX12_one_174 ?_
  refine lv_topl (fun z_36 ez_36 => ?_)
  exact KL.rt () F (hP.sub [] rfl) (hD.sub [] (by decide) rfl) hS trivial (Nat.le_of_ble_eq_true rfl) (Nat.le_of_ble_eq_true rfl) dX12_one_175

set_option maxHeartbeats 4000000 in
set_option maxRecDepth 100000 in
theorem cm_reckons (l : Launch) (D : va_G) (cy : Nat → ClassId) (m0 : Nat) (a_tape : Nat) (a_sign : Nat) (a_length : Nat) (a_clause : Nat) (a_clauses : Nat) (a_read : Nat) (a_open : Nat) (a_stack : Nat) (a_word : Nat) (a_said : Nat) (a_planned : Nat) (a_cameOf : Nat) (a_wasSaid : Nat) (a_kept : Nat) (a_rowNow : Nat) (a_rowBest : Nat) (a_hasBy : Nat) (a_isFit : Nat) (a_cameThen : Nat) (a_images : Nat) (a_imageForce : Nat) (a_imageX : Nat) (a_isMade : Nat) (f_taped : Int32) (f_rules : Int32) (f_next : Int32) (f_wrong : Int32) (f_number : Int32) (f_text : Int32) (f_made : Int32) (f_deep : Int32) (f_lines : Int32) (f_opened : Int32) (f_top : Int32) (f_force : Int32) (f_x : Int32) (f_windAlone : Int32) (f_undone : Int32) (f_drawX : Int64) (g_sign : Nat → Int32) (g_stack : Nat → Int64) (g_word : Nat → Int64) (x0 : Int32) (x1 : Int32) (x2 : Int32) (p0 : 0 ≤ x0.toInt) (p1 : x0.toInt ≤ 5) (p2 : 0 ≤ x1.toInt) (p3 : x1.toInt ≤ x2.toInt) (p4 : x2.toInt ≤ 400) (p5 : CS g_sign (400 * x0.toInt + x1.toInt) (400 * x0.toInt + x2.toInt) 1 60) : KL l yX12_reckons cX12_reckons 11 (some .long) 1 24 D (kTY cy) [.ref m0, .int x0, .int x1, .int x2] [(m0, .inr (12, [.ref a_tape, .int f_taped, .int f_rules, .ref a_sign, .ref a_length, .ref a_clause, .ref a_clauses, .ref a_read, .int f_next, .int f_wrong, .int f_number, .int f_text, .int f_made, .int f_deep, .int f_lines, .ref a_open, .int f_opened, .ref a_stack, .int f_top, .ref a_word, .ref a_said, .int f_force, .int f_x, .int f_windAlone, .ref a_planned, .ref a_cameOf, .ref a_wasSaid, .int f_undone, .ref a_kept, .ref a_rowNow, .ref a_rowBest, .ref a_hasBy, .ref a_isFit, .ref a_cameThen, .long f_drawX, .ref a_images, .ref a_imageForce, .ref a_imageX, .ref a_isMade])), (a_sign, .inl (cy 0, 2400, .inl g_sign)), (a_stack, .inl (cy 1, 64, .inr (.inl g_stack))), (a_word, .inl (cy 1, 13, .inr (.inl g_word)))] (S := Int32 × (Nat → Int64)) (fun r u => True) (fun u => [(m0, .inr (12, [.ref a_tape, .int f_taped, .int f_rules, .ref a_sign, .ref a_length, .ref a_clause, .ref a_clauses, .ref a_read, .int f_next, .int f_wrong, .int f_number, .int f_text, .int f_made, .int f_deep, .int f_lines, .ref a_open, .int f_opened, .ref a_stack, .int (u.1), .ref a_word, .ref a_said, .int f_force, .int f_x, .int f_windAlone, .ref a_planned, .ref a_cameOf, .ref a_wasSaid, .int f_undone, .ref a_kept, .ref a_rowNow, .ref a_rowBest, .ref a_hasBy, .ref a_isFit, .ref a_cameThen, .long f_drawX, .ref a_images, .ref a_imageForce, .ref a_imageX, .ref a_isMade])), (a_sign, .inl (cy 0, 2400, .inl g_sign)), (a_stack, .inl (cy 1, 64, .inr (.inl (u.2)))), (a_word, .inl (cy 1, 13, .inr (.inl g_word)))]) 0 0 := by
  refine KL.of (by decide) (Nat.le_of_ble_eq_true rfl) (fun p e s m below meth c ls A F hE hP hD hA hS hl => ?_)
  have F : kF p s m meth c cX12_reckons 11 (some .long) _ RX12 := F
  obtain ⟨hx, hb, hr, hml, hown, hG, hlk⟩ := id F
  have hl : lv_has ls 11 [(0, .ref m0), (1, .int x0), (2, .int x1), (3, .int x2)] := hl
  refine lv_aload_n hx hb dX12_reckons_0 rfl (lv_at hl 0 rfl) ?_
  refine lv_iconst (v := 0) hx hb dX12_reckons_1 (by decide) ?_
  refine va_put (D := D) (ci := 12) (v := .int 0) (ty := .int) (C := RX12) (T := TX12) (N := 39) hx hb hG inG_X12 tyX12 tyX12_ok nmX12 hown hE.1 hP hD hS 0 rfl rfl 18 (by decide) (hG _ q_f_X12_279) (fun _ h9 => h9) rfl (by decide +kernel) rfl rfl (Nat.le_of_ble_eq_true rfl) dX12_reckons_2 (fun H locs hP hD hS => ?_)
  have hP : va_P D vwCl [(m0, .inr (12, [.ref a_tape, .int f_taped, .int f_rules, .ref a_sign, .ref a_length, .ref a_clause, .ref a_clauses, .ref a_read, .int f_next, .int f_wrong, .int f_number, .int f_text, .int f_made, .int f_deep, .int f_lines, .ref a_open, .int f_opened, .ref a_stack, .int 0, .ref a_word, .ref a_said, .int f_force, .int f_x, .int f_windAlone, .ref a_planned, .ref a_cameOf, .ref a_wasSaid, .int f_undone, .ref a_kept, .ref a_rowNow, .ref a_rowBest, .ref a_hasBy, .ref a_isFit, .ref a_cameThen, .long f_drawX, .ref a_images, .ref a_imageForce, .ref a_imageX, .ref a_isMade])), (a_sign, .inl (cy 0, 2400, .inl g_sign)), (a_stack, .inl (cy 1, 64, .inr (.inl g_stack))), (a_word, .inl (cy 1, 13, .inr (.inl g_word)))] H := hP
  have hD : va_D A [(m0, .inr (12, [.ref a_tape, .int f_taped, .int f_rules, .ref a_sign, .ref a_length, .ref a_clause, .ref a_clauses, .ref a_read, .int f_next, .int f_wrong, .int f_number, .int f_text, .int f_made, .int f_deep, .int f_lines, .ref a_open, .int f_opened, .ref a_stack, .int 0, .ref a_word, .ref a_said, .int f_force, .int f_x, .int f_windAlone, .ref a_planned, .ref a_cameOf, .ref a_wasSaid, .int f_undone, .ref a_kept, .ref a_rowNow, .ref a_rowBest, .ref a_hasBy, .ref a_isFit, .ref a_cameThen, .long f_drawX, .ref a_images, .ref a_imageForce, .ref a_imageX, .ref a_isMade])), (a_sign, .inl (cy 0, 2400, .inl g_sign)), (a_stack, .inl (cy 1, 64, .inr (.inl g_stack))), (a_word, .inl (cy 1, 13, .inr (.inl g_word)))] := hD
  refine lv_iload_n hx hb dX12_reckons_5 rfl (lv_at hl 2 rfl) ?_
  refine lv_istore (lv' := [(4, .int x1), (0, .ref m0), (1, .int x0), (2, .int x1), (3, .int x2)]) hx hb dX12_reckons_6 hl (by decide) rfl (fun ls hl => ?_)
  have lp8 : ∀ (fu : Nat) (v4_8 : Int32) (w18_m0_8 : Int32) (ga_stack_8 : Nat → Int64) (H : Heap) (locs : List Loc) (ls : Array Slot), (x1.toInt ≤ v4_8.toInt) → (v4_8.toInt ≤ x2.toInt) → (RKI g_sign (400 * x0.toInt + x1.toInt) (v4_8.toInt - x1.toInt) w18_m0_8.toInt) → x2.toInt - v4_8.toInt < (fu : Int) → va_P D vwCl [(m0, .inr (12, [.ref a_tape, .int f_taped, .int f_rules, .ref a_sign, .ref a_length, .ref a_clause, .ref a_clauses, .ref a_read, .int f_next, .int f_wrong, .int f_number, .int f_text, .int f_made, .int f_deep, .int f_lines, .ref a_open, .int f_opened, .ref a_stack, .int w18_m0_8, .ref a_word, .ref a_said, .int f_force, .int f_x, .int f_windAlone, .ref a_planned, .ref a_cameOf, .ref a_wasSaid, .int f_undone, .ref a_kept, .ref a_rowNow, .ref a_rowBest, .ref a_hasBy, .ref a_isFit, .ref a_cameThen, .long f_drawX, .ref a_images, .ref a_imageForce, .ref a_imageX, .ref a_isMade])), (a_sign, .inl (cy 0, 2400, .inl g_sign)), (a_stack, .inl (cy 1, 64, .inr (.inl ga_stack_8))), (a_word, .inl (cy 1, 13, .inr (.inl g_word)))] H → va_D A [(m0, .inr (12, [.ref a_tape, .int f_taped, .int f_rules, .ref a_sign, .ref a_length, .ref a_clause, .ref a_clauses, .ref a_read, .int f_next, .int f_wrong, .int f_number, .int f_text, .int f_made, .int f_deep, .int f_lines, .ref a_open, .int f_opened, .ref a_stack, .int w18_m0_8, .ref a_word, .ref a_said, .int f_force, .int f_x, .int f_windAlone, .ref a_planned, .ref a_cameOf, .ref a_wasSaid, .int f_undone, .ref a_kept, .ref a_rowNow, .ref a_rowBest, .ref a_hasBy, .ref a_isFit, .ref a_cameThen, .long f_drawX, .ref a_images, .ref a_imageForce, .ref a_imageX, .ref a_isMade])), (a_sign, .inl (cy 0, 2400, .inl g_sign)), (a_stack, .inl (cy 1, 64, .inr (.inl ga_stack_8))), (a_word, .inl (cy 1, 13, .inr (.inl g_word)))] → va_S A s.heap H locs → lv_has ls 11 [(4, .int v4_8), (0, .ref m0), (1, .int x0), (2, .int x1), (3, .int x2)] → W p l e (kRm 1 24 0 0) s m ([.ref m0, .int x0, .int x1, .int x2] : List Value).toArray below meth c H locs 0 0 (MQ below (va_Ql (S := Int32 × (Nat → Int64)) (fun r u => True) (kBw D A (fun u => [(m0, .inr (12, [.ref a_tape, .int f_taped, .int f_rules, .ref a_sign, .ref a_length, .ref a_clause, .ref a_clauses, .ref a_read, .int f_next, .int f_wrong, .int f_number, .int f_text, .int f_made, .int f_deep, .int f_lines, .ref a_open, .int f_opened, .ref a_stack, .int (u.1), .ref a_word, .ref a_said, .int f_force, .int f_x, .int f_windAlone, .ref a_planned, .ref a_cameOf, .ref a_wasSaid, .int f_undone, .ref a_kept, .ref a_rowNow, .ref a_rowBest, .ref a_hasBy, .ref a_isFit, .ref a_cameThen, .long f_drawX, .ref a_images, .ref a_imageForce, .ref a_imageX, .ref a_isMade])), (a_sign, .inl (cy 0, 2400, .inl g_sign)), (a_stack, .inl (cy 1, 64, .inr (.inl (u.2)))), (a_word, .inl (cy 1, 13, .inr (.inl g_word)))])) A) ([.ref m0, .int x0, .int x1, .int x2] : List Value).toArray s 0 0 A) (F0 m 8 ls []) := by
    intro fu8
    induction fu8 with
    | zero =>
      intro v4_8 w18_m0_8 ga_stack_8 H locs ls j0_8 j1_8 j2_8 hm8 hP hD hS hl
      exact absurd hm8 (by omega)
    | succ fu8 ih8 =>
      intro v4_8 w18_m0_8 ga_stack_8 H locs ls j0_8 j1_8 j2_8 hm8 hP hD hS hl
      obtain ⟨tb1, tb2⟩ := RKI.bd p5 j2_8 (by omega)
      refine lv_iload hx hb dX12_reckons_8 (lv_at hl 0 rfl) ?_
      refine lv_iload_n hx hb dX12_reckons_10 rfl (lv_at hl 4 rfl) ?_
      refine lv_icmp_ge (tgt := 135) hx hb dX12_reckons_11 (by decide) (fun c_1 => ?_) (fun c_1 => ?_)
      · have ic_1 : x2.toInt ≤ v4_8.toInt := k_le c_1 rfl rfl
        have tE := RKI.end p5 j2_8 (by omega)
        refine lv_aload_n hx hb dX12_reckons_135 rfl (lv_at hl 1 rfl) ?_
        refine kwVL (wr := [(a_sign, .inl (cy 0, 2400, .inl g_sign)), (a_word, .inl (cy 1, 13, .inr (.inl g_word)))]) (As := []) (rest := []) F hE hP hD hS hA hl.1 (cm_pop l D cy (m0 := m0) (a_tape := a_tape) (f_taped := f_taped) (f_rules := f_rules) (a_sign := a_sign) (a_length := a_length) (a_clause := a_clause) (a_clauses := a_clauses) (a_read := a_read) (f_next := f_next) (f_wrong := f_wrong) (f_number := f_number) (f_text := f_text) (f_made := f_made) (f_deep := f_deep) (f_lines := f_lines) (a_open := a_open) (f_opened := f_opened) (a_stack := a_stack) (f_top := w18_m0_8) (a_word := a_word) (a_said := a_said) (f_force := f_force) (f_x := f_x) (f_windAlone := f_windAlone) (a_planned := a_planned) (a_cameOf := a_cameOf) (a_wasSaid := a_wasSaid) (f_undone := f_undone) (a_kept := a_kept) (a_rowNow := a_rowNow) (a_rowBest := a_rowBest) (a_hasBy := a_hasBy) (a_isFit := a_isFit) (a_cameThen := a_cameThen) (f_drawX := f_drawX) (a_images := a_images) (a_imageForce := a_imageForce) (a_imageX := a_imageX) (a_isMade := a_isMade) (g_stack := ga_stack_8) (p0 := (by first | omega | assumption)) (p1 := (by first | omega | assumption))) q_m_X12_286 mv_X12_pop ⟨(Nat.le_of_ble_eq_true rfl), (Nat.le_of_ble_eq_true rfl)⟩ [0, 2] [1, 3] (by decide) rfl rfl (by decide) (by decide) rfl rfl rfl rfl rfl (Nat.le_of_ble_eq_true rfl) ⟨(Nat.le_of_ble_eq_true rfl), (Nat.le_of_ble_eq_true rfl)⟩ dX12_reckons_136 (fun r_3 u_2 H locs eu_2 hP hD hS => ?_)
        have eu_2 : (u_2.toInt = w18_m0_8.toInt - 1) := eu_2
        have hP : va_P D vwCl [(a_sign, .inl (cy 0, 2400, .inl g_sign)), (a_word, .inl (cy 1, 13, .inr (.inl g_word))), (m0, .inr (12, [.ref a_tape, .int f_taped, .int f_rules, .ref a_sign, .ref a_length, .ref a_clause, .ref a_clauses, .ref a_read, .int f_next, .int f_wrong, .int f_number, .int f_text, .int f_made, .int f_deep, .int f_lines, .ref a_open, .int f_opened, .ref a_stack, .int u_2, .ref a_word, .ref a_said, .int f_force, .int f_x, .int f_windAlone, .ref a_planned, .ref a_cameOf, .ref a_wasSaid, .int f_undone, .ref a_kept, .ref a_rowNow, .ref a_rowBest, .ref a_hasBy, .ref a_isFit, .ref a_cameThen, .long f_drawX, .ref a_images, .ref a_imageForce, .ref a_imageX, .ref a_isMade])), (a_stack, .inl (cy 1, 64, .inr (.inl ga_stack_8)))] H := hP
        have hD : va_D A [(a_sign, .inl (cy 0, 2400, .inl g_sign)), (a_word, .inl (cy 1, 13, .inr (.inl g_word))), (m0, .inr (12, [.ref a_tape, .int f_taped, .int f_rules, .ref a_sign, .ref a_length, .ref a_clause, .ref a_clauses, .ref a_read, .int f_next, .int f_wrong, .int f_number, .int f_text, .int f_made, .int f_deep, .int f_lines, .ref a_open, .int f_opened, .ref a_stack, .int u_2, .ref a_word, .ref a_said, .int f_force, .int f_x, .int f_windAlone, .ref a_planned, .ref a_cameOf, .ref a_wasSaid, .int f_undone, .ref a_kept, .ref a_rowNow, .ref a_rowBest, .ref a_hasBy, .ref a_isFit, .ref a_cameThen, .long f_drawX, .ref a_images, .ref a_imageForce, .ref a_imageX, .ref a_isMade])), (a_stack, .inl (cy 1, 64, .inr (.inl ga_stack_8)))] := hD
        exact KL.rt ⟨u_2, ga_stack_8⟩ F (hP.sub [2, 0, 3, 1] rfl) (hD.sub [2, 0, 3, 1] (by decide) rfl) hS trivial (Nat.le_of_ble_eq_true rfl) (Nat.le_of_ble_eq_true rfl) dX12_reckons_139
      · have ic_1 : v4_8.toInt < x2.toInt := k_nle c_1 rfl rfl
        refine lv_aload_n hx hb dX12_reckons_14 rfl (lv_at hl 1 rfl) ?_
        refine va_get (D := D) (ci := 12) (v := .ref a_sign) (C := RX12) (T := TX12) (N := 39) hx hb hG inG_X12 hown hE.1 hP 0 rfl rfl 3 (by decide) (hG _ q_f_X12_13) (fun _ h9 => h9) rfl dX12_reckons_15 ?_
        refine lv_sipush (v := 400) hx hb dX12_reckons_18 (by decide) ?_
        refine lv_iload_n hx hb dX12_reckons_21 rfl (lv_at hl 2 rfl) ?_
        refine lv_imul hx hb dX12_reckons_22 ?_
        refine lv_topi (fun z_5 ez_5 => ?_)
        have iz_5 : z_5.toInt = 400 * x0.toInt := k_mulI ez_5 (by decide) rfl (by omega)
        refine lv_iload hx hb dX12_reckons_23 (lv_at hl 0 rfl) ?_
        refine lv_iadd hx hb dX12_reckons_25 ?_
        refine lv_topi (fun z_6 ez_6 => ?_)
        have iz_6 : z_6.toInt = z_5.toInt + v4_8.toInt := k_addI ez_6 rfl rfl (by omega)
        obtain ⟨⟨ok1, ok2⟩, stA, stB, stC⟩ := RKI.step p5 j2_8 (by omega) z_6 (by omega)
        refine va_iald hx hb hE.1 hP 1 0 rfl rfl (k_in (by omega)) dX12_reckons_26 ?_
        refine k_top (z := (g_sign (Int32.toNatClampNeg z_6))) rfl ?_
        refine lv_bipush (v := 15) hx hb dX12_reckons_27 (by decide) ?_
        refine lv_iand hx hb dX12_reckons_29 ?_
        refine lv_topi (fun z_7 ez_7 => ?_)
        have iz_7 : z_7.toInt = (g_sign (Int32.toNatClampNeg z_6)).toInt % 16 := k_and15 ez_7 ok1
        refine lv_istore (lv' := [(5, .int z_7), (4, .int v4_8), (0, .ref m0), (1, .int x0), (2, .int x1), (3, .int x2)]) hx hb dX12_reckons_30 hl (by decide) rfl (fun ls hl => ?_)
        refine lv_aload_n hx hb dX12_reckons_32 rfl (lv_at hl 2 rfl) ?_
        refine va_get (D := D) (ci := 12) (v := .ref a_sign) (C := RX12) (T := TX12) (N := 39) hx hb hG inG_X12 hown hE.1 hP 0 rfl rfl 3 (by decide) (hG _ q_f_X12_13) (fun _ h9 => h9) rfl dX12_reckons_33 ?_
        refine lv_sipush (v := 400) hx hb dX12_reckons_36 (by decide) ?_
        refine lv_iload_n hx hb dX12_reckons_39 rfl (lv_at hl 3 rfl) ?_
        refine lv_imul hx hb dX12_reckons_40 ?_
        refine lv_topi (fun z_8 ez_8 => ?_)
        have iz_8 : z_8.toInt = 400 * x0.toInt := k_mulI ez_8 (by decide) rfl (by omega)
        refine lv_iload hx hb dX12_reckons_41 (lv_at hl 1 rfl) ?_
        refine lv_iadd hx hb dX12_reckons_43 ?_
        refine lv_topi (fun z_9 ez_9 => ?_)
        have iz_9 : z_9.toInt = z_8.toInt + v4_8.toInt := k_addI ez_9 rfl rfl (by omega)
        have ee_10 : z_6 = z_9 := Int32.toInt_inj.mp (by omega)
        subst ee_10
        refine va_iald hx hb hE.1 hP 1 0 rfl rfl (k_in (by omega)) dX12_reckons_44 ?_
        refine k_top (z := (g_sign (Int32.toNatClampNeg z_6))) rfl ?_
        refine lv_iconst (v := 4) hx hb dX12_reckons_45 (by decide) ?_
        refine lv_ishr hx hb dX12_reckons_46 ?_
        refine lv_topi (fun z_11 ez_11 => ?_)
        have iz_11 : z_11.toInt = (g_sign (Int32.toNatClampNeg z_6)).toInt / 16 := k_shr4 ez_11 ok1
        refine lv_istore (lv' := [(6, .int z_11), (5, .int z_7), (4, .int v4_8), (0, .ref m0), (1, .int x0), (2, .int x1), (3, .int x2)]) hx hb dX12_reckons_47 hl (by decide) rfl (fun ls hl => ?_)
        refine lv_iload hx hb dX12_reckons_49 (lv_at hl 1 rfl) ?_
        refine lv_if_ne (tgt := 64) hx hb dX12_reckons_51 (by decide) (fun c_12 => ?_) (fun c_12 => ?_)
        · have ic_12 : z_7.toInt ≠ 0 := k_ne c_12 rfl (by decide)
          refine lv_iload hx hb dX12_reckons_64 (lv_at hl 1 rfl) ?_
          refine lv_iconst (v := 1) hx hb dX12_reckons_66 (by decide) ?_
          refine lv_icmp_ne (tgt := 84) hx hb dX12_reckons_67 (by decide) (fun c_13 => ?_) (fun c_13 => ?_)
          · have ic_13 : z_7.toInt ≠ 1 := k_ne c_13 rfl (by decide)
            refine lv_iload hx hb dX12_reckons_84 (lv_at hl 1 rfl) ?_
            refine lv_bipush (v := 11) hx hb dX12_reckons_86 (by decide) ?_
            refine lv_icmp_ne (tgt := 104) hx hb dX12_reckons_88 (by decide) (fun c_14 => ?_) (fun c_14 => ?_)
            · have ic_14 : z_7.toInt ≠ 11 := k_ne c_14 rfl (by decide)
              obtain ⟨sT, sR⟩ := stC (by omega)
              refine lv_aload_n hx hb dX12_reckons_104 rfl (lv_at hl 3 rfl) ?_
              refine kwVL (wr := [(a_sign, .inl (cy 0, 2400, .inl g_sign)), (a_word, .inl (cy 1, 13, .inr (.inl g_word)))]) (As := []) (rest := []) F hE hP hD hS hA hl.1 (cm_pop l D cy (m0 := m0) (a_tape := a_tape) (f_taped := f_taped) (f_rules := f_rules) (a_sign := a_sign) (a_length := a_length) (a_clause := a_clause) (a_clauses := a_clauses) (a_read := a_read) (f_next := f_next) (f_wrong := f_wrong) (f_number := f_number) (f_text := f_text) (f_made := f_made) (f_deep := f_deep) (f_lines := f_lines) (a_open := a_open) (f_opened := f_opened) (a_stack := a_stack) (f_top := w18_m0_8) (a_word := a_word) (a_said := a_said) (f_force := f_force) (f_x := f_x) (f_windAlone := f_windAlone) (a_planned := a_planned) (a_cameOf := a_cameOf) (a_wasSaid := a_wasSaid) (f_undone := f_undone) (a_kept := a_kept) (a_rowNow := a_rowNow) (a_rowBest := a_rowBest) (a_hasBy := a_hasBy) (a_isFit := a_isFit) (a_cameThen := a_cameThen) (f_drawX := f_drawX) (a_images := a_images) (a_imageForce := a_imageForce) (a_imageX := a_imageX) (a_isMade := a_isMade) (g_stack := ga_stack_8) (p0 := (by first | omega | assumption)) (p1 := (by first | omega | assumption))) q_m_X12_286 mv_X12_pop ⟨(Nat.le_of_ble_eq_true rfl), (Nat.le_of_ble_eq_true rfl)⟩ [0, 2] [1, 3] (by decide) rfl rfl (by decide) (by decide) rfl rfl rfl rfl rfl (Nat.le_of_ble_eq_true rfl) ⟨(Nat.le_of_ble_eq_true rfl), (Nat.le_of_ble_eq_true rfl)⟩ dX12_reckons_105 (fun r_16 u_15 H locs eu_15 hP hD hS => ?_)
              have eu_15 : (u_15.toInt = w18_m0_8.toInt - 1) := eu_15
              have hP : va_P D vwCl [(a_sign, .inl (cy 0, 2400, .inl g_sign)), (a_word, .inl (cy 1, 13, .inr (.inl g_word))), (m0, .inr (12, [.ref a_tape, .int f_taped, .int f_rules, .ref a_sign, .ref a_length, .ref a_clause, .ref a_clauses, .ref a_read, .int f_next, .int f_wrong, .int f_number, .int f_text, .int f_made, .int f_deep, .int f_lines, .ref a_open, .int f_opened, .ref a_stack, .int u_15, .ref a_word, .ref a_said, .int f_force, .int f_x, .int f_windAlone, .ref a_planned, .ref a_cameOf, .ref a_wasSaid, .int f_undone, .ref a_kept, .ref a_rowNow, .ref a_rowBest, .ref a_hasBy, .ref a_isFit, .ref a_cameThen, .long f_drawX, .ref a_images, .ref a_imageForce, .ref a_imageX, .ref a_isMade])), (a_stack, .inl (cy 1, 64, .inr (.inl ga_stack_8)))] H := hP
              have hD : va_D A [(a_sign, .inl (cy 0, 2400, .inl g_sign)), (a_word, .inl (cy 1, 13, .inr (.inl g_word))), (m0, .inr (12, [.ref a_tape, .int f_taped, .int f_rules, .ref a_sign, .ref a_length, .ref a_clause, .ref a_clauses, .ref a_read, .int f_next, .int f_wrong, .int f_number, .int f_text, .int f_made, .int f_deep, .int f_lines, .ref a_open, .int f_opened, .ref a_stack, .int u_15, .ref a_word, .ref a_said, .int f_force, .int f_x, .int f_windAlone, .ref a_planned, .ref a_cameOf, .ref a_wasSaid, .int f_undone, .ref a_kept, .ref a_rowNow, .ref a_rowBest, .ref a_hasBy, .ref a_isFit, .ref a_cameThen, .long f_drawX, .ref a_images, .ref a_imageForce, .ref a_imageX, .ref a_isMade])), (a_stack, .inl (cy 1, 64, .inr (.inl ga_stack_8)))] := hD
              refine lv_lstore (lv' := [(7, .long r_16), (6, .int z_11), (5, .int z_7), (4, .int v4_8), (0, .ref m0), (1, .int x0), (2, .int x1), (3, .int x2)]) hx hb dX12_reckons_108 hl (by decide) rfl (fun ls hl => ?_)
              refine lv_aload_n hx hb dX12_reckons_110 rfl (lv_at hl 4 rfl) ?_
              refine kwVL (wr := [(a_sign, .inl (cy 0, 2400, .inl g_sign)), (a_word, .inl (cy 1, 13, .inr (.inl g_word)))]) (As := []) (rest := []) F hE hP hD hS hA hl.1 (cm_pop l D cy (m0 := m0) (a_tape := a_tape) (f_taped := f_taped) (f_rules := f_rules) (a_sign := a_sign) (a_length := a_length) (a_clause := a_clause) (a_clauses := a_clauses) (a_read := a_read) (f_next := f_next) (f_wrong := f_wrong) (f_number := f_number) (f_text := f_text) (f_made := f_made) (f_deep := f_deep) (f_lines := f_lines) (a_open := a_open) (f_opened := f_opened) (a_stack := a_stack) (f_top := u_15) (a_word := a_word) (a_said := a_said) (f_force := f_force) (f_x := f_x) (f_windAlone := f_windAlone) (a_planned := a_planned) (a_cameOf := a_cameOf) (a_wasSaid := a_wasSaid) (f_undone := f_undone) (a_kept := a_kept) (a_rowNow := a_rowNow) (a_rowBest := a_rowBest) (a_hasBy := a_hasBy) (a_isFit := a_isFit) (a_cameThen := a_cameThen) (f_drawX := f_drawX) (a_images := a_images) (a_imageForce := a_imageForce) (a_imageX := a_imageX) (a_isMade := a_isMade) (g_stack := ga_stack_8) (p0 := (by first | omega | assumption)) (p1 := (by first | omega | assumption))) q_m_X12_286 mv_X12_pop ⟨(Nat.le_of_ble_eq_true rfl), (Nat.le_of_ble_eq_true rfl)⟩ [2, 3] [0, 1] (by decide) rfl rfl (by decide) (by decide) rfl rfl rfl rfl rfl (Nat.le_of_ble_eq_true rfl) ⟨(Nat.le_of_ble_eq_true rfl), (Nat.le_of_ble_eq_true rfl)⟩ dX12_reckons_111 (fun r_19 u_18 H locs eu_18 hP hD hS => ?_)
              have eu_18 : (u_18.toInt = u_15.toInt - 1) := eu_18
              have hP : va_P D vwCl [(a_sign, .inl (cy 0, 2400, .inl g_sign)), (a_word, .inl (cy 1, 13, .inr (.inl g_word))), (m0, .inr (12, [.ref a_tape, .int f_taped, .int f_rules, .ref a_sign, .ref a_length, .ref a_clause, .ref a_clauses, .ref a_read, .int f_next, .int f_wrong, .int f_number, .int f_text, .int f_made, .int f_deep, .int f_lines, .ref a_open, .int f_opened, .ref a_stack, .int u_18, .ref a_word, .ref a_said, .int f_force, .int f_x, .int f_windAlone, .ref a_planned, .ref a_cameOf, .ref a_wasSaid, .int f_undone, .ref a_kept, .ref a_rowNow, .ref a_rowBest, .ref a_hasBy, .ref a_isFit, .ref a_cameThen, .long f_drawX, .ref a_images, .ref a_imageForce, .ref a_imageX, .ref a_isMade])), (a_stack, .inl (cy 1, 64, .inr (.inl ga_stack_8)))] H := hP
              have hD : va_D A [(a_sign, .inl (cy 0, 2400, .inl g_sign)), (a_word, .inl (cy 1, 13, .inr (.inl g_word))), (m0, .inr (12, [.ref a_tape, .int f_taped, .int f_rules, .ref a_sign, .ref a_length, .ref a_clause, .ref a_clauses, .ref a_read, .int f_next, .int f_wrong, .int f_number, .int f_text, .int f_made, .int f_deep, .int f_lines, .ref a_open, .int f_opened, .ref a_stack, .int u_18, .ref a_word, .ref a_said, .int f_force, .int f_x, .int f_windAlone, .ref a_planned, .ref a_cameOf, .ref a_wasSaid, .int f_undone, .ref a_kept, .ref a_rowNow, .ref a_rowBest, .ref a_hasBy, .ref a_isFit, .ref a_cameThen, .long f_drawX, .ref a_images, .ref a_imageForce, .ref a_imageX, .ref a_isMade])), (a_stack, .inl (cy 1, 64, .inr (.inl ga_stack_8)))] := hD
              refine lv_lstore (lv' := [(9, .long r_19), (7, .long r_16), (6, .int z_11), (5, .int z_7), (4, .int v4_8), (0, .ref m0), (1, .int x0), (2, .int x1), (3, .int x2)]) hx hb dX12_reckons_114 hl (by decide) rfl (fun ls hl => ?_)
              refine lv_aload_n hx hb dX12_reckons_116 rfl (lv_at hl 5 rfl) ?_
              refine lv_iload hx hb dX12_reckons_117 (lv_at hl 3 rfl) ?_
              refine lv_lload hx hb dX12_reckons_119 (lv_at hl 0 rfl) ?_
              refine lv_lload hx hb dX12_reckons_121 (lv_at hl 1 rfl) ?_
              refine kwSL (wr := [(a_sign, .inl (cy 0, 2400, .inl g_sign)), (a_word, .inl (cy 1, 13, .inr (.inl g_word))), (m0, .inr (12, [.ref a_tape, .int f_taped, .int f_rules, .ref a_sign, .ref a_length, .ref a_clause, .ref a_clauses, .ref a_read, .int f_next, .int f_wrong, .int f_number, .int f_text, .int f_made, .int f_deep, .int f_lines, .ref a_open, .int f_opened, .ref a_stack, .int u_18, .ref a_word, .ref a_said, .int f_force, .int f_x, .int f_windAlone, .ref a_planned, .ref a_cameOf, .ref a_wasSaid, .int f_undone, .ref a_kept, .ref a_rowNow, .ref a_rowBest, .ref a_hasBy, .ref a_isFit, .ref a_cameThen, .long f_drawX, .ref a_images, .ref a_imageForce, .ref a_imageX, .ref a_isMade])), (a_stack, .inl (cy 1, 64, .inr (.inl ga_stack_8)))]) (As := [.int z_7, .long r_19, .long r_16]) (rest := [.ref m0]) F hE hP hD hS hA hl.1 (cm_one l D cy (x0 := z_7) (x1 := r_19) (x2 := r_16)) q_m_X12_290 ms_X12_one ⟨(Nat.le_of_ble_eq_true rfl), (Nat.le_of_ble_eq_true rfl)⟩ [] [0, 1, 2, 3] (by decide) rfl rfl (by decide) (by decide) rfl rfl (Nat.le_of_ble_eq_true rfl) ⟨(Nat.le_of_ble_eq_true rfl), (Nat.le_of_ble_eq_true rfl)⟩ dX12_reckons_123 (fun r_22 u_21 H locs eu_21 hP hD hS => ?_)
              have hP : va_P D vwCl [(a_sign, .inl (cy 0, 2400, .inl g_sign)), (a_word, .inl (cy 1, 13, .inr (.inl g_word))), (m0, .inr (12, [.ref a_tape, .int f_taped, .int f_rules, .ref a_sign, .ref a_length, .ref a_clause, .ref a_clauses, .ref a_read, .int f_next, .int f_wrong, .int f_number, .int f_text, .int f_made, .int f_deep, .int f_lines, .ref a_open, .int f_opened, .ref a_stack, .int u_18, .ref a_word, .ref a_said, .int f_force, .int f_x, .int f_windAlone, .ref a_planned, .ref a_cameOf, .ref a_wasSaid, .int f_undone, .ref a_kept, .ref a_rowNow, .ref a_rowBest, .ref a_hasBy, .ref a_isFit, .ref a_cameThen, .long f_drawX, .ref a_images, .ref a_imageForce, .ref a_imageX, .ref a_isMade])), (a_stack, .inl (cy 1, 64, .inr (.inl ga_stack_8)))] H := hP
              have hD : va_D A [(a_sign, .inl (cy 0, 2400, .inl g_sign)), (a_word, .inl (cy 1, 13, .inr (.inl g_word))), (m0, .inr (12, [.ref a_tape, .int f_taped, .int f_rules, .ref a_sign, .ref a_length, .ref a_clause, .ref a_clauses, .ref a_read, .int f_next, .int f_wrong, .int f_number, .int f_text, .int f_made, .int f_deep, .int f_lines, .ref a_open, .int f_opened, .ref a_stack, .int u_18, .ref a_word, .ref a_said, .int f_force, .int f_x, .int f_windAlone, .ref a_planned, .ref a_cameOf, .ref a_wasSaid, .int f_undone, .ref a_kept, .ref a_rowNow, .ref a_rowBest, .ref a_hasBy, .ref a_isFit, .ref a_cameThen, .long f_drawX, .ref a_images, .ref a_imageForce, .ref a_imageX, .ref a_isMade])), (a_stack, .inl (cy 1, 64, .inr (.inl ga_stack_8)))] := hD
              refine kwVV (wr := [(a_sign, .inl (cy 0, 2400, .inl g_sign)), (a_word, .inl (cy 1, 13, .inr (.inl g_word)))]) (As := [.long r_22]) (rest := []) F hE hP hD hS hA hl.1 (cm_push l D cy (m0 := m0) (x0 := r_22) (a_tape := a_tape) (f_taped := f_taped) (f_rules := f_rules) (a_sign := a_sign) (a_length := a_length) (a_clause := a_clause) (a_clauses := a_clauses) (a_read := a_read) (f_next := f_next) (f_wrong := f_wrong) (f_number := f_number) (f_text := f_text) (f_made := f_made) (f_deep := f_deep) (f_lines := f_lines) (a_open := a_open) (f_opened := f_opened) (a_stack := a_stack) (f_top := u_18) (a_word := a_word) (a_said := a_said) (f_force := f_force) (f_x := f_x) (f_windAlone := f_windAlone) (a_planned := a_planned) (a_cameOf := a_cameOf) (a_wasSaid := a_wasSaid) (f_undone := f_undone) (a_kept := a_kept) (a_rowNow := a_rowNow) (a_rowBest := a_rowBest) (a_hasBy := a_hasBy) (a_isFit := a_isFit) (a_cameThen := a_cameThen) (f_drawX := f_drawX) (a_images := a_images) (a_imageForce := a_imageForce) (a_imageX := a_imageX) (a_isMade := a_isMade) (g_stack := ga_stack_8) (p0 := (by first | omega | assumption)) (p1 := (by first | omega | assumption))) q_m_X12_282 mv_X12_push ⟨(Nat.le_of_ble_eq_true rfl), (Nat.le_of_ble_eq_true rfl)⟩ [2, 3] [0, 1] (by decide) rfl rfl (by decide) (by decide) rfl rfl rfl rfl rfl (Nat.le_of_ble_eq_true rfl) ⟨(Nat.le_of_ble_eq_true rfl), (Nat.le_of_ble_eq_true rfl)⟩ dX12_reckons_126 (fun u_23 H locs eu_23 hP hD hS => ?_)
              obtain ⟨f_top_24, g_stack_25⟩ := u_23
              have eu_23 : (f_top_24.toInt = u_18.toInt + 1) := eu_23
              have hP : va_P D vwCl [(a_sign, .inl (cy 0, 2400, .inl g_sign)), (a_word, .inl (cy 1, 13, .inr (.inl g_word))), (m0, .inr (12, [.ref a_tape, .int f_taped, .int f_rules, .ref a_sign, .ref a_length, .ref a_clause, .ref a_clauses, .ref a_read, .int f_next, .int f_wrong, .int f_number, .int f_text, .int f_made, .int f_deep, .int f_lines, .ref a_open, .int f_opened, .ref a_stack, .int f_top_24, .ref a_word, .ref a_said, .int f_force, .int f_x, .int f_windAlone, .ref a_planned, .ref a_cameOf, .ref a_wasSaid, .int f_undone, .ref a_kept, .ref a_rowNow, .ref a_rowBest, .ref a_hasBy, .ref a_isFit, .ref a_cameThen, .long f_drawX, .ref a_images, .ref a_imageForce, .ref a_imageX, .ref a_isMade])), (a_stack, .inl (cy 1, 64, .inr (.inl g_stack_25)))] H := hP
              have hD : va_D A [(a_sign, .inl (cy 0, 2400, .inl g_sign)), (a_word, .inl (cy 1, 13, .inr (.inl g_word))), (m0, .inr (12, [.ref a_tape, .int f_taped, .int f_rules, .ref a_sign, .ref a_length, .ref a_clause, .ref a_clauses, .ref a_read, .int f_next, .int f_wrong, .int f_number, .int f_text, .int f_made, .int f_deep, .int f_lines, .ref a_open, .int f_opened, .ref a_stack, .int f_top_24, .ref a_word, .ref a_said, .int f_force, .int f_x, .int f_windAlone, .ref a_planned, .ref a_cameOf, .ref a_wasSaid, .int f_undone, .ref a_kept, .ref a_rowNow, .ref a_rowBest, .ref a_hasBy, .ref a_isFit, .ref a_cameThen, .long f_drawX, .ref a_images, .ref a_imageForce, .ref a_imageX, .ref a_isMade])), (a_stack, .inl (cy 1, 64, .inr (.inl g_stack_25)))] := hD
              obtain ⟨z_26, ez_26⟩ : ∃ y : Int32, y = v4_8 + Int32.ofInt 1 := ⟨_, rfl⟩
              have iz_26 : z_26.toInt = v4_8.toInt + 1 := k_addI ez_26 rfl (by decide) (by omega)
              refine lv_iinc (v := z_26) (lv' := [(4, .int z_26), (9, .long r_19), (7, .long r_16), (6, .int z_11), (5, .int z_7), (0, .ref m0), (1, .int x0), (2, .int x1), (3, .int x2)]) hx hb dX12_reckons_129 hl (k := 4) rfl ez_26.symm (by decide) rfl (fun ls hl => ?_)
              refine lv_goto (tgt := 8) hx hb dX12_reckons_132 (by decide) ?_
              have hP := hP.sub (ws' := [(m0, .inr (12, [.ref a_tape, .int f_taped, .int f_rules, .ref a_sign, .ref a_length, .ref a_clause, .ref a_clauses, .ref a_read, .int f_next, .int f_wrong, .int f_number, .int f_text, .int f_made, .int f_deep, .int f_lines, .ref a_open, .int f_opened, .ref a_stack, .int f_top_24, .ref a_word, .ref a_said, .int f_force, .int f_x, .int f_windAlone, .ref a_planned, .ref a_cameOf, .ref a_wasSaid, .int f_undone, .ref a_kept, .ref a_rowNow, .ref a_rowBest, .ref a_hasBy, .ref a_isFit, .ref a_cameThen, .long f_drawX, .ref a_images, .ref a_imageForce, .ref a_imageX, .ref a_isMade])), (a_sign, .inl (cy 0, 2400, .inl g_sign)), (a_stack, .inl (cy 1, 64, .inr (.inl g_stack_25))), (a_word, .inl (cy 1, 13, .inr (.inl g_word)))]) [2, 0, 3, 1] rfl
              have hD := hD.sub (ws' := [(m0, .inr (12, [.ref a_tape, .int f_taped, .int f_rules, .ref a_sign, .ref a_length, .ref a_clause, .ref a_clauses, .ref a_read, .int f_next, .int f_wrong, .int f_number, .int f_text, .int f_made, .int f_deep, .int f_lines, .ref a_open, .int f_opened, .ref a_stack, .int f_top_24, .ref a_word, .ref a_said, .int f_force, .int f_x, .int f_windAlone, .ref a_planned, .ref a_cameOf, .ref a_wasSaid, .int f_undone, .ref a_kept, .ref a_rowNow, .ref a_rowBest, .ref a_hasBy, .ref a_isFit, .ref a_cameThen, .long f_drawX, .ref a_images, .ref a_imageForce, .ref a_imageX, .ref a_isMade])), (a_sign, .inl (cy 0, 2400, .inl g_sign)), (a_stack, .inl (cy 1, 64, .inr (.inl g_stack_25))), (a_word, .inl (cy 1, 13, .inr (.inl g_word)))]) [2, 0, 3, 1] (by decide) rfl
              exact ih8 z_26 f_top_24 g_stack_25 _ _ ls (by first | omega | assumption) (by first | omega | assumption) (RKI.of sR (by omega) (by omega)) (by omega) hP hD hS (lv_sub hl [0, 5, 6, 7, 8] rfl)
            · have ic_14 : z_7.toInt = 11 := k_eq c_14 rfl (by decide)
              obtain ⟨sT, sR⟩ := stB (by omega)
              refine lv_aload_n hx hb dX12_reckons_91 rfl (lv_at hl 3 rfl) ?_
              refine lv_lconst (v := 1) hx hb dX12_reckons_92 (by decide) ?_
              refine lv_aload_n hx hb dX12_reckons_93 rfl (lv_at hl 3 rfl) ?_
              refine kwVL (wr := [(a_sign, .inl (cy 0, 2400, .inl g_sign)), (a_word, .inl (cy 1, 13, .inr (.inl g_word)))]) (As := []) (rest := [.long 1, .ref m0]) F hE hP hD hS hA hl.1 (cm_pop l D cy (m0 := m0) (a_tape := a_tape) (f_taped := f_taped) (f_rules := f_rules) (a_sign := a_sign) (a_length := a_length) (a_clause := a_clause) (a_clauses := a_clauses) (a_read := a_read) (f_next := f_next) (f_wrong := f_wrong) (f_number := f_number) (f_text := f_text) (f_made := f_made) (f_deep := f_deep) (f_lines := f_lines) (a_open := a_open) (f_opened := f_opened) (a_stack := a_stack) (f_top := w18_m0_8) (a_word := a_word) (a_said := a_said) (f_force := f_force) (f_x := f_x) (f_windAlone := f_windAlone) (a_planned := a_planned) (a_cameOf := a_cameOf) (a_wasSaid := a_wasSaid) (f_undone := f_undone) (a_kept := a_kept) (a_rowNow := a_rowNow) (a_rowBest := a_rowBest) (a_hasBy := a_hasBy) (a_isFit := a_isFit) (a_cameThen := a_cameThen) (f_drawX := f_drawX) (a_images := a_images) (a_imageForce := a_imageForce) (a_imageX := a_imageX) (a_isMade := a_isMade) (g_stack := ga_stack_8) (p0 := (by first | omega | assumption)) (p1 := (by first | omega | assumption))) q_m_X12_286 mv_X12_pop ⟨(Nat.le_of_ble_eq_true rfl), (Nat.le_of_ble_eq_true rfl)⟩ [0, 2] [1, 3] (by decide) rfl rfl (by decide) (by decide) rfl rfl rfl rfl rfl (Nat.le_of_ble_eq_true rfl) ⟨(Nat.le_of_ble_eq_true rfl), (Nat.le_of_ble_eq_true rfl)⟩ dX12_reckons_94 (fun r_28 u_27 H locs eu_27 hP hD hS => ?_)
              have eu_27 : (u_27.toInt = w18_m0_8.toInt - 1) := eu_27
              have hP : va_P D vwCl [(a_sign, .inl (cy 0, 2400, .inl g_sign)), (a_word, .inl (cy 1, 13, .inr (.inl g_word))), (m0, .inr (12, [.ref a_tape, .int f_taped, .int f_rules, .ref a_sign, .ref a_length, .ref a_clause, .ref a_clauses, .ref a_read, .int f_next, .int f_wrong, .int f_number, .int f_text, .int f_made, .int f_deep, .int f_lines, .ref a_open, .int f_opened, .ref a_stack, .int u_27, .ref a_word, .ref a_said, .int f_force, .int f_x, .int f_windAlone, .ref a_planned, .ref a_cameOf, .ref a_wasSaid, .int f_undone, .ref a_kept, .ref a_rowNow, .ref a_rowBest, .ref a_hasBy, .ref a_isFit, .ref a_cameThen, .long f_drawX, .ref a_images, .ref a_imageForce, .ref a_imageX, .ref a_isMade])), (a_stack, .inl (cy 1, 64, .inr (.inl ga_stack_8)))] H := hP
              have hD : va_D A [(a_sign, .inl (cy 0, 2400, .inl g_sign)), (a_word, .inl (cy 1, 13, .inr (.inl g_word))), (m0, .inr (12, [.ref a_tape, .int f_taped, .int f_rules, .ref a_sign, .ref a_length, .ref a_clause, .ref a_clauses, .ref a_read, .int f_next, .int f_wrong, .int f_number, .int f_text, .int f_made, .int f_deep, .int f_lines, .ref a_open, .int f_opened, .ref a_stack, .int u_27, .ref a_word, .ref a_said, .int f_force, .int f_x, .int f_windAlone, .ref a_planned, .ref a_cameOf, .ref a_wasSaid, .int f_undone, .ref a_kept, .ref a_rowNow, .ref a_rowBest, .ref a_hasBy, .ref a_isFit, .ref a_cameThen, .long f_drawX, .ref a_images, .ref a_imageForce, .ref a_imageX, .ref a_isMade])), (a_stack, .inl (cy 1, 64, .inr (.inl ga_stack_8)))] := hD
              refine lv_lsub hx hb dX12_reckons_97 ?_
              refine lv_topl (fun z_30 ez_30 => ?_)
              refine kwVV (wr := [(a_sign, .inl (cy 0, 2400, .inl g_sign)), (a_word, .inl (cy 1, 13, .inr (.inl g_word)))]) (As := [.long z_30]) (rest := []) F hE hP hD hS hA hl.1 (cm_push l D cy (m0 := m0) (x0 := z_30) (a_tape := a_tape) (f_taped := f_taped) (f_rules := f_rules) (a_sign := a_sign) (a_length := a_length) (a_clause := a_clause) (a_clauses := a_clauses) (a_read := a_read) (f_next := f_next) (f_wrong := f_wrong) (f_number := f_number) (f_text := f_text) (f_made := f_made) (f_deep := f_deep) (f_lines := f_lines) (a_open := a_open) (f_opened := f_opened) (a_stack := a_stack) (f_top := u_27) (a_word := a_word) (a_said := a_said) (f_force := f_force) (f_x := f_x) (f_windAlone := f_windAlone) (a_planned := a_planned) (a_cameOf := a_cameOf) (a_wasSaid := a_wasSaid) (f_undone := f_undone) (a_kept := a_kept) (a_rowNow := a_rowNow) (a_rowBest := a_rowBest) (a_hasBy := a_hasBy) (a_isFit := a_isFit) (a_cameThen := a_cameThen) (f_drawX := f_drawX) (a_images := a_images) (a_imageForce := a_imageForce) (a_imageX := a_imageX) (a_isMade := a_isMade) (g_stack := ga_stack_8) (p0 := (by first | omega | assumption)) (p1 := (by first | omega | assumption))) q_m_X12_282 mv_X12_push ⟨(Nat.le_of_ble_eq_true rfl), (Nat.le_of_ble_eq_true rfl)⟩ [2, 3] [0, 1] (by decide) rfl rfl (by decide) (by decide) rfl rfl rfl rfl rfl (Nat.le_of_ble_eq_true rfl) ⟨(Nat.le_of_ble_eq_true rfl), (Nat.le_of_ble_eq_true rfl)⟩ dX12_reckons_98 (fun u_31 H locs eu_31 hP hD hS => ?_)
              obtain ⟨f_top_32, g_stack_33⟩ := u_31
              have eu_31 : (f_top_32.toInt = u_27.toInt + 1) := eu_31
              have hP : va_P D vwCl [(a_sign, .inl (cy 0, 2400, .inl g_sign)), (a_word, .inl (cy 1, 13, .inr (.inl g_word))), (m0, .inr (12, [.ref a_tape, .int f_taped, .int f_rules, .ref a_sign, .ref a_length, .ref a_clause, .ref a_clauses, .ref a_read, .int f_next, .int f_wrong, .int f_number, .int f_text, .int f_made, .int f_deep, .int f_lines, .ref a_open, .int f_opened, .ref a_stack, .int f_top_32, .ref a_word, .ref a_said, .int f_force, .int f_x, .int f_windAlone, .ref a_planned, .ref a_cameOf, .ref a_wasSaid, .int f_undone, .ref a_kept, .ref a_rowNow, .ref a_rowBest, .ref a_hasBy, .ref a_isFit, .ref a_cameThen, .long f_drawX, .ref a_images, .ref a_imageForce, .ref a_imageX, .ref a_isMade])), (a_stack, .inl (cy 1, 64, .inr (.inl g_stack_33)))] H := hP
              have hD : va_D A [(a_sign, .inl (cy 0, 2400, .inl g_sign)), (a_word, .inl (cy 1, 13, .inr (.inl g_word))), (m0, .inr (12, [.ref a_tape, .int f_taped, .int f_rules, .ref a_sign, .ref a_length, .ref a_clause, .ref a_clauses, .ref a_read, .int f_next, .int f_wrong, .int f_number, .int f_text, .int f_made, .int f_deep, .int f_lines, .ref a_open, .int f_opened, .ref a_stack, .int f_top_32, .ref a_word, .ref a_said, .int f_force, .int f_x, .int f_windAlone, .ref a_planned, .ref a_cameOf, .ref a_wasSaid, .int f_undone, .ref a_kept, .ref a_rowNow, .ref a_rowBest, .ref a_hasBy, .ref a_isFit, .ref a_cameThen, .long f_drawX, .ref a_images, .ref a_imageForce, .ref a_imageX, .ref a_isMade])), (a_stack, .inl (cy 1, 64, .inr (.inl g_stack_33)))] := hD
              refine lv_goto (tgt := 129) hx hb dX12_reckons_101 (by decide) ?_
              obtain ⟨z_34, ez_34⟩ : ∃ y : Int32, y = v4_8 + Int32.ofInt 1 := ⟨_, rfl⟩
              have iz_34 : z_34.toInt = v4_8.toInt + 1 := k_addI ez_34 rfl (by decide) (by omega)
              refine lv_iinc (v := z_34) (lv' := [(4, .int z_34), (6, .int z_11), (5, .int z_7), (0, .ref m0), (1, .int x0), (2, .int x1), (3, .int x2)]) hx hb dX12_reckons_129 hl (k := 2) rfl ez_34.symm (by decide) rfl (fun ls hl => ?_)
              refine lv_goto (tgt := 8) hx hb dX12_reckons_132 (by decide) ?_
              have hP := hP.sub (ws' := [(m0, .inr (12, [.ref a_tape, .int f_taped, .int f_rules, .ref a_sign, .ref a_length, .ref a_clause, .ref a_clauses, .ref a_read, .int f_next, .int f_wrong, .int f_number, .int f_text, .int f_made, .int f_deep, .int f_lines, .ref a_open, .int f_opened, .ref a_stack, .int f_top_32, .ref a_word, .ref a_said, .int f_force, .int f_x, .int f_windAlone, .ref a_planned, .ref a_cameOf, .ref a_wasSaid, .int f_undone, .ref a_kept, .ref a_rowNow, .ref a_rowBest, .ref a_hasBy, .ref a_isFit, .ref a_cameThen, .long f_drawX, .ref a_images, .ref a_imageForce, .ref a_imageX, .ref a_isMade])), (a_sign, .inl (cy 0, 2400, .inl g_sign)), (a_stack, .inl (cy 1, 64, .inr (.inl g_stack_33))), (a_word, .inl (cy 1, 13, .inr (.inl g_word)))]) [2, 0, 3, 1] rfl
              have hD := hD.sub (ws' := [(m0, .inr (12, [.ref a_tape, .int f_taped, .int f_rules, .ref a_sign, .ref a_length, .ref a_clause, .ref a_clauses, .ref a_read, .int f_next, .int f_wrong, .int f_number, .int f_text, .int f_made, .int f_deep, .int f_lines, .ref a_open, .int f_opened, .ref a_stack, .int f_top_32, .ref a_word, .ref a_said, .int f_force, .int f_x, .int f_windAlone, .ref a_planned, .ref a_cameOf, .ref a_wasSaid, .int f_undone, .ref a_kept, .ref a_rowNow, .ref a_rowBest, .ref a_hasBy, .ref a_isFit, .ref a_cameThen, .long f_drawX, .ref a_images, .ref a_imageForce, .ref a_imageX, .ref a_isMade])), (a_sign, .inl (cy 0, 2400, .inl g_sign)), (a_stack, .inl (cy 1, 64, .inr (.inl g_stack_33))), (a_word, .inl (cy 1, 13, .inr (.inl g_word)))]) [2, 0, 3, 1] (by decide) rfl
              exact ih8 z_34 f_top_32 g_stack_33 _ _ ls (by first | omega | assumption) (by first | omega | assumption) (RKI.of sR (by omega) (by omega)) (by omega) hP hD hS (lv_sub hl [0, 3, 4, 5, 6] rfl)
          · have ic_13 : z_7.toInt = 1 := k_eq c_13 rfl (by decide)
            obtain ⟨sT, sR⟩ := stA (by omega)
            refine lv_aload_n hx hb dX12_reckons_70 rfl (lv_at hl 3 rfl) ?_
            refine lv_aload_n hx hb dX12_reckons_71 rfl (lv_at hl 3 rfl) ?_
            refine va_get (D := D) (ci := 12) (v := .ref a_word) (C := RX12) (T := TX12) (N := 39) hx hb hG inG_X12 hown hE.1 hP 0 rfl rfl 19 (by decide) (hG _ q_f_X12_36) (fun _ h9 => h9) rfl dX12_reckons_72 ?_
            refine lv_iload hx hb dX12_reckons_75 (lv_at hl 0 rfl) ?_
            refine va_lald hx hb hE.1 hP 3 1 rfl rfl (k_in (by omega)) dX12_reckons_77 ?_
            refine lv_topl (fun z_35 ez_35 => ?_)
            refine kwVV (wr := [(a_sign, .inl (cy 0, 2400, .inl g_sign)), (a_word, .inl (cy 1, 13, .inr (.inl g_word)))]) (As := [.long z_35]) (rest := []) F hE hP hD hS hA hl.1 (cm_push l D cy (m0 := m0) (x0 := z_35) (a_tape := a_tape) (f_taped := f_taped) (f_rules := f_rules) (a_sign := a_sign) (a_length := a_length) (a_clause := a_clause) (a_clauses := a_clauses) (a_read := a_read) (f_next := f_next) (f_wrong := f_wrong) (f_number := f_number) (f_text := f_text) (f_made := f_made) (f_deep := f_deep) (f_lines := f_lines) (a_open := a_open) (f_opened := f_opened) (a_stack := a_stack) (f_top := w18_m0_8) (a_word := a_word) (a_said := a_said) (f_force := f_force) (f_x := f_x) (f_windAlone := f_windAlone) (a_planned := a_planned) (a_cameOf := a_cameOf) (a_wasSaid := a_wasSaid) (f_undone := f_undone) (a_kept := a_kept) (a_rowNow := a_rowNow) (a_rowBest := a_rowBest) (a_hasBy := a_hasBy) (a_isFit := a_isFit) (a_cameThen := a_cameThen) (f_drawX := f_drawX) (a_images := a_images) (a_imageForce := a_imageForce) (a_imageX := a_imageX) (a_isMade := a_isMade) (g_stack := ga_stack_8) (p0 := (by first | omega | assumption)) (p1 := (by first | omega | assumption))) q_m_X12_282 mv_X12_push ⟨(Nat.le_of_ble_eq_true rfl), (Nat.le_of_ble_eq_true rfl)⟩ [0, 2] [1, 3] (by decide) rfl rfl (by decide) (by decide) rfl rfl rfl rfl rfl (Nat.le_of_ble_eq_true rfl) ⟨(Nat.le_of_ble_eq_true rfl), (Nat.le_of_ble_eq_true rfl)⟩ dX12_reckons_78 (fun u_36 H locs eu_36 hP hD hS => ?_)
            obtain ⟨f_top_37, g_stack_38⟩ := u_36
            have eu_36 : (f_top_37.toInt = w18_m0_8.toInt + 1) := eu_36
            have hP : va_P D vwCl [(a_sign, .inl (cy 0, 2400, .inl g_sign)), (a_word, .inl (cy 1, 13, .inr (.inl g_word))), (m0, .inr (12, [.ref a_tape, .int f_taped, .int f_rules, .ref a_sign, .ref a_length, .ref a_clause, .ref a_clauses, .ref a_read, .int f_next, .int f_wrong, .int f_number, .int f_text, .int f_made, .int f_deep, .int f_lines, .ref a_open, .int f_opened, .ref a_stack, .int f_top_37, .ref a_word, .ref a_said, .int f_force, .int f_x, .int f_windAlone, .ref a_planned, .ref a_cameOf, .ref a_wasSaid, .int f_undone, .ref a_kept, .ref a_rowNow, .ref a_rowBest, .ref a_hasBy, .ref a_isFit, .ref a_cameThen, .long f_drawX, .ref a_images, .ref a_imageForce, .ref a_imageX, .ref a_isMade])), (a_stack, .inl (cy 1, 64, .inr (.inl g_stack_38)))] H := hP
            have hD : va_D A [(a_sign, .inl (cy 0, 2400, .inl g_sign)), (a_word, .inl (cy 1, 13, .inr (.inl g_word))), (m0, .inr (12, [.ref a_tape, .int f_taped, .int f_rules, .ref a_sign, .ref a_length, .ref a_clause, .ref a_clauses, .ref a_read, .int f_next, .int f_wrong, .int f_number, .int f_text, .int f_made, .int f_deep, .int f_lines, .ref a_open, .int f_opened, .ref a_stack, .int f_top_37, .ref a_word, .ref a_said, .int f_force, .int f_x, .int f_windAlone, .ref a_planned, .ref a_cameOf, .ref a_wasSaid, .int f_undone, .ref a_kept, .ref a_rowNow, .ref a_rowBest, .ref a_hasBy, .ref a_isFit, .ref a_cameThen, .long f_drawX, .ref a_images, .ref a_imageForce, .ref a_imageX, .ref a_isMade])), (a_stack, .inl (cy 1, 64, .inr (.inl g_stack_38)))] := hD
            refine lv_goto (tgt := 129) hx hb dX12_reckons_81 (by decide) ?_
            obtain ⟨z_39, ez_39⟩ : ∃ y : Int32, y = v4_8 + Int32.ofInt 1 := ⟨_, rfl⟩
            have iz_39 : z_39.toInt = v4_8.toInt + 1 := k_addI ez_39 rfl (by decide) (by omega)
            refine lv_iinc (v := z_39) (lv' := [(4, .int z_39), (6, .int z_11), (5, .int z_7), (0, .ref m0), (1, .int x0), (2, .int x1), (3, .int x2)]) hx hb dX12_reckons_129 hl (k := 2) rfl ez_39.symm (by decide) rfl (fun ls hl => ?_)
            refine lv_goto (tgt := 8) hx hb dX12_reckons_132 (by decide) ?_
            have hP := hP.sub (ws' := [(m0, .inr (12, [.ref a_tape, .int f_taped, .int f_rules, .ref a_sign, .ref a_length, .ref a_clause, .ref a_clauses, .ref a_read, .int f_next, .int f_wrong, .int f_number, .int f_text, .int f_made, .int f_deep, .int f_lines, .ref a_open, .int f_opened, .ref a_stack, .int f_top_37, .ref a_word, .ref a_said, .int f_force, .int f_x, .int f_windAlone, .ref a_planned, .ref a_cameOf, .ref a_wasSaid, .int f_undone, .ref a_kept, .ref a_rowNow, .ref a_rowBest, .ref a_hasBy, .ref a_isFit, .ref a_cameThen, .long f_drawX, .ref a_images, .ref a_imageForce, .ref a_imageX, .ref a_isMade])), (a_sign, .inl (cy 0, 2400, .inl g_sign)), (a_stack, .inl (cy 1, 64, .inr (.inl g_stack_38))), (a_word, .inl (cy 1, 13, .inr (.inl g_word)))]) [2, 0, 3, 1] rfl
            have hD := hD.sub (ws' := [(m0, .inr (12, [.ref a_tape, .int f_taped, .int f_rules, .ref a_sign, .ref a_length, .ref a_clause, .ref a_clauses, .ref a_read, .int f_next, .int f_wrong, .int f_number, .int f_text, .int f_made, .int f_deep, .int f_lines, .ref a_open, .int f_opened, .ref a_stack, .int f_top_37, .ref a_word, .ref a_said, .int f_force, .int f_x, .int f_windAlone, .ref a_planned, .ref a_cameOf, .ref a_wasSaid, .int f_undone, .ref a_kept, .ref a_rowNow, .ref a_rowBest, .ref a_hasBy, .ref a_isFit, .ref a_cameThen, .long f_drawX, .ref a_images, .ref a_imageForce, .ref a_imageX, .ref a_isMade])), (a_sign, .inl (cy 0, 2400, .inl g_sign)), (a_stack, .inl (cy 1, 64, .inr (.inl g_stack_38))), (a_word, .inl (cy 1, 13, .inr (.inl g_word)))]) [2, 0, 3, 1] (by decide) rfl
            exact ih8 z_39 f_top_37 g_stack_38 _ _ ls (by first | omega | assumption) (by first | omega | assumption) (RKI.of sR (by omega) (by omega)) (by omega) hP hD hS (lv_sub hl [0, 3, 4, 5, 6] rfl)
        · have ic_12 : z_7.toInt = 0 := k_eq c_12 rfl (by decide)
          obtain ⟨sT, sR⟩ := stA (by omega)
          refine lv_aload_n hx hb dX12_reckons_54 rfl (lv_at hl 3 rfl) ?_
          refine lv_iload hx hb dX12_reckons_55 (lv_at hl 0 rfl) ?_
          refine lv_i2l hx hb dX12_reckons_57 rfl ?_
          have lw_39 : ((z_11).toInt64).toInt = (z_11).toInt := Int32.toInt_toInt64 _
          refine kwVV (wr := [(a_sign, .inl (cy 0, 2400, .inl g_sign)), (a_word, .inl (cy 1, 13, .inr (.inl g_word)))]) (As := [.long ((z_11).toInt64)]) (rest := []) F hE hP hD hS hA hl.1 (cm_push l D cy (m0 := m0) (x0 := ((z_11).toInt64)) (a_tape := a_tape) (f_taped := f_taped) (f_rules := f_rules) (a_sign := a_sign) (a_length := a_length) (a_clause := a_clause) (a_clauses := a_clauses) (a_read := a_read) (f_next := f_next) (f_wrong := f_wrong) (f_number := f_number) (f_text := f_text) (f_made := f_made) (f_deep := f_deep) (f_lines := f_lines) (a_open := a_open) (f_opened := f_opened) (a_stack := a_stack) (f_top := w18_m0_8) (a_word := a_word) (a_said := a_said) (f_force := f_force) (f_x := f_x) (f_windAlone := f_windAlone) (a_planned := a_planned) (a_cameOf := a_cameOf) (a_wasSaid := a_wasSaid) (f_undone := f_undone) (a_kept := a_kept) (a_rowNow := a_rowNow) (a_rowBest := a_rowBest) (a_hasBy := a_hasBy) (a_isFit := a_isFit) (a_cameThen := a_cameThen) (f_drawX := f_drawX) (a_images := a_images) (a_imageForce := a_imageForce) (a_imageX := a_imageX) (a_isMade := a_isMade) (g_stack := ga_stack_8) (p0 := (by first | omega | assumption)) (p1 := (by first | omega | assumption))) q_m_X12_282 mv_X12_push ⟨(Nat.le_of_ble_eq_true rfl), (Nat.le_of_ble_eq_true rfl)⟩ [0, 2] [1, 3] (by decide) rfl rfl (by decide) (by decide) rfl rfl rfl rfl rfl (Nat.le_of_ble_eq_true rfl) ⟨(Nat.le_of_ble_eq_true rfl), (Nat.le_of_ble_eq_true rfl)⟩ dX12_reckons_58 (fun u_41 H locs eu_41 hP hD hS => ?_)
          obtain ⟨f_top_42, g_stack_43⟩ := u_41
          have eu_41 : (f_top_42.toInt = w18_m0_8.toInt + 1) := eu_41
          have hP : va_P D vwCl [(a_sign, .inl (cy 0, 2400, .inl g_sign)), (a_word, .inl (cy 1, 13, .inr (.inl g_word))), (m0, .inr (12, [.ref a_tape, .int f_taped, .int f_rules, .ref a_sign, .ref a_length, .ref a_clause, .ref a_clauses, .ref a_read, .int f_next, .int f_wrong, .int f_number, .int f_text, .int f_made, .int f_deep, .int f_lines, .ref a_open, .int f_opened, .ref a_stack, .int f_top_42, .ref a_word, .ref a_said, .int f_force, .int f_x, .int f_windAlone, .ref a_planned, .ref a_cameOf, .ref a_wasSaid, .int f_undone, .ref a_kept, .ref a_rowNow, .ref a_rowBest, .ref a_hasBy, .ref a_isFit, .ref a_cameThen, .long f_drawX, .ref a_images, .ref a_imageForce, .ref a_imageX, .ref a_isMade])), (a_stack, .inl (cy 1, 64, .inr (.inl g_stack_43)))] H := hP
          have hD : va_D A [(a_sign, .inl (cy 0, 2400, .inl g_sign)), (a_word, .inl (cy 1, 13, .inr (.inl g_word))), (m0, .inr (12, [.ref a_tape, .int f_taped, .int f_rules, .ref a_sign, .ref a_length, .ref a_clause, .ref a_clauses, .ref a_read, .int f_next, .int f_wrong, .int f_number, .int f_text, .int f_made, .int f_deep, .int f_lines, .ref a_open, .int f_opened, .ref a_stack, .int f_top_42, .ref a_word, .ref a_said, .int f_force, .int f_x, .int f_windAlone, .ref a_planned, .ref a_cameOf, .ref a_wasSaid, .int f_undone, .ref a_kept, .ref a_rowNow, .ref a_rowBest, .ref a_hasBy, .ref a_isFit, .ref a_cameThen, .long f_drawX, .ref a_images, .ref a_imageForce, .ref a_imageX, .ref a_isMade])), (a_stack, .inl (cy 1, 64, .inr (.inl g_stack_43)))] := hD
          refine lv_goto (tgt := 129) hx hb dX12_reckons_61 (by decide) ?_
          obtain ⟨z_44, ez_44⟩ : ∃ y : Int32, y = v4_8 + Int32.ofInt 1 := ⟨_, rfl⟩
          have iz_44 : z_44.toInt = v4_8.toInt + 1 := k_addI ez_44 rfl (by decide) (by omega)
          refine lv_iinc (v := z_44) (lv' := [(4, .int z_44), (6, .int z_11), (5, .int z_7), (0, .ref m0), (1, .int x0), (2, .int x1), (3, .int x2)]) hx hb dX12_reckons_129 hl (k := 2) rfl ez_44.symm (by decide) rfl (fun ls hl => ?_)
          refine lv_goto (tgt := 8) hx hb dX12_reckons_132 (by decide) ?_
          have hP := hP.sub (ws' := [(m0, .inr (12, [.ref a_tape, .int f_taped, .int f_rules, .ref a_sign, .ref a_length, .ref a_clause, .ref a_clauses, .ref a_read, .int f_next, .int f_wrong, .int f_number, .int f_text, .int f_made, .int f_deep, .int f_lines, .ref a_open, .int f_opened, .ref a_stack, .int f_top_42, .ref a_word, .ref a_said, .int f_force, .int f_x, .int f_windAlone, .ref a_planned, .ref a_cameOf, .ref a_wasSaid, .int f_undone, .ref a_kept, .ref a_rowNow, .ref a_rowBest, .ref a_hasBy, .ref a_isFit, .ref a_cameThen, .long f_drawX, .ref a_images, .ref a_imageForce, .ref a_imageX, .ref a_isMade])), (a_sign, .inl (cy 0, 2400, .inl g_sign)), (a_stack, .inl (cy 1, 64, .inr (.inl g_stack_43))), (a_word, .inl (cy 1, 13, .inr (.inl g_word)))]) [2, 0, 3, 1] rfl
          have hD := hD.sub (ws' := [(m0, .inr (12, [.ref a_tape, .int f_taped, .int f_rules, .ref a_sign, .ref a_length, .ref a_clause, .ref a_clauses, .ref a_read, .int f_next, .int f_wrong, .int f_number, .int f_text, .int f_made, .int f_deep, .int f_lines, .ref a_open, .int f_opened, .ref a_stack, .int f_top_42, .ref a_word, .ref a_said, .int f_force, .int f_x, .int f_windAlone, .ref a_planned, .ref a_cameOf, .ref a_wasSaid, .int f_undone, .ref a_kept, .ref a_rowNow, .ref a_rowBest, .ref a_hasBy, .ref a_isFit, .ref a_cameThen, .long f_drawX, .ref a_images, .ref a_imageForce, .ref a_imageX, .ref a_isMade])), (a_sign, .inl (cy 0, 2400, .inl g_sign)), (a_stack, .inl (cy 1, 64, .inr (.inl g_stack_43))), (a_word, .inl (cy 1, 13, .inr (.inl g_word)))]) [2, 0, 3, 1] (by decide) rfl
          exact ih8 z_44 f_top_42 g_stack_43 _ _ ls (by first | omega | assumption) (by first | omega | assumption) (RKI.of sR (by omega) (by omega)) (by omega) hP hD hS (lv_sub hl [0, 3, 4, 5, 6] rfl)
  have lt_45 : (0 : Int32).toInt = 0 := by decide
  exact lp8 100000 x1 0 g_stack _ _ ls (by first | omega | assumption) (by first | omega | assumption) (RKI.zero (by omega) (by omega) (by decide)) (by omega) hP hD hS hl

set_option maxHeartbeats 4000000 in
set_option maxRecDepth 100000 in
theorem cm_summedBy (l : Launch) (D : va_G) (cy : Nat → ClassId) (m0 : Nat) (a_tape : Nat) (a_sign : Nat) (a_length : Nat) (a_clause : Nat) (a_clauses : Nat) (a_read : Nat) (a_open : Nat) (a_stack : Nat) (a_word : Nat) (a_said : Nat) (a_planned : Nat) (a_cameOf : Nat) (a_wasSaid : Nat) (a_kept : Nat) (a_rowNow : Nat) (a_rowBest : Nat) (a_hasBy : Nat) (a_isFit : Nat) (a_cameThen : Nat) (a_images : Nat) (a_imageForce : Nat) (a_imageX : Nat) (a_isMade : Nat) (f_taped : Int32) (f_rules : Int32) (f_next : Int32) (f_wrong : Int32) (f_number : Int32) (f_text : Int32) (f_made : Int32) (f_deep : Int32) (f_lines : Int32) (f_opened : Int32) (f_top : Int32) (f_force : Int32) (f_x : Int32) (f_windAlone : Int32) (f_undone : Int32) (f_drawX : Int64) (g_sign : Nat → Int32) (g_clause : Nat → Int32) (g_clauses : Nat → Int32) (g_stack : Nat → Int64) (g_word : Nat → Int64) (x0 : Int32) (p0 : RV g_sign g_clause g_clauses f_rules.toInt) (p1 : 0 ≤ x0.toInt) (p2 : x0.toInt < f_rules.toInt) : KL l yX12_summedBy cX12_summedBy 4 (some .long) 2 54 D (kTY cy) [.ref m0, .int x0] [(m0, .inr (12, [.ref a_tape, .int f_taped, .int f_rules, .ref a_sign, .ref a_length, .ref a_clause, .ref a_clauses, .ref a_read, .int f_next, .int f_wrong, .int f_number, .int f_text, .int f_made, .int f_deep, .int f_lines, .ref a_open, .int f_opened, .ref a_stack, .int f_top, .ref a_word, .ref a_said, .int f_force, .int f_x, .int f_windAlone, .ref a_planned, .ref a_cameOf, .ref a_wasSaid, .int f_undone, .ref a_kept, .ref a_rowNow, .ref a_rowBest, .ref a_hasBy, .ref a_isFit, .ref a_cameThen, .long f_drawX, .ref a_images, .ref a_imageForce, .ref a_imageX, .ref a_isMade])), (a_sign, .inl (cy 0, 2400, .inl g_sign)), (a_clause, .inl (cy 0, 288, .inl g_clause)), (a_clauses, .inl (cy 0, 6, .inl g_clauses)), (a_stack, .inl (cy 1, 64, .inr (.inl g_stack))), (a_word, .inl (cy 1, 13, .inr (.inl g_word)))] (S := Int32 × (Nat → Int64)) (fun r u => True) (fun u => [(m0, .inr (12, [.ref a_tape, .int f_taped, .int f_rules, .ref a_sign, .ref a_length, .ref a_clause, .ref a_clauses, .ref a_read, .int f_next, .int f_wrong, .int f_number, .int f_text, .int f_made, .int f_deep, .int f_lines, .ref a_open, .int f_opened, .ref a_stack, .int (u.1), .ref a_word, .ref a_said, .int f_force, .int f_x, .int f_windAlone, .ref a_planned, .ref a_cameOf, .ref a_wasSaid, .int f_undone, .ref a_kept, .ref a_rowNow, .ref a_rowBest, .ref a_hasBy, .ref a_isFit, .ref a_cameThen, .long f_drawX, .ref a_images, .ref a_imageForce, .ref a_imageX, .ref a_isMade])), (a_sign, .inl (cy 0, 2400, .inl g_sign)), (a_clause, .inl (cy 0, 288, .inl g_clause)), (a_clauses, .inl (cy 0, 6, .inl g_clauses)), (a_stack, .inl (cy 1, 64, .inr (.inl (u.2)))), (a_word, .inl (cy 1, 13, .inr (.inl g_word)))]) 0 0 := by
  refine KL.of (by decide) (Nat.le_of_ble_eq_true rfl) (fun p e s m below meth c ls A F hE hP hD hA hS hl => ?_)
  have F : kF p s m meth c cX12_summedBy 4 (some .long) _ RX12 := F
  obtain ⟨hx, hb, hr, hml, hown, hG, hlk⟩ := id F
  have hl : lv_has ls 4 [(0, .ref m0), (1, .int x0)] := hl
  refine lv_iconst (v := 0) hx hb dX12_summedBy_0 (by decide) ?_
  refine lv_istore_n (lv' := [(2, .int 0), (0, .ref m0), (1, .int x0)]) hx hb dX12_summedBy_1 rfl hl (by decide) rfl (fun ls hl => ?_)
  have lp2 : ∀ (fu : Nat) (v2_2 : Int32) (w18_m0_2 : Int32) (ga_stack_2 : Nat → Int64) (H : Heap) (locs : List Loc) (ls : Array Slot), (0 ≤ v2_2.toInt) → (v2_2.toInt ≤ 12) → 12 - v2_2.toInt < (fu : Int) → va_P D vwCl [(m0, .inr (12, [.ref a_tape, .int f_taped, .int f_rules, .ref a_sign, .ref a_length, .ref a_clause, .ref a_clauses, .ref a_read, .int f_next, .int f_wrong, .int f_number, .int f_text, .int f_made, .int f_deep, .int f_lines, .ref a_open, .int f_opened, .ref a_stack, .int w18_m0_2, .ref a_word, .ref a_said, .int f_force, .int f_x, .int f_windAlone, .ref a_planned, .ref a_cameOf, .ref a_wasSaid, .int f_undone, .ref a_kept, .ref a_rowNow, .ref a_rowBest, .ref a_hasBy, .ref a_isFit, .ref a_cameThen, .long f_drawX, .ref a_images, .ref a_imageForce, .ref a_imageX, .ref a_isMade])), (a_sign, .inl (cy 0, 2400, .inl g_sign)), (a_clause, .inl (cy 0, 288, .inl g_clause)), (a_clauses, .inl (cy 0, 6, .inl g_clauses)), (a_stack, .inl (cy 1, 64, .inr (.inl ga_stack_2))), (a_word, .inl (cy 1, 13, .inr (.inl g_word)))] H → va_D A [(m0, .inr (12, [.ref a_tape, .int f_taped, .int f_rules, .ref a_sign, .ref a_length, .ref a_clause, .ref a_clauses, .ref a_read, .int f_next, .int f_wrong, .int f_number, .int f_text, .int f_made, .int f_deep, .int f_lines, .ref a_open, .int f_opened, .ref a_stack, .int w18_m0_2, .ref a_word, .ref a_said, .int f_force, .int f_x, .int f_windAlone, .ref a_planned, .ref a_cameOf, .ref a_wasSaid, .int f_undone, .ref a_kept, .ref a_rowNow, .ref a_rowBest, .ref a_hasBy, .ref a_isFit, .ref a_cameThen, .long f_drawX, .ref a_images, .ref a_imageForce, .ref a_imageX, .ref a_isMade])), (a_sign, .inl (cy 0, 2400, .inl g_sign)), (a_clause, .inl (cy 0, 288, .inl g_clause)), (a_clauses, .inl (cy 0, 6, .inl g_clauses)), (a_stack, .inl (cy 1, 64, .inr (.inl ga_stack_2))), (a_word, .inl (cy 1, 13, .inr (.inl g_word)))] → va_S A s.heap H locs → lv_has ls 4 [(2, .int v2_2), (0, .ref m0), (1, .int x0)] → W p l e (kRm 2 54 0 0) s m ([.ref m0, .int x0] : List Value).toArray below meth c H locs 0 0 (MQ below (va_Ql (S := Int32 × (Nat → Int64)) (fun r u => True) (kBw D A (fun u => [(m0, .inr (12, [.ref a_tape, .int f_taped, .int f_rules, .ref a_sign, .ref a_length, .ref a_clause, .ref a_clauses, .ref a_read, .int f_next, .int f_wrong, .int f_number, .int f_text, .int f_made, .int f_deep, .int f_lines, .ref a_open, .int f_opened, .ref a_stack, .int (u.1), .ref a_word, .ref a_said, .int f_force, .int f_x, .int f_windAlone, .ref a_planned, .ref a_cameOf, .ref a_wasSaid, .int f_undone, .ref a_kept, .ref a_rowNow, .ref a_rowBest, .ref a_hasBy, .ref a_isFit, .ref a_cameThen, .long f_drawX, .ref a_images, .ref a_imageForce, .ref a_imageX, .ref a_isMade])), (a_sign, .inl (cy 0, 2400, .inl g_sign)), (a_clause, .inl (cy 0, 288, .inl g_clause)), (a_clauses, .inl (cy 0, 6, .inl g_clauses)), (a_stack, .inl (cy 1, 64, .inr (.inl (u.2)))), (a_word, .inl (cy 1, 13, .inr (.inl g_word)))])) A) ([.ref m0, .int x0] : List Value).toArray s 0 0 A) (F0 m 2 ls []) := by
    intro fu2
    induction fu2 with
    | zero =>
      intro v2_2 w18_m0_2 ga_stack_2 H locs ls j0_2 j1_2 hm2 hP hD hS hl
      exact absurd hm2 (by omega)
    | succ fu2 ih2 =>
      intro v2_2 w18_m0_2 ga_stack_2 H locs ls j0_2 j1_2 hm2 hP hD hS hl
      obtain ⟨cn1, cn2⟩ := RV.many p0 x0 (by omega)
      have r6 := p0.1
      refine lv_iload_n hx hb dX12_summedBy_2 rfl (lv_at hl 0 rfl) ?_
      refine lv_aload_n hx hb dX12_summedBy_3 rfl (lv_at hl 1 rfl) ?_
      refine va_get (D := D) (ci := 12) (v := .ref a_clauses) (C := RX12) (T := TX12) (N := 39) hx hb hG inG_X12 hown hE.1 hP 0 rfl rfl 6 (by decide) (hG _ q_f_X12_23) (fun _ h9 => h9) rfl dX12_summedBy_4 ?_
      refine lv_iload_n hx hb dX12_summedBy_7 rfl (lv_at hl 2 rfl) ?_
      refine va_iald hx hb hE.1 hP 3 0 rfl rfl (k_in (by omega)) dX12_summedBy_8 ?_
      refine k_top (z := (g_clauses (Int32.toNatClampNeg x0))) rfl ?_
      refine lv_icmp_ge (tgt := 84) hx hb dX12_summedBy_9 (by decide) (fun c_1 => ?_) (fun c_1 => ?_)
      · have ic_1 : (g_clauses (Int32.toNatClampNeg x0)).toInt ≤ v2_2.toInt := k_le c_1 rfl rfl
        refine lv_lconst (v := 0) hx hb dX12_summedBy_84 (by decide) ?_
        exact KL.rt ⟨w18_m0_2, ga_stack_2⟩ F (hP.sub [0, 1, 2, 3, 4, 5] rfl) (hD.sub [0, 1, 2, 3, 4, 5] (by decide) rfl) hS trivial (Nat.le_of_ble_eq_true rfl) (Nat.le_of_ble_eq_true rfl) dX12_summedBy_85
      · have ic_1 : v2_2.toInt < (g_clauses (Int32.toNatClampNeg x0)).toInt := k_nle c_1 rfl rfl
        refine lv_bipush (v := 48) hx hb dX12_summedBy_12 (by decide) ?_
        refine lv_iload_n hx hb dX12_summedBy_14 rfl (lv_at hl 2 rfl) ?_
        refine lv_imul hx hb dX12_summedBy_15 ?_
        refine lv_topi (fun z_2 ez_2 => ?_)
        have iz_2 : z_2.toInt = 48 * x0.toInt := k_mulI ez_2 (by decide) rfl (by omega)
        refine lv_iconst (v := 4) hx hb dX12_summedBy_16 (by decide) ?_
        refine lv_iload_n hx hb dX12_summedBy_17 rfl (lv_at hl 0 rfl) ?_
        refine lv_imul hx hb dX12_summedBy_18 ?_
        refine lv_topi (fun z_3 ez_3 => ?_)
        have iz_3 : z_3.toInt = 4 * v2_2.toInt := k_mulI ez_3 (by decide) rfl (by omega)
        refine lv_iadd hx hb dX12_summedBy_19 ?_
        refine lv_topi (fun z_4 ez_4 => ?_)
        have iz_4 : z_4.toInt = z_2.toInt + z_3.toInt := k_addI ez_4 rfl rfl (by omega)
        refine lv_istore_n (lv' := [(3, .int z_4), (2, .int v2_2), (0, .ref m0), (1, .int x0)]) hx hb dX12_summedBy_20 rfl hl (by decide) rfl (fun ls hl => ?_)
        obtain ⟨q1, eq1⟩ : ∃ y : Int32, y = z_4 + 1 := ⟨_, rfl⟩
        have iq1 : q1.toInt = z_4.toInt + 1 := k_addI eq1 rfl (by decide) (by omega)
        obtain ⟨q2, eq2⟩ : ∃ y : Int32, y = z_4 + 2 := ⟨_, rfl⟩
        have iq2 : q2.toInt = z_4.toInt + 2 := k_addI eq2 rfl (by decide) (by omega)
        obtain ⟨q3, eq3⟩ : ∃ y : Int32, y = z_4 + 3 := ⟨_, rfl⟩
        have iq3 : q3.toInt = z_4.toInt + 3 := k_addI eq3 rfl (by decide) (by omega)
        obtain ⟨⟨sa1, sa2, sa3, sa4⟩, sB⟩ := RV.seg p0 x0 v2_2 (by omega) (by omega) z_4 q1 q2 q3 (by omega) (by omega) (by omega) (by omega)
        refine lv_aload_n hx hb dX12_summedBy_21 rfl (lv_at hl 2 rfl) ?_
        refine va_get (D := D) (ci := 12) (v := .ref a_clause) (C := RX12) (T := TX12) (N := 39) hx hb hG inG_X12 hown hE.1 hP 0 rfl rfl 5 (by decide) (hG _ q_f_X12_20) (fun _ h9 => h9) rfl dX12_summedBy_22 ?_
        refine lv_iload_n hx hb dX12_summedBy_25 rfl (lv_at hl 0 rfl) ?_
        refine lv_iconst (v := 2) hx hb dX12_summedBy_26 (by decide) ?_
        refine lv_iadd hx hb dX12_summedBy_27 ?_
        refine lv_topi (fun z_5 ez_5 => ?_)
        have iz_5 : z_5.toInt = z_4.toInt + 2 := k_addI ez_5 rfl (by decide) (by omega)
        have ee_6 : q2 = z_5 := Int32.toInt_inj.mp (by omega)
        subst ee_6
        refine va_iald hx hb hE.1 hP 2 0 rfl rfl (k_in (by omega)) dX12_summedBy_28 ?_
        refine k_top (z := (g_clause (Int32.toNatClampNeg q2))) rfl ?_
        refine lv_if_lt (tgt := 58) hx hb dX12_summedBy_29 (by decide) (fun c_7 => ?_) (fun c_7 => ?_)
        · have ic_7 : (g_clause (Int32.toNatClampNeg q2)).toInt < 0 := k_lt c_7 rfl (by decide)
          refine lv_aload_n hx hb dX12_summedBy_58 rfl (lv_at hl 2 rfl) ?_
          refine lv_iload_n hx hb dX12_summedBy_59 rfl (lv_at hl 3 rfl) ?_
          refine lv_aload_n hx hb dX12_summedBy_60 rfl (lv_at hl 2 rfl) ?_
          refine va_get (D := D) (ci := 12) (v := .ref a_clause) (C := RX12) (T := TX12) (N := 39) hx hb hG inG_X12 hown hE.1 hP 0 rfl rfl 5 (by decide) (hG _ q_f_X12_20) (fun _ h9 => h9) rfl dX12_summedBy_61 ?_
          refine lv_iload_n hx hb dX12_summedBy_64 rfl (lv_at hl 0 rfl) ?_
          refine va_iald hx hb hE.1 hP 2 0 rfl rfl (k_in (by omega)) dX12_summedBy_65 ?_
          refine k_top (z := (g_clause (Int32.toNatClampNeg z_4))) rfl ?_
          refine lv_aload_n hx hb dX12_summedBy_66 rfl (lv_at hl 2 rfl) ?_
          refine va_get (D := D) (ci := 12) (v := .ref a_clause) (C := RX12) (T := TX12) (N := 39) hx hb hG inG_X12 hown hE.1 hP 0 rfl rfl 5 (by decide) (hG _ q_f_X12_20) (fun _ h9 => h9) rfl dX12_summedBy_67 ?_
          refine lv_iload_n hx hb dX12_summedBy_70 rfl (lv_at hl 0 rfl) ?_
          refine lv_iconst (v := 1) hx hb dX12_summedBy_71 (by decide) ?_
          refine lv_iadd hx hb dX12_summedBy_72 ?_
          refine lv_topi (fun z_8 ez_8 => ?_)
          have iz_8 : z_8.toInt = z_4.toInt + 1 := k_addI ez_8 rfl (by decide) (by omega)
          have ee_9 : q1 = z_8 := Int32.toInt_inj.mp (by omega)
          subst ee_9
          refine va_iald hx hb hE.1 hP 2 0 rfl rfl (k_in (by omega)) dX12_summedBy_73 ?_
          refine k_top (z := (g_clause (Int32.toNatClampNeg q1))) rfl ?_
          refine kwVL (wr := [(a_clause, .inl (cy 0, 288, .inl g_clause)), (a_clauses, .inl (cy 0, 6, .inl g_clauses))]) (As := [.int x0, .int (g_clause (Int32.toNatClampNeg z_4)), .int (g_clause (Int32.toNatClampNeg q1))]) (rest := []) F hE hP hD hS hA hl.1 (cm_reckons l D cy (m0 := m0) (x0 := x0) (x1 := (g_clause (Int32.toNatClampNeg z_4))) (x2 := (g_clause (Int32.toNatClampNeg q1))) (a_tape := a_tape) (f_taped := f_taped) (f_rules := f_rules) (a_sign := a_sign) (a_length := a_length) (a_clause := a_clause) (a_clauses := a_clauses) (a_read := a_read) (f_next := f_next) (f_wrong := f_wrong) (f_number := f_number) (f_text := f_text) (f_made := f_made) (f_deep := f_deep) (f_lines := f_lines) (a_open := a_open) (f_opened := f_opened) (a_stack := a_stack) (f_top := w18_m0_2) (a_word := a_word) (a_said := a_said) (f_force := f_force) (f_x := f_x) (f_windAlone := f_windAlone) (a_planned := a_planned) (a_cameOf := a_cameOf) (a_wasSaid := a_wasSaid) (f_undone := f_undone) (a_kept := a_kept) (a_rowNow := a_rowNow) (a_rowBest := a_rowBest) (a_hasBy := a_hasBy) (a_isFit := a_isFit) (a_cameThen := a_cameThen) (f_drawX := f_drawX) (a_images := a_images) (a_imageForce := a_imageForce) (a_imageX := a_imageX) (a_isMade := a_isMade) (g_sign := g_sign) (g_stack := ga_stack_2) (g_word := g_word) (p0 := (by first | omega | assumption)) (p1 := (by first | omega | assumption)) (p2 := (by first | omega | assumption)) (p3 := (by first | omega | assumption)) (p4 := (by first | omega | assumption)) (p5 := (by first | omega | assumption))) q_m_X12_326 mv_X12_reckons ⟨(Nat.le_of_ble_eq_true rfl), (Nat.le_of_ble_eq_true rfl)⟩ [0, 1, 4, 5] [2, 3] (by decide) rfl rfl (by decide) (by decide) rfl rfl rfl rfl rfl (Nat.le_of_ble_eq_true rfl) ⟨(Nat.le_of_ble_eq_true rfl), (Nat.le_of_ble_eq_true rfl)⟩ dX12_summedBy_74 (fun r_11 u_10 H locs eu_10 hP hD hS => ?_)
          obtain ⟨f_top_12, g_stack_13⟩ := u_10
          have hP : va_P D vwCl [(a_clause, .inl (cy 0, 288, .inl g_clause)), (a_clauses, .inl (cy 0, 6, .inl g_clauses)), (m0, .inr (12, [.ref a_tape, .int f_taped, .int f_rules, .ref a_sign, .ref a_length, .ref a_clause, .ref a_clauses, .ref a_read, .int f_next, .int f_wrong, .int f_number, .int f_text, .int f_made, .int f_deep, .int f_lines, .ref a_open, .int f_opened, .ref a_stack, .int f_top_12, .ref a_word, .ref a_said, .int f_force, .int f_x, .int f_windAlone, .ref a_planned, .ref a_cameOf, .ref a_wasSaid, .int f_undone, .ref a_kept, .ref a_rowNow, .ref a_rowBest, .ref a_hasBy, .ref a_isFit, .ref a_cameThen, .long f_drawX, .ref a_images, .ref a_imageForce, .ref a_imageX, .ref a_isMade])), (a_sign, .inl (cy 0, 2400, .inl g_sign)), (a_stack, .inl (cy 1, 64, .inr (.inl g_stack_13))), (a_word, .inl (cy 1, 13, .inr (.inl g_word)))] H := hP
          have hD : va_D A [(a_clause, .inl (cy 0, 288, .inl g_clause)), (a_clauses, .inl (cy 0, 6, .inl g_clauses)), (m0, .inr (12, [.ref a_tape, .int f_taped, .int f_rules, .ref a_sign, .ref a_length, .ref a_clause, .ref a_clauses, .ref a_read, .int f_next, .int f_wrong, .int f_number, .int f_text, .int f_made, .int f_deep, .int f_lines, .ref a_open, .int f_opened, .ref a_stack, .int f_top_12, .ref a_word, .ref a_said, .int f_force, .int f_x, .int f_windAlone, .ref a_planned, .ref a_cameOf, .ref a_wasSaid, .int f_undone, .ref a_kept, .ref a_rowNow, .ref a_rowBest, .ref a_hasBy, .ref a_isFit, .ref a_cameThen, .long f_drawX, .ref a_images, .ref a_imageForce, .ref a_imageX, .ref a_isMade])), (a_sign, .inl (cy 0, 2400, .inl g_sign)), (a_stack, .inl (cy 1, 64, .inr (.inl g_stack_13))), (a_word, .inl (cy 1, 13, .inr (.inl g_word)))] := hD
          exact KL.rt ⟨f_top_12, g_stack_13⟩ F (hP.sub [2, 3, 0, 1, 4, 5] rfl) (hD.sub [2, 3, 0, 1, 4, 5] (by decide) rfl) hS trivial (Nat.le_of_ble_eq_true rfl) (Nat.le_of_ble_eq_true rfl) dX12_summedBy_77
        · have ic_7 : 0 ≤ (g_clause (Int32.toNatClampNeg q2)).toInt := k_nlt c_7 rfl (by decide)
          obtain ⟨sb1, sb2, sb3, sb4⟩ := sB.resolve_left (by omega)
          refine lv_aload_n hx hb dX12_summedBy_32 rfl (lv_at hl 2 rfl) ?_
          refine lv_iload_n hx hb dX12_summedBy_33 rfl (lv_at hl 3 rfl) ?_
          refine lv_aload_n hx hb dX12_summedBy_34 rfl (lv_at hl 2 rfl) ?_
          refine va_get (D := D) (ci := 12) (v := .ref a_clause) (C := RX12) (T := TX12) (N := 39) hx hb hG inG_X12 hown hE.1 hP 0 rfl rfl 5 (by decide) (hG _ q_f_X12_20) (fun _ h9 => h9) rfl dX12_summedBy_35 ?_
          refine lv_iload_n hx hb dX12_summedBy_38 rfl (lv_at hl 0 rfl) ?_
          refine lv_iconst (v := 2) hx hb dX12_summedBy_39 (by decide) ?_
          refine lv_iadd hx hb dX12_summedBy_40 ?_
          refine lv_topi (fun z_14 ez_14 => ?_)
          have iz_14 : z_14.toInt = z_4.toInt + 2 := k_addI ez_14 rfl (by decide) (by omega)
          have ee_15 : q2 = z_14 := Int32.toInt_inj.mp (by omega)
          subst ee_15
          refine va_iald hx hb hE.1 hP 2 0 rfl rfl (k_in (by omega)) dX12_summedBy_41 ?_
          refine k_top (z := (g_clause (Int32.toNatClampNeg q2))) rfl ?_
          refine lv_aload_n hx hb dX12_summedBy_42 rfl (lv_at hl 2 rfl) ?_
          refine va_get (D := D) (ci := 12) (v := .ref a_clause) (C := RX12) (T := TX12) (N := 39) hx hb hG inG_X12 hown hE.1 hP 0 rfl rfl 5 (by decide) (hG _ q_f_X12_20) (fun _ h9 => h9) rfl dX12_summedBy_43 ?_
          refine lv_iload_n hx hb dX12_summedBy_46 rfl (lv_at hl 0 rfl) ?_
          refine lv_iconst (v := 3) hx hb dX12_summedBy_47 (by decide) ?_
          refine lv_iadd hx hb dX12_summedBy_48 ?_
          refine lv_topi (fun z_16 ez_16 => ?_)
          have iz_16 : z_16.toInt = z_4.toInt + 3 := k_addI ez_16 rfl (by decide) (by omega)
          have ee_17 : q3 = z_16 := Int32.toInt_inj.mp (by omega)
          subst ee_17
          refine va_iald hx hb hE.1 hP 2 0 rfl rfl (k_in (by omega)) dX12_summedBy_49 ?_
          refine k_top (z := (g_clause (Int32.toNatClampNeg q3))) rfl ?_
          refine kwVL (wr := [(a_clause, .inl (cy 0, 288, .inl g_clause)), (a_clauses, .inl (cy 0, 6, .inl g_clauses))]) (As := [.int x0, .int (g_clause (Int32.toNatClampNeg q2)), .int (g_clause (Int32.toNatClampNeg q3))]) (rest := []) F hE hP hD hS hA hl.1 (cm_reckons l D cy (m0 := m0) (x0 := x0) (x1 := (g_clause (Int32.toNatClampNeg q2))) (x2 := (g_clause (Int32.toNatClampNeg q3))) (a_tape := a_tape) (f_taped := f_taped) (f_rules := f_rules) (a_sign := a_sign) (a_length := a_length) (a_clause := a_clause) (a_clauses := a_clauses) (a_read := a_read) (f_next := f_next) (f_wrong := f_wrong) (f_number := f_number) (f_text := f_text) (f_made := f_made) (f_deep := f_deep) (f_lines := f_lines) (a_open := a_open) (f_opened := f_opened) (a_stack := a_stack) (f_top := w18_m0_2) (a_word := a_word) (a_said := a_said) (f_force := f_force) (f_x := f_x) (f_windAlone := f_windAlone) (a_planned := a_planned) (a_cameOf := a_cameOf) (a_wasSaid := a_wasSaid) (f_undone := f_undone) (a_kept := a_kept) (a_rowNow := a_rowNow) (a_rowBest := a_rowBest) (a_hasBy := a_hasBy) (a_isFit := a_isFit) (a_cameThen := a_cameThen) (f_drawX := f_drawX) (a_images := a_images) (a_imageForce := a_imageForce) (a_imageX := a_imageX) (a_isMade := a_isMade) (g_sign := g_sign) (g_stack := ga_stack_2) (g_word := g_word) (p0 := (by first | omega | assumption)) (p1 := (by first | omega | assumption)) (p2 := (by first | omega | assumption)) (p3 := (by first | omega | assumption)) (p4 := (by first | omega | assumption)) (p5 := (by first | omega | assumption))) q_m_X12_326 mv_X12_reckons ⟨(Nat.le_of_ble_eq_true rfl), (Nat.le_of_ble_eq_true rfl)⟩ [0, 1, 4, 5] [2, 3] (by decide) rfl rfl (by decide) (by decide) rfl rfl rfl rfl rfl (Nat.le_of_ble_eq_true rfl) ⟨(Nat.le_of_ble_eq_true rfl), (Nat.le_of_ble_eq_true rfl)⟩ dX12_summedBy_50 (fun r_19 u_18 H locs eu_18 hP hD hS => ?_)
          obtain ⟨f_top_20, g_stack_21⟩ := u_18
          have hP : va_P D vwCl [(a_clause, .inl (cy 0, 288, .inl g_clause)), (a_clauses, .inl (cy 0, 6, .inl g_clauses)), (m0, .inr (12, [.ref a_tape, .int f_taped, .int f_rules, .ref a_sign, .ref a_length, .ref a_clause, .ref a_clauses, .ref a_read, .int f_next, .int f_wrong, .int f_number, .int f_text, .int f_made, .int f_deep, .int f_lines, .ref a_open, .int f_opened, .ref a_stack, .int f_top_20, .ref a_word, .ref a_said, .int f_force, .int f_x, .int f_windAlone, .ref a_planned, .ref a_cameOf, .ref a_wasSaid, .int f_undone, .ref a_kept, .ref a_rowNow, .ref a_rowBest, .ref a_hasBy, .ref a_isFit, .ref a_cameThen, .long f_drawX, .ref a_images, .ref a_imageForce, .ref a_imageX, .ref a_isMade])), (a_sign, .inl (cy 0, 2400, .inl g_sign)), (a_stack, .inl (cy 1, 64, .inr (.inl g_stack_21))), (a_word, .inl (cy 1, 13, .inr (.inl g_word)))] H := hP
          have hD : va_D A [(a_clause, .inl (cy 0, 288, .inl g_clause)), (a_clauses, .inl (cy 0, 6, .inl g_clauses)), (m0, .inr (12, [.ref a_tape, .int f_taped, .int f_rules, .ref a_sign, .ref a_length, .ref a_clause, .ref a_clauses, .ref a_read, .int f_next, .int f_wrong, .int f_number, .int f_text, .int f_made, .int f_deep, .int f_lines, .ref a_open, .int f_opened, .ref a_stack, .int f_top_20, .ref a_word, .ref a_said, .int f_force, .int f_x, .int f_windAlone, .ref a_planned, .ref a_cameOf, .ref a_wasSaid, .int f_undone, .ref a_kept, .ref a_rowNow, .ref a_rowBest, .ref a_hasBy, .ref a_isFit, .ref a_cameThen, .long f_drawX, .ref a_images, .ref a_imageForce, .ref a_imageX, .ref a_isMade])), (a_sign, .inl (cy 0, 2400, .inl g_sign)), (a_stack, .inl (cy 1, 64, .inr (.inl g_stack_21))), (a_word, .inl (cy 1, 13, .inr (.inl g_word)))] := hD
          refine lv_lconst (v := 1) hx hb dX12_summedBy_53 (by decide) ?_
          refine W.lcmp hx hb dX12_summedBy_54 ?_
          refine lv_topi (fun z_22 ez_22 => ?_)
          refine lv_if_ne (tgt := 78) hx hb dX12_summedBy_55 (by decide) (fun c_23 => ?_) (fun c_23 => ?_)
          · have ic_23 : z_22.toInt ≠ 0 := k_ne c_23 rfl (by decide)
            obtain ⟨z_24, ez_24⟩ : ∃ y : Int32, y = v2_2 + Int32.ofInt 1 := ⟨_, rfl⟩
            have iz_24 : z_24.toInt = v2_2.toInt + 1 := k_addI ez_24 rfl (by decide) (by omega)
            refine lv_iinc (v := z_24) (lv' := [(2, .int z_24), (3, .int z_4), (0, .ref m0), (1, .int x0)]) hx hb dX12_summedBy_78 hl (k := 1) rfl ez_24.symm (by decide) rfl (fun ls hl => ?_)
            refine lv_goto (tgt := 2) hx hb dX12_summedBy_81 (by decide) ?_
            have hP := hP.sub (ws' := [(m0, .inr (12, [.ref a_tape, .int f_taped, .int f_rules, .ref a_sign, .ref a_length, .ref a_clause, .ref a_clauses, .ref a_read, .int f_next, .int f_wrong, .int f_number, .int f_text, .int f_made, .int f_deep, .int f_lines, .ref a_open, .int f_opened, .ref a_stack, .int f_top_20, .ref a_word, .ref a_said, .int f_force, .int f_x, .int f_windAlone, .ref a_planned, .ref a_cameOf, .ref a_wasSaid, .int f_undone, .ref a_kept, .ref a_rowNow, .ref a_rowBest, .ref a_hasBy, .ref a_isFit, .ref a_cameThen, .long f_drawX, .ref a_images, .ref a_imageForce, .ref a_imageX, .ref a_isMade])), (a_sign, .inl (cy 0, 2400, .inl g_sign)), (a_clause, .inl (cy 0, 288, .inl g_clause)), (a_clauses, .inl (cy 0, 6, .inl g_clauses)), (a_stack, .inl (cy 1, 64, .inr (.inl g_stack_21))), (a_word, .inl (cy 1, 13, .inr (.inl g_word)))]) [2, 3, 0, 1, 4, 5] rfl
            have hD := hD.sub (ws' := [(m0, .inr (12, [.ref a_tape, .int f_taped, .int f_rules, .ref a_sign, .ref a_length, .ref a_clause, .ref a_clauses, .ref a_read, .int f_next, .int f_wrong, .int f_number, .int f_text, .int f_made, .int f_deep, .int f_lines, .ref a_open, .int f_opened, .ref a_stack, .int f_top_20, .ref a_word, .ref a_said, .int f_force, .int f_x, .int f_windAlone, .ref a_planned, .ref a_cameOf, .ref a_wasSaid, .int f_undone, .ref a_kept, .ref a_rowNow, .ref a_rowBest, .ref a_hasBy, .ref a_isFit, .ref a_cameThen, .long f_drawX, .ref a_images, .ref a_imageForce, .ref a_imageX, .ref a_isMade])), (a_sign, .inl (cy 0, 2400, .inl g_sign)), (a_clause, .inl (cy 0, 288, .inl g_clause)), (a_clauses, .inl (cy 0, 6, .inl g_clauses)), (a_stack, .inl (cy 1, 64, .inr (.inl g_stack_21))), (a_word, .inl (cy 1, 13, .inr (.inl g_word)))]) [2, 3, 0, 1, 4, 5] (by decide) rfl
            exact ih2 z_24 f_top_20 g_stack_21 _ _ ls (by first | omega | assumption) (by first | omega | assumption) (by omega) hP hD hS (lv_sub hl [0, 2, 3] rfl)
          · have ic_23 : z_22.toInt = 0 := k_eq c_23 rfl (by decide)
            refine lv_aload_n hx hb dX12_summedBy_58 rfl (lv_at hl 2 rfl) ?_
            refine lv_iload_n hx hb dX12_summedBy_59 rfl (lv_at hl 3 rfl) ?_
            refine lv_aload_n hx hb dX12_summedBy_60 rfl (lv_at hl 2 rfl) ?_
            refine va_get (D := D) (ci := 12) (v := .ref a_clause) (C := RX12) (T := TX12) (N := 39) hx hb hG inG_X12 hown hE.1 hP 2 rfl rfl 5 (by decide) (hG _ q_f_X12_20) (fun _ h9 => h9) rfl dX12_summedBy_61 ?_
            refine lv_iload_n hx hb dX12_summedBy_64 rfl (lv_at hl 0 rfl) ?_
            refine va_iald hx hb hE.1 hP 0 0 rfl rfl (k_in (by omega)) dX12_summedBy_65 ?_
            refine k_top (z := (g_clause (Int32.toNatClampNeg z_4))) rfl ?_
            refine lv_aload_n hx hb dX12_summedBy_66 rfl (lv_at hl 2 rfl) ?_
            refine va_get (D := D) (ci := 12) (v := .ref a_clause) (C := RX12) (T := TX12) (N := 39) hx hb hG inG_X12 hown hE.1 hP 2 rfl rfl 5 (by decide) (hG _ q_f_X12_20) (fun _ h9 => h9) rfl dX12_summedBy_67 ?_
            refine lv_iload_n hx hb dX12_summedBy_70 rfl (lv_at hl 0 rfl) ?_
            refine lv_iconst (v := 1) hx hb dX12_summedBy_71 (by decide) ?_
            refine lv_iadd hx hb dX12_summedBy_72 ?_
            refine lv_topi (fun z_25 ez_25 => ?_)
            have iz_25 : z_25.toInt = z_4.toInt + 1 := k_addI ez_25 rfl (by decide) (by omega)
            have ee_26 : q1 = z_25 := Int32.toInt_inj.mp (by omega)
            subst ee_26
            refine va_iald hx hb hE.1 hP 0 0 rfl rfl (k_in (by omega)) dX12_summedBy_73 ?_
            refine k_top (z := (g_clause (Int32.toNatClampNeg q1))) rfl ?_
            refine kwVL (wr := [(a_clause, .inl (cy 0, 288, .inl g_clause)), (a_clauses, .inl (cy 0, 6, .inl g_clauses))]) (As := [.int x0, .int (g_clause (Int32.toNatClampNeg z_4)), .int (g_clause (Int32.toNatClampNeg q1))]) (rest := []) F hE hP hD hS hA hl.1 (cm_reckons l D cy (m0 := m0) (x0 := x0) (x1 := (g_clause (Int32.toNatClampNeg z_4))) (x2 := (g_clause (Int32.toNatClampNeg q1))) (a_tape := a_tape) (f_taped := f_taped) (f_rules := f_rules) (a_sign := a_sign) (a_length := a_length) (a_clause := a_clause) (a_clauses := a_clauses) (a_read := a_read) (f_next := f_next) (f_wrong := f_wrong) (f_number := f_number) (f_text := f_text) (f_made := f_made) (f_deep := f_deep) (f_lines := f_lines) (a_open := a_open) (f_opened := f_opened) (a_stack := a_stack) (f_top := f_top_20) (a_word := a_word) (a_said := a_said) (f_force := f_force) (f_x := f_x) (f_windAlone := f_windAlone) (a_planned := a_planned) (a_cameOf := a_cameOf) (a_wasSaid := a_wasSaid) (f_undone := f_undone) (a_kept := a_kept) (a_rowNow := a_rowNow) (a_rowBest := a_rowBest) (a_hasBy := a_hasBy) (a_isFit := a_isFit) (a_cameThen := a_cameThen) (f_drawX := f_drawX) (a_images := a_images) (a_imageForce := a_imageForce) (a_imageX := a_imageX) (a_isMade := a_isMade) (g_sign := g_sign) (g_stack := g_stack_21) (g_word := g_word) (p0 := (by first | omega | assumption)) (p1 := (by first | omega | assumption)) (p2 := (by first | omega | assumption)) (p3 := (by first | omega | assumption)) (p4 := (by first | omega | assumption)) (p5 := (by first | omega | assumption))) q_m_X12_326 mv_X12_reckons ⟨(Nat.le_of_ble_eq_true rfl), (Nat.le_of_ble_eq_true rfl)⟩ [2, 3, 4, 5] [0, 1] (by decide) rfl rfl (by decide) (by decide) rfl rfl rfl rfl rfl (Nat.le_of_ble_eq_true rfl) ⟨(Nat.le_of_ble_eq_true rfl), (Nat.le_of_ble_eq_true rfl)⟩ dX12_summedBy_74 (fun r_28 u_27 H locs eu_27 hP hD hS => ?_)
            obtain ⟨f_top_29, g_stack_30⟩ := u_27
            have hP : va_P D vwCl [(a_clause, .inl (cy 0, 288, .inl g_clause)), (a_clauses, .inl (cy 0, 6, .inl g_clauses)), (m0, .inr (12, [.ref a_tape, .int f_taped, .int f_rules, .ref a_sign, .ref a_length, .ref a_clause, .ref a_clauses, .ref a_read, .int f_next, .int f_wrong, .int f_number, .int f_text, .int f_made, .int f_deep, .int f_lines, .ref a_open, .int f_opened, .ref a_stack, .int f_top_29, .ref a_word, .ref a_said, .int f_force, .int f_x, .int f_windAlone, .ref a_planned, .ref a_cameOf, .ref a_wasSaid, .int f_undone, .ref a_kept, .ref a_rowNow, .ref a_rowBest, .ref a_hasBy, .ref a_isFit, .ref a_cameThen, .long f_drawX, .ref a_images, .ref a_imageForce, .ref a_imageX, .ref a_isMade])), (a_sign, .inl (cy 0, 2400, .inl g_sign)), (a_stack, .inl (cy 1, 64, .inr (.inl g_stack_30))), (a_word, .inl (cy 1, 13, .inr (.inl g_word)))] H := hP
            have hD : va_D A [(a_clause, .inl (cy 0, 288, .inl g_clause)), (a_clauses, .inl (cy 0, 6, .inl g_clauses)), (m0, .inr (12, [.ref a_tape, .int f_taped, .int f_rules, .ref a_sign, .ref a_length, .ref a_clause, .ref a_clauses, .ref a_read, .int f_next, .int f_wrong, .int f_number, .int f_text, .int f_made, .int f_deep, .int f_lines, .ref a_open, .int f_opened, .ref a_stack, .int f_top_29, .ref a_word, .ref a_said, .int f_force, .int f_x, .int f_windAlone, .ref a_planned, .ref a_cameOf, .ref a_wasSaid, .int f_undone, .ref a_kept, .ref a_rowNow, .ref a_rowBest, .ref a_hasBy, .ref a_isFit, .ref a_cameThen, .long f_drawX, .ref a_images, .ref a_imageForce, .ref a_imageX, .ref a_isMade])), (a_sign, .inl (cy 0, 2400, .inl g_sign)), (a_stack, .inl (cy 1, 64, .inr (.inl g_stack_30))), (a_word, .inl (cy 1, 13, .inr (.inl g_word)))] := hD
            exact KL.rt ⟨f_top_29, g_stack_30⟩ F (hP.sub [2, 3, 0, 1, 4, 5] rfl) (hD.sub [2, 3, 0, 1, 4, 5] (by decide) rfl) hS trivial (Nat.le_of_ble_eq_true rfl) (Nat.le_of_ble_eq_true rfl) dX12_summedBy_77
  have lt_31 : (0 : Int32).toInt = 0 := by decide
  exact lp2 100000 0 f_top g_stack _ _ ls (by first | omega | assumption) (by first | omega | assumption) (by omega) hP hD hS hl
