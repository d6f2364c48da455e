set_option maxHeartbeats 4000000 in
set_option maxRecDepth 100000 in
theorem cm_downOf (l : Launch) (D : va_G) (cy : Nat → ClassId) (m0 : Nat) (a_tape : Nat) (a_sign : Nat) (a_length : Nat) (a_clause : Nat) (a_clauses : Nat) (a_read : Nat) (a_open : Nat) (a_stack : Nat) (a_word : Nat) (a_said : Nat) (a_planned : Nat) (a_cameOf : Nat) (a_wasSaid : Nat) (a_kept : Nat) (a_rowNow : Nat) (a_rowBest : Nat) (a_hasBy : Nat) (a_isFit : Nat) (a_cameThen : Nat) (a_images : Nat) (a_imageForce : Nat) (a_imageX : Nat) (a_isMade : Nat) (f_taped : Int32) (f_rules : Int32) (f_next : Int32) (f_wrong : Int32) (f_number : Int32) (f_text : Int32) (f_made : Int32) (f_deep : Int32) (f_lines : Int32) (f_opened : Int32) (f_top : Int32) (f_force : Int32) (f_x : Int32) (f_windAlone : Int32) (f_undone : Int32) (f_drawX : Int64) (g_said : Nat → Int32) (x0 : Int32) (x1 : Int32) (h_g_said : SV g_said) (p0 : 0 ≤ x0.toInt) (p1 : x0.toInt < (g_said 5).toInt) (p2 : 0 ≤ x1.toInt) (p3 : x1.toInt ≤ 5) : KP l yX12_downOf cX12_downOf 4 (some .int) 3 62 D (kTY cy) [.ref m0, .int x0, .int x1] [(m0, .inr (12, [.ref a_tape, .int f_taped, .int f_rules, .ref a_sign, .ref a_length, .ref a_clause, .ref a_clauses, .ref a_read, .int f_next, .int f_wrong, .int f_number, .int f_text, .int f_made, .int f_deep, .int f_lines, .ref a_open, .int f_opened, .ref a_stack, .int f_top, .ref a_word, .ref a_said, .int f_force, .int f_x, .int f_windAlone, .ref a_planned, .ref a_cameOf, .ref a_wasSaid, .int f_undone, .ref a_kept, .ref a_rowNow, .ref a_rowBest, .ref a_hasBy, .ref a_isFit, .ref a_cameThen, .long f_drawX, .ref a_images, .ref a_imageForce, .ref a_imageX, .ref a_isMade])), (a_said, .inl (cy 0, 115, .inl g_said))] (fun r => True) := by
  refine KP.of (by decide) (Nat.le_of_ble_eq_true rfl) (fun p e s m below meth c ls F hE hP hl => ?_)
  have F : kF p s m meth c cX12_downOf 4 (some .int) _ RX12 := F
  obtain ⟨hx, hb, hr, hml, hown, hG, hlk⟩ := id F
  have hl : lv_has ls 4 [(0, .ref m0), (1, .int x0), (2, .int x1)] := hl
  have hr0_g_said : PR g_said g_said := PR.refl h_g_said
  obtain ⟨⟨b_1a, b_1b⟩, ⟨b_1c, b_1d⟩, ⟨b_1e, b_1f⟩, ⟨b_1g, b_1h⟩⟩ := SV.bounds (PR.sv hr0_g_said)
  refine lv_aload_n hx hb dX12_downOf_0 rfl (lv_at hl 0 rfl) ?_
  refine va_get (D := D) (ci := 12) (v := .ref a_said) (C := RX12) (T := TX12) (N := 39) hx hb hG inG_X12 hown hE.1 hP 0 rfl rfl 20 (by decide) (hG _ q_f_X12_39) (fun _ h9 => h9) rfl dX12_downOf_1 ?_
  refine lv_bipush (v := 13) hx hb dX12_downOf_4 (by decide) ?_
  refine lv_iload_n hx hb dX12_downOf_6 rfl (lv_at hl 2 rfl) ?_
  refine lv_iadd hx hb dX12_downOf_7 ?_
  refine lv_topi (fun z_2 ez_2 => ?_)
  have iz_2 : z_2.toInt = 13 + x1.toInt := k_addI ez_2 (by decide) rfl (by omega)
  refine va_iald hx hb hE.1 hP 1 0 rfl rfl (k_in (by omega)) dX12_downOf_8 ?_
  refine k_top (z := (g_said (Int32.toNatClampNeg z_2))) rfl ?_
  refine lv_aload_n hx hb dX12_downOf_9 rfl (lv_at hl 0 rfl) ?_
  refine lv_iload_n hx hb dX12_downOf_10 rfl (lv_at hl 1 rfl) ?_
  refine kcV (As := [.int x0]) (rest := [.int (g_said (Int32.toNatClampNeg z_2))]) F hE hP hl.1 (cm_driftOf l D cy (m0 := m0) (x0 := x0) (a_tape := a_tape) (f_taped := f_taped) (f_rules := f_rules) (a_sign := a_sign) (a_length := a_length) (a_clause := a_clause) (a_clauses := a_clauses) (a_read := a_read) (f_next := f_next) (f_wrong := f_wrong) (f_number := f_number) (f_text := f_text) (f_made := f_made) (f_deep := f_deep) (f_lines := f_lines) (a_open := a_open) (f_opened := f_opened) (a_stack := a_stack) (f_top := f_top) (a_word := a_word) (a_said := a_said) (f_force := f_force) (f_x := f_x) (f_windAlone := f_windAlone) (a_planned := a_planned) (a_cameOf := a_cameOf) (a_wasSaid := a_wasSaid) (f_undone := f_undone) (a_kept := a_kept) (a_rowNow := a_rowNow) (a_rowBest := a_rowBest) (a_hasBy := a_hasBy) (a_isFit := a_isFit) (a_cameThen := a_cameThen) (f_drawX := f_drawX) (a_images := a_images) (a_imageForce := a_imageForce) (a_imageX := a_imageX) (a_isMade := a_isMade) (g_said := g_said) (h_g_said := (PR.sv hr0_g_said)) (p0 := (by first | omega | assumption)) (p1 := (by first | omega | assumption))) q_m_X12_330 mv_X12_driftOf ⟨(Nat.le_of_ble_eq_true rfl), (Nat.le_of_ble_eq_true rfl)⟩ [0, 1] rfl rfl rfl rfl rfl rfl (Nat.le_of_ble_eq_true rfl) ⟨(Nat.le_of_ble_eq_true rfl), (Nat.le_of_ble_eq_true rfl)⟩ dX12_downOf_11 (fun r_3 er_3 => ?_)
  refine lv_iadd hx hb dX12_downOf_14 ?_
  refine lv_topi (fun z_4 ez_4 => ?_)
  refine lv_istore_n (lv' := [(3, .int z_4), (0, .ref m0), (1, .int x0), (2, .int x1)]) hx hb dX12_downOf_15 rfl hl (by decide) rfl (fun ls hl => ?_)
  refine lv_iload_n hx hb dX12_downOf_16 rfl (lv_at hl 0 rfl) ?_
  refine lv_i2l hx hb dX12_downOf_17 rfl ?_
  refine lv_lconst (v := 0) hx hb dX12_downOf_18 (by decide) ?_
  refine lv_aload_n hx hb dX12_downOf_19 rfl (lv_at hl 1 rfl) ?_
  refine va_get (D := D) (ci := 12) (v := .ref a_said) (C := RX12) (T := TX12) (N := 39) hx hb hG inG_X12 hown hE.1 hP 0 rfl rfl 20 (by decide) (hG _ q_f_X12_39) (fun _ h9 => h9) rfl dX12_downOf_20 ?_
  refine lv_iconst (v := 1) hx hb dX12_downOf_23 (by decide) ?_
  refine va_iald hx hb hE.1 hP 1 0 rfl rfl (by unfold vp_in; decide) dX12_downOf_24 ?_
  refine k_top (z := (g_said 1)) rfl ?_
  refine lv_iconst (v := 1) hx hb dX12_downOf_25 (by decide) ?_
  refine lv_isub hx hb dX12_downOf_26 ?_
  refine lv_topi (fun z_5 ez_5 => ?_)
  refine lv_i2l hx hb dX12_downOf_27 rfl ?_
  have lw_5 : ((z_4).toInt64).toInt = (z_4).toInt := Int32.toInt_toInt64 _
  have lt64_6 : (0 : Int64).toInt = 0 := by decide
  have lw_7 : ((z_5).toInt64).toInt = (z_5).toInt := Int32.toInt_toInt64 _
  refine kcS (As := [.long ((z_4).toInt64), .long 0, .long ((z_5).toInt64)]) (rest := []) F hE hP hl.1 (cm_in l D cy (x0 := ((z_4).toInt64)) (x1 := 0) (x2 := ((z_5).toInt64))) q_m_X12_127 ms_X12_in ⟨(Nat.le_of_ble_eq_true rfl), (Nat.le_of_ble_eq_true rfl)⟩ [] rfl rfl rfl (Nat.le_of_ble_eq_true rfl) ⟨(Nat.le_of_ble_eq_true rfl), (Nat.le_of_ble_eq_true rfl)⟩ dX12_downOf_28 (fun r_9 er_9 => ?_)
  have er_9 : (r_9.toInt = 0 ∨ r_9.toInt = 1) ∧ ((r_9.toInt ≠ 0 → (0 : Int64).toInt ≤ ((z_4).toInt64).toInt ∧ ((z_4).toInt64).toInt ≤ ((z_5).toInt64).toInt)) ∧ ((r_9.toInt = 0 → ((z_4).toInt64).toInt < (0 : Int64).toInt ∨ ((z_5).toInt64).toInt < ((z_4).toInt64).toInt)) := er_9
  obtain ⟨er_9a, er_9b, er_9c⟩ := er_9
  refine lv_if_eq (tgt := 38) hx hb dX12_downOf_31 (by decide) (fun c_10 => ?_) (fun c_10 => ?_)
  · have ic_10 : r_9.toInt = 0 := k_eq c_10 rfl (by decide)
    have fc_10 := er_9c ic_10
    clear er_9b er_9c er_9a
    refine lv_iconst (v := (-1)) hx hb dX12_downOf_38 (by decide) ?_
    have lit0 : ((-1) : Int32).toInt = (-1) := by decide
    exact KP.rt F rfl trivial dX12_downOf_39
  · have ic_10 : r_9.toInt ≠ 0 := k_ne c_10 rfl (by decide)
    have fc_10 := er_9b ic_10
    clear er_9b er_9c er_9a
    obtain ⟨fc_10a, fc_10b⟩ := fc_10
    refine lv_iload_n hx hb dX12_downOf_34 rfl (lv_at hl 0 rfl) ?_
    refine lv_goto (tgt := 39) hx hb dX12_downOf_35 (by decide) ?_
    exact KP.rt F rfl trivial dX12_downOf_39

set_option maxHeartbeats 4000000 in
set_option maxRecDepth 100000 in
theorem cm_eases1 (l : Launch) (D : va_G) (cy : Nat → ClassId) (m0 : Nat) (a_tape : Nat) (a_sign : Nat) (a_length : Nat) (a_clause : Nat) (a_clauses : Nat) (a_read : Nat) (a_open : Nat) (a_stack : Nat) (a_word : Nat) (a_said : Nat) (a_planned : Nat) (a_cameOf : Nat) (a_wasSaid : Nat) (a_kept : Nat) (a_rowNow : Nat) (a_rowBest : Nat) (a_hasBy : Nat) (a_isFit : Nat) (a_cameThen : Nat) (a_images : Nat) (a_imageForce : Nat) (a_imageX : Nat) (a_isMade : Nat) (f_taped : Int32) (f_rules : Int32) (f_next : Int32) (f_wrong : Int32) (f_number : Int32) (f_text : Int32) (f_made : Int32) (f_deep : Int32) (f_lines : Int32) (f_opened : Int32) (f_top : Int32) (f_force : Int32) (f_x : Int32) (f_windAlone : Int32) (f_undone : Int32) (f_drawX : Int64) (g_said : Nat → Int32) (x0 : Int32) (h_g_said : SV g_said) (p0 : 0 ≤ x0.toInt) (p1 : x0.toInt < (g_said 5).toInt) : KV l yX12_eases1 cX12_eases1 3 1 21 D (kTY cy) [.ref m0, .int x0] [(m0, .inr (12, [.ref a_tape, .int f_taped, .int f_rules, .ref a_sign, .ref a_length, .ref a_clause, .ref a_clauses, .ref a_read, .int f_next, .int f_wrong, .int f_number, .int f_text, .int f_made, .int f_deep, .int f_lines, .ref a_open, .int f_opened, .ref a_stack, .int f_top, .ref a_word, .ref a_said, .int f_force, .int f_x, .int f_windAlone, .ref a_planned, .ref a_cameOf, .ref a_wasSaid, .int f_undone, .ref a_kept, .ref a_rowNow, .ref a_rowBest, .ref a_hasBy, .ref a_isFit, .ref a_cameThen, .long f_drawX, .ref a_images, .ref a_imageForce, .ref a_imageX, .ref a_isMade])), (a_said, .inl (cy 0, 115, .inl g_said))] (S := (Nat → Int32)) (fun u => PR g_said u) (fun u => [(m0, .inr (12, [.ref a_tape, .int f_taped, .int f_rules, .ref a_sign, .ref a_length, .ref a_clause, .ref a_clauses, .ref a_read, .int f_next, .int f_wrong, .int f_number, .int f_text, .int f_made, .int f_deep, .int f_lines, .ref a_open, .int f_opened, .ref a_stack, .int f_top, .ref a_word, .ref a_said, .int f_force, .int f_x, .int f_windAlone, .ref a_planned, .ref a_cameOf, .ref a_wasSaid, .int f_undone, .ref a_kept, .ref a_rowNow, .ref a_rowBest, .ref a_hasBy, .ref a_isFit, .ref a_cameThen, .long f_drawX, .ref a_images, .ref a_imageForce, .ref a_imageX, .ref a_isMade])), (a_said, .inl (cy 0, 115, .inl u))]) 0 0 := by
  refine KV.of (by decide) (Nat.le_of_ble_eq_true rfl) (fun p e s m below meth c ls A F hin hE hP hD hA hS hl => ?_)
  have F : kF p s m meth c cX12_eases1 3 none _ RX12 := F
  obtain ⟨hx, hb, hr, hml, hown, hG, hlk⟩ := id F
  have hl : lv_has ls 3 [(0, .ref m0), (1, .int x0)] := hl
  have hr0_g_said : PR g_said g_said := PR.refl h_g_said
  obtain ⟨⟨b_1a, b_1b⟩, ⟨b_1c, b_1d⟩, ⟨b_1e, b_1f⟩, ⟨b_1g, b_1h⟩⟩ := SV.bounds (PR.sv hr0_g_said)
  refine lv_aload_n hx hb dX12_eases1_0 rfl (lv_at hl 0 rfl) ?_
  refine lv_iload_n hx hb dX12_eases1_1 rfl (lv_at hl 1 rfl) ?_
  refine kcV (As := [.int x0]) (rest := []) F hE hP hl.1 (cm_illOf l D cy (m0 := m0) (x0 := x0) (a_tape := a_tape) (f_taped := f_taped) (f_rules := f_rules) (a_sign := a_sign) (a_length := a_length) (a_clause := a_clause) (a_clauses := a_clauses) (a_read := a_read) (f_next := f_next) (f_wrong := f_wrong) (f_number := f_number) (f_text := f_text) (f_made := f_made) (f_deep := f_deep) (f_lines := f_lines) (a_open := a_open) (f_opened := f_opened) (a_stack := a_stack) (f_top := f_top) (a_word := a_word) (a_said := a_said) (f_force := f_force) (f_x := f_x) (f_windAlone := f_windAlone) (a_planned := a_planned) (a_cameOf := a_cameOf) (a_wasSaid := a_wasSaid) (f_undone := f_undone) (a_kept := a_kept) (a_rowNow := a_rowNow) (a_rowBest := a_rowBest) (a_hasBy := a_hasBy) (a_isFit := a_isFit) (a_cameThen := a_cameThen) (f_drawX := f_drawX) (a_images := a_images) (a_imageForce := a_imageForce) (a_imageX := a_imageX) (a_isMade := a_isMade) (g_said := g_said) (h_g_said := (PR.sv hr0_g_said)) (p0 := (by first | omega | assumption)) (p1 := (by first | omega | assumption))) q_m_X12_317 mv_X12_illOf ⟨(Nat.le_of_ble_eq_true rfl), (Nat.le_of_ble_eq_true rfl)⟩ [0, 1] rfl rfl rfl rfl rfl rfl (Nat.le_of_ble_eq_true rfl) ⟨(Nat.le_of_ble_eq_true rfl), (Nat.le_of_ble_eq_true rfl)⟩ dX12_eases1_2 (fun r_2 er_2 => ?_)
  refine lv_aload_n hx hb dX12_eases1_5 rfl (lv_at hl 0 rfl) ?_
  refine va_get (D := D) (ci := 12) (v := .ref a_said) (C := RX12) (T := TX12) (N := 39) hx hb hG inG_X12 hown hE.1 hP 0 rfl rfl 20 (by decide) (hG _ q_f_X12_39) (fun _ h9 => h9) rfl dX12_eases1_6 ?_
  refine lv_bipush (v := 40) hx hb dX12_eases1_9 (by decide) ?_
  refine lv_aload_n hx hb dX12_eases1_11 rfl (lv_at hl 0 rfl) ?_
  refine va_get (D := D) (ci := 12) (v := .ref a_said) (C := RX12) (T := TX12) (N := 39) hx hb hG inG_X12 hown hE.1 hP 0 rfl rfl 20 (by decide) (hG _ q_f_X12_39) (fun _ h9 => h9) rfl dX12_eases1_12 ?_
  refine lv_bipush (v := 46) hx hb dX12_eases1_15 (by decide) ?_
  refine lv_iload_n hx hb dX12_eases1_17 rfl (lv_at hl 1 rfl) ?_
  refine lv_iadd hx hb dX12_eases1_18 ?_
  refine lv_topi (fun z_3 ez_3 => ?_)
  have iz_3 : z_3.toInt = 46 + x0.toInt := k_addI ez_3 (by decide) rfl (by omega)
  refine va_iald hx hb hE.1 hP 1 0 rfl rfl (k_in (by omega)) dX12_eases1_19 ?_
  refine k_top (z := (g_said (Int32.toNatClampNeg z_3))) rfl ?_
  have ow_4 := SV.own (PR.sv hr0_g_said) z_3 (by omega)
  refine lv_iadd hx hb dX12_eases1_20 ?_
  refine lv_topi (fun z_5 ez_5 => ?_)
  have iz_5 : z_5.toInt = 40 + (g_said (Int32.toNatClampNeg z_3)).toInt := k_addI ez_5 (by decide) rfl (by omega)
  refine va_iald hx hb hE.1 hP 1 0 rfl rfl (k_in (by omega)) dX12_eases1_21 ?_
  refine k_top (z := (g_said (Int32.toNatClampNeg z_5))) rfl ?_
  refine lv_isub hx hb dX12_eases1_22 ?_
  refine lv_topi (fun z_6 ez_6 => ?_)
  refine lv_istore_n (lv' := [(2, .int z_6), (0, .ref m0), (1, .int x0)]) hx hb dX12_eases1_23 rfl hl (by decide) rfl (fun ls hl => ?_)
  refine lv_aload_n hx hb dX12_eases1_24 rfl (lv_at hl 1 rfl) ?_
  refine va_get (D := D) (ci := 12) (v := .ref a_said) (C := RX12) (T := TX12) (N := 39) hx hb hG inG_X12 hown hE.1 hP 0 rfl rfl 20 (by decide) (hG _ q_f_X12_39) (fun _ h9 => h9) rfl dX12_eases1_25 ?_
  refine lv_bipush (v := 25) hx hb dX12_eases1_28 (by decide) ?_
  refine lv_iconst (v := 3) hx hb dX12_eases1_30 (by decide) ?_
  refine lv_iload_n hx hb dX12_eases1_31 rfl (lv_at hl 2 rfl) ?_
  refine lv_imul hx hb dX12_eases1_32 ?_
  refine lv_topi (fun z_7 ez_7 => ?_)
  have iz_7 : z_7.toInt = 3 * x0.toInt := k_mulI ez_7 (by decide) rfl (by omega)
  refine lv_iadd hx hb dX12_eases1_33 ?_
  refine lv_topi (fun z_8 ez_8 => ?_)
  have iz_8 : z_8.toInt = 25 + z_7.toInt := k_addI ez_8 (by decide) rfl (by omega)
  refine lv_iconst (v := 1) hx hb dX12_eases1_34 (by decide) ?_
  refine lv_iadd hx hb dX12_eases1_35 ?_
  refine lv_topi (fun z_9 ez_9 => ?_)
  have iz_9 : z_9.toInt = z_8.toInt + 1 := k_addI ez_9 rfl (by decide) (by omega)
  refine lv_iload_n hx hb dX12_eases1_36 rfl (lv_at hl 0 rfl) ?_
  refine lv_if_ge (tgt := 44) hx hb dX12_eases1_37 (by decide) (fun c_10 => ?_) (fun c_10 => ?_)
  · have ic_10 : 0 ≤ z_6.toInt := k_le c_10 (by decide) rfl
    refine lv_iload_n hx hb dX12_eases1_44 rfl (lv_at hl 0 rfl) ?_
    refine va_iast hx hb hE.1 hP hD hS 1 0 rfl rfl (k_in (by omega)) dX12_eases1_45 (fun H locs hP hD hS => ?_)
    have hr_12 : PR g_said (upd g_said (Int32.toNatClampNeg z_9) z_6) := hr0_g_said.put z_9 z_6 (by omega) (by omega)
    generalize upd g_said (Int32.toNatClampNeg z_9) z_6 = fn_11 at hP hD hr_12
    have hP : va_P D vwCl [(m0, .inr (12, [.ref a_tape, .int f_taped, .int f_rules, .ref a_sign, .ref a_length, .ref a_clause, .ref a_clauses, .ref a_read, .int f_next, .int f_wrong, .int f_number, .int f_text, .int f_made, .int f_deep, .int f_lines, .ref a_open, .int f_opened, .ref a_stack, .int f_top, .ref a_word, .ref a_said, .int f_force, .int f_x, .int f_windAlone, .ref a_planned, .ref a_cameOf, .ref a_wasSaid, .int f_undone, .ref a_kept, .ref a_rowNow, .ref a_rowBest, .ref a_hasBy, .ref a_isFit, .ref a_cameThen, .long f_drawX, .ref a_images, .ref a_imageForce, .ref a_imageX, .ref a_isMade])), (a_said, .inl (cy 0, 115, .inl fn_11))] H := hP
    have hD : va_D A [(m0, .inr (12, [.ref a_tape, .int f_taped, .int f_rules, .ref a_sign, .ref a_length, .ref a_clause, .ref a_clauses, .ref a_read, .int f_next, .int f_wrong, .int f_number, .int f_text, .int f_made, .int f_deep, .int f_lines, .ref a_open, .int f_opened, .ref a_stack, .int f_top, .ref a_word, .ref a_said, .int f_force, .int f_x, .int f_windAlone, .ref a_planned, .ref a_cameOf, .ref a_wasSaid, .int f_undone, .ref a_kept, .ref a_rowNow, .ref a_rowBest, .ref a_hasBy, .ref a_isFit, .ref a_cameThen, .long f_drawX, .ref a_images, .ref a_imageForce, .ref a_imageX, .ref a_isMade])), (a_said, .inl (cy 0, 115, .inl fn_11))] := hD
    obtain ⟨⟨b_13a, b_13b⟩, ⟨b_13c, b_13d⟩, ⟨b_13e, b_13f⟩, ⟨b_13g, b_13h⟩⟩ := SV.bounds (PR.sv hr_12)
    have b_135 := PR.e5 hr_12
    have b_134 := PR.e4 hr_12
    have b_13114 := PR.e114 hr_12
    exact KV.rt fn_11 F (hP.sub [0, 1] rfl) (hD.sub [0, 1] (by decide) rfl) hS (show PR g_said fn_11 from hr_12) (Nat.le_of_ble_eq_true rfl) (Nat.le_of_ble_eq_true rfl) dX12_eases1_46
  · have ic_10 : z_6.toInt < 0 := k_nle c_10 (by decide) rfl
    refine lv_iconst (v := 0) hx hb dX12_eases1_40 (by decide) ?_
    refine lv_goto (tgt := 45) hx hb dX12_eases1_41 (by decide) ?_
    refine va_iast hx hb hE.1 hP hD hS 1 0 rfl rfl (k_in (by omega)) dX12_eases1_45 (fun H locs hP hD hS => ?_)
    have hr_15 : PR g_said (upd g_said (Int32.toNatClampNeg z_9) 0) := hr0_g_said.put z_9 (0 : Int32) (by omega) (by omega)
    generalize upd g_said (Int32.toNatClampNeg z_9) 0 = fn_14 at hP hD hr_15
    have hP : va_P D vwCl [(m0, .inr (12, [.ref a_tape, .int f_taped, .int f_rules, .ref a_sign, .ref a_length, .ref a_clause, .ref a_clauses, .ref a_read, .int f_next, .int f_wrong, .int f_number, .int f_text, .int f_made, .int f_deep, .int f_lines, .ref a_open, .int f_opened, .ref a_stack, .int f_top, .ref a_word, .ref a_said, .int f_force, .int f_x, .int f_windAlone, .ref a_planned, .ref a_cameOf, .ref a_wasSaid, .int f_undone, .ref a_kept, .ref a_rowNow, .ref a_rowBest, .ref a_hasBy, .ref a_isFit, .ref a_cameThen, .long f_drawX, .ref a_images, .ref a_imageForce, .ref a_imageX, .ref a_isMade])), (a_said, .inl (cy 0, 115, .inl fn_14))] H := hP
    have hD : va_D A [(m0, .inr (12, [.ref a_tape, .int f_taped, .int f_rules, .ref a_sign, .ref a_length, .ref a_clause, .ref a_clauses, .ref a_read, .int f_next, .int f_wrong, .int f_number, .int f_text, .int f_made, .int f_deep, .int f_lines, .ref a_open, .int f_opened, .ref a_stack, .int f_top, .ref a_word, .ref a_said, .int f_force, .int f_x, .int f_windAlone, .ref a_planned, .ref a_cameOf, .ref a_wasSaid, .int f_undone, .ref a_kept, .ref a_rowNow, .ref a_rowBest, .ref a_hasBy, .ref a_isFit, .ref a_cameThen, .long f_drawX, .ref a_images, .ref a_imageForce, .ref a_imageX, .ref a_isMade])), (a_said, .inl (cy 0, 115, .inl fn_14))] := hD
    obtain ⟨⟨b_16a, b_16b⟩, ⟨b_16c, b_16d⟩, ⟨b_16e, b_16f⟩, ⟨b_16g, b_16h⟩⟩ := SV.bounds (PR.sv hr_15)
    have b_165 := PR.e5 hr_15
    have b_164 := PR.e4 hr_15
    have b_16114 := PR.e114 hr_15
    exact KV.rt fn_14 F (hP.sub [0, 1] rfl) (hD.sub [0, 1] (by decide) rfl) hS (show PR g_said fn_14 from hr_15) (Nat.le_of_ble_eq_true rfl) (Nat.le_of_ble_eq_true rfl) dX12_eases1_46

set_option maxHeartbeats 4000000 in
set_option maxRecDepth 100000 in
theorem cm_shoots (l : Launch) (D : va_G) (cy : Nat → ClassId) (m0 : Nat) (a_tape : Nat) (a_sign : Nat) (a_length : Nat) (a_clause : Nat) (a_clauses : Nat) (a_read : Nat) (a_open : Nat) (a_stack : Nat) (a_word : Nat) (a_said : Nat) (a_planned : Nat) (a_cameOf : Nat) (a_wasSaid : Nat) (a_kept : Nat) (a_rowNow : Nat) (a_rowBest : Nat) (a_hasBy : Nat) (a_isFit : Nat) (a_cameThen : Nat) (a_images : Nat) (a_imageForce : Nat) (a_imageX : Nat) (a_isMade : Nat) (f_taped : Int32) (f_rules : Int32) (f_next : Int32) (f_wrong : Int32) (f_number : Int32) (f_text : Int32) (f_made : Int32) (f_deep : Int32) (f_lines : Int32) (f_opened : Int32) (f_top : Int32) (f_force : Int32) (f_x : Int32) (f_windAlone : Int32) (f_undone : Int32) (f_drawX : Int64) (g_said : Nat → Int32) (x0 : Int32) (x1 : Int32) (h_g_said : SV g_said) (p0 : 0 ≤ x0.toInt) (p1 : x0.toInt < (g_said 5).toInt) (p2 : 0 ≤ x1.toInt) (p3 : x1.toInt ≤ 5) : KI l yX12_shoots cX12_shoots 5 (some .int) 4 85 D (kTY cy) [.ref m0, .int x0, .int x1] [(m0, .inr (12, [.ref a_tape, .int f_taped, .int f_rules, .ref a_sign, .ref a_length, .ref a_clause, .ref a_clauses, .ref a_read, .int f_next, .int f_wrong, .int f_number, .int f_text, .int f_made, .int f_deep, .int f_lines, .ref a_open, .int f_opened, .ref a_stack, .int f_top, .ref a_word, .ref a_said, .int f_force, .int f_x, .int f_windAlone, .ref a_planned, .ref a_cameOf, .ref a_wasSaid, .int f_undone, .ref a_kept, .ref a_rowNow, .ref a_rowBest, .ref a_hasBy, .ref a_isFit, .ref a_cameThen, .long f_drawX, .ref a_images, .ref a_imageForce, .ref a_imageX, .ref a_isMade])), (a_said, .inl (cy 0, 115, .inl g_said))] (S := (Nat → Int32)) (fun r u => PR g_said u) (fun u => [(m0, .inr (12, [.ref a_tape, .int f_taped, .int f_rules, .ref a_sign, .ref a_length, .ref a_clause, .ref a_clauses, .ref a_read, .int f_next, .int f_wrong, .int f_number, .int f_text, .int f_made, .int f_deep, .int f_lines, .ref a_open, .int f_opened, .ref a_stack, .int f_top, .ref a_word, .ref a_said, .int f_force, .int f_x, .int f_windAlone, .ref a_planned, .ref a_cameOf, .ref a_wasSaid, .int f_undone, .ref a_kept, .ref a_rowNow, .ref a_rowBest, .ref a_hasBy, .ref a_isFit, .ref a_cameThen, .long f_drawX, .ref a_images, .ref a_imageForce, .ref a_imageX, .ref a_isMade])), (a_said, .inl (cy 0, 115, .inl u))]) 0 0 := by
  refine KI.of (by decide) (Nat.le_of_ble_eq_true rfl) (fun p e s m below meth c ls A F hE hP hD hA hS hl => ?_)
  have F : kF p s m meth c cX12_shoots 5 (some .int) _ RX12 := F
  obtain ⟨hx, hb, hr, hml, hown, hG, hlk⟩ := id F
  have hl : lv_has ls 5 [(0, .ref m0), (1, .int x0), (2, .int x1)] := hl
  have hr0_g_said : PR g_said g_said := PR.refl h_g_said
  obtain ⟨⟨b_1a, b_1b⟩, ⟨b_1c, b_1d⟩, ⟨b_1e, b_1f⟩, ⟨b_1g, b_1h⟩⟩ := SV.bounds (PR.sv hr0_g_said)
  refine lv_aload_n hx hb dX12_shoots_0 rfl (lv_at hl 0 rfl) ?_
  refine lv_iload_n hx hb dX12_shoots_1 rfl (lv_at hl 1 rfl) ?_
  refine lv_iload_n hx hb dX12_shoots_2 rfl (lv_at hl 2 rfl) ?_
  refine kcV (As := [.int x0, .int x1]) (rest := []) F hE hP hl.1 (cm_downOf l D cy (m0 := m0) (x0 := x0) (x1 := x1) (a_tape := a_tape) (f_taped := f_taped) (f_rules := f_rules) (a_sign := a_sign) (a_length := a_length) (a_clause := a_clause) (a_clauses := a_clauses) (a_read := a_read) (f_next := f_next) (f_wrong := f_wrong) (f_number := f_number) (f_text := f_text) (f_made := f_made) (f_deep := f_deep) (f_lines := f_lines) (a_open := a_open) (f_opened := f_opened) (a_stack := a_stack) (f_top := f_top) (a_word := a_word) (a_said := a_said) (f_force := f_force) (f_x := f_x) (f_windAlone := f_windAlone) (a_planned := a_planned) (a_cameOf := a_cameOf) (a_wasSaid := a_wasSaid) (f_undone := f_undone) (a_kept := a_kept) (a_rowNow := a_rowNow) (a_rowBest := a_rowBest) (a_hasBy := a_hasBy) (a_isFit := a_isFit) (a_cameThen := a_cameThen) (f_drawX := f_drawX) (a_images := a_images) (a_imageForce := a_imageForce) (a_imageX := a_imageX) (a_isMade := a_isMade) (g_said := g_said) (h_g_said := (PR.sv hr0_g_said)) (p0 := (by first | omega | assumption)) (p1 := (by first | omega | assumption)) (p2 := (by first | omega | assumption)) (p3 := (by first | omega | assumption))) q_m_X12_341 mv_X12_downOf ⟨(Nat.le_of_ble_eq_true rfl), (Nat.le_of_ble_eq_true rfl)⟩ [0, 1] rfl rfl rfl rfl rfl rfl (Nat.le_of_ble_eq_true rfl) ⟨(Nat.le_of_ble_eq_true rfl), (Nat.le_of_ble_eq_true rfl)⟩ dX12_shoots_3 (fun r_2 er_2 => ?_)
  refine lv_istore_n (lv' := [(3, .int r_2), (0, .ref m0), (1, .int x0), (2, .int x1)]) hx hb dX12_shoots_6 rfl hl (by decide) rfl (fun ls hl => ?_)
  refine lv_aload_n hx hb dX12_shoots_7 rfl (lv_at hl 1 rfl) ?_
  refine va_get (D := D) (ci := 12) (v := .ref a_said) (C := RX12) (T := TX12) (N := 39) hx hb hG inG_X12 hown hE.1 hP 0 rfl rfl 20 (by decide) (hG _ q_f_X12_39) (fun _ h9 => h9) rfl dX12_shoots_8 ?_
  refine lv_bipush (v := 25) hx hb dX12_shoots_11 (by decide) ?_
  refine lv_iconst (v := 3) hx hb dX12_shoots_13 (by decide) ?_
  refine lv_iload_n hx hb dX12_shoots_14 rfl (lv_at hl 2 rfl) ?_
  refine lv_imul hx hb dX12_shoots_15 ?_
  refine lv_topi (fun z_3 ez_3 => ?_)
  have iz_3 : z_3.toInt = 3 * x0.toInt := k_mulI ez_3 (by decide) rfl (by omega)
  refine lv_iadd hx hb dX12_shoots_16 ?_
  refine lv_topi (fun z_4 ez_4 => ?_)
  have iz_4 : z_4.toInt = 25 + z_3.toInt := k_addI ez_4 (by decide) rfl (by omega)
  refine lv_iconst (v := 2) hx hb dX12_shoots_17 (by decide) ?_
  refine lv_iadd hx hb dX12_shoots_18 ?_
  refine lv_topi (fun z_5 ez_5 => ?_)
  have iz_5 : z_5.toInt = z_4.toInt + 2 := k_addI ez_5 rfl (by decide) (by omega)
  refine lv_dup2_11 hx hb dX12_shoots_19 rfl rfl ?_
  refine va_iald hx hb hE.1 hP 1 0 rfl rfl (k_in (by omega)) dX12_shoots_20 ?_
  refine k_top (z := (g_said (Int32.toNatClampNeg z_5))) rfl ?_
  refine lv_iconst (v := 1) hx hb dX12_shoots_21 (by decide) ?_
  refine lv_isub hx hb dX12_shoots_22 ?_
  refine lv_topi (fun z_6 ez_6 => ?_)
  refine va_iast hx hb hE.1 hP hD hS 1 0 rfl rfl (k_in (by omega)) dX12_shoots_23 (fun H locs hP hD hS => ?_)
  have hr_8 : PR g_said (upd g_said (Int32.toNatClampNeg z_5) z_6) := hr0_g_said.put z_5 z_6 (by omega) (by omega)
  generalize upd g_said (Int32.toNatClampNeg z_5) z_6 = fn_7 at hP hD hr_8
  have hP : va_P D vwCl [(m0, .inr (12, [.ref a_tape, .int f_taped, .int f_rules, .ref a_sign, .ref a_length, .ref a_clause, .ref a_clauses, .ref a_read, .int f_next, .int f_wrong, .int f_number, .int f_text, .int f_made, .int f_deep, .int f_lines, .ref a_open, .int f_opened, .ref a_stack, .int f_top, .ref a_word, .ref a_said, .int f_force, .int f_x, .int f_windAlone, .ref a_planned, .ref a_cameOf, .ref a_wasSaid, .int f_undone, .ref a_kept, .ref a_rowNow, .ref a_rowBest, .ref a_hasBy, .ref a_isFit, .ref a_cameThen, .long f_drawX, .ref a_images, .ref a_imageForce, .ref a_imageX, .ref a_isMade])), (a_said, .inl (cy 0, 115, .inl fn_7))] H := hP
  have hD : va_D A [(m0, .inr (12, [.ref a_tape, .int f_taped, .int f_rules, .ref a_sign, .ref a_length, .ref a_clause, .ref a_clauses, .ref a_read, .int f_next, .int f_wrong, .int f_number, .int f_text, .int f_made, .int f_deep, .int f_lines, .ref a_open, .int f_opened, .ref a_stack, .int f_top, .ref a_word, .ref a_said, .int f_force, .int f_x, .int f_windAlone, .ref a_planned, .ref a_cameOf, .ref a_wasSaid, .int f_undone, .ref a_kept, .ref a_rowNow, .ref a_rowBest, .ref a_hasBy, .ref a_isFit, .ref a_cameThen, .long f_drawX, .ref a_images, .ref a_imageForce, .ref a_imageX, .ref a_isMade])), (a_said, .inl (cy 0, 115, .inl fn_7))] := hD
  obtain ⟨⟨b_9a, b_9b⟩, ⟨b_9c, b_9d⟩, ⟨b_9e, b_9f⟩, ⟨b_9g, b_9h⟩⟩ := SV.bounds (PR.sv hr_8)
  have b_95 := PR.e5 hr_8
  have b_94 := PR.e4 hr_8
  have b_9114 := PR.e114 hr_8
  refine lv_aload_n hx hb dX12_shoots_24 rfl (lv_at hl 1 rfl) ?_
  refine va_get (D := D) (ci := 12) (v := .ref a_said) (C := RX12) (T := TX12) (N := 39) hx hb hG inG_X12 hown hE.1 hP 0 rfl rfl 20 (by decide) (hG _ q_f_X12_39) (fun _ h9 => h9) rfl dX12_shoots_25 ?_
  refine lv_bipush (v := 11) hx hb dX12_shoots_28 (by decide) ?_
  refine lv_dup2_11 hx hb dX12_shoots_30 rfl rfl ?_
  refine va_iald hx hb hE.1 hP 1 0 rfl rfl (by unfold vp_in; decide) dX12_shoots_31 ?_
  refine k_top (z := (fn_7 11)) rfl ?_
  refine lv_iconst (v := 1) hx hb dX12_shoots_32 (by decide) ?_
  refine lv_iadd hx hb dX12_shoots_33 ?_
  refine lv_topi (fun z_10 ez_10 => ?_)
  refine va_iast hx hb hE.1 hP hD hS 1 0 rfl rfl (by unfold vp_in; decide) dX12_shoots_34 (fun H locs hP hD hS => ?_)
  have hr_12 : PR g_said (upd fn_7 (Int32.toNatClampNeg 11) z_10) := hr_8.put (11 : Int32) z_10 (by rw [show (11 : Int32).toInt = 11 from by decide]; omega) (by rw [show (11 : Int32).toInt = 11 from by decide]; omega)
  generalize upd fn_7 (Int32.toNatClampNeg 11) z_10 = fn_11 at hP hD hr_12
  have hP : va_P D vwCl [(m0, .inr (12, [.ref a_tape, .int f_taped, .int f_rules, .ref a_sign, .ref a_length, .ref a_clause, .ref a_clauses, .ref a_read, .int f_next, .int f_wrong, .int f_number, .int f_text, .int f_made, .int f_deep, .int f_lines, .ref a_open, .int f_opened, .ref a_stack, .int f_top, .ref a_word, .ref a_said, .int f_force, .int f_x, .int f_windAlone, .ref a_planned, .ref a_cameOf, .ref a_wasSaid, .int f_undone, .ref a_kept, .ref a_rowNow, .ref a_rowBest, .ref a_hasBy, .ref a_isFit, .ref a_cameThen, .long f_drawX, .ref a_images, .ref a_imageForce, .ref a_imageX, .ref a_isMade])), (a_said, .inl (cy 0, 115, .inl fn_11))] H := hP
  have hD : va_D A [(m0, .inr (12, [.ref a_tape, .int f_taped, .int f_rules, .ref a_sign, .ref a_length, .ref a_clause, .ref a_clauses, .ref a_read, .int f_next, .int f_wrong, .int f_number, .int f_text, .int f_made, .int f_deep, .int f_lines, .ref a_open, .int f_opened, .ref a_stack, .int f_top, .ref a_word, .ref a_said, .int f_force, .int f_x, .int f_windAlone, .ref a_planned, .ref a_cameOf, .ref a_wasSaid, .int f_undone, .ref a_kept, .ref a_rowNow, .ref a_rowBest, .ref a_hasBy, .ref a_isFit, .ref a_cameThen, .long f_drawX, .ref a_images, .ref a_imageForce, .ref a_imageX, .ref a_isMade])), (a_said, .inl (cy 0, 115, .inl fn_11))] := hD
  obtain ⟨⟨b_13a, b_13b⟩, ⟨b_13c, b_13d⟩, ⟨b_13e, b_13f⟩, ⟨b_13g, b_13h⟩⟩ := SV.bounds (PR.sv hr_12)
  have b_135 := PR.e5 hr_12
  have b_134 := PR.e4 hr_12
  have b_13114 := PR.e114 hr_12
  refine lv_iload_n hx hb dX12_shoots_35 rfl (lv_at hl 0 rfl) ?_
  refine lv_if_ge (tgt := 52) hx hb dX12_shoots_36 (by decide) (fun c_14 => ?_) (fun c_14 => ?_)
  · have ic_14 : 0 ≤ r_2.toInt := k_le c_14 (by decide) rfl
    refine lv_aload_n hx hb dX12_shoots_52 rfl (lv_at hl 1 rfl) ?_
    refine lv_iload_n hx hb dX12_shoots_53 rfl (lv_at hl 0 rfl) ?_
    refine kcV (As := [.int r_2]) (rest := []) F hE hP hl.1 (cm_ringAt l D cy (m0 := m0) (x0 := r_2) (a_tape := a_tape) (f_taped := f_taped) (f_rules := f_rules) (a_sign := a_sign) (a_length := a_length) (a_clause := a_clause) (a_clauses := a_clauses) (a_read := a_read) (f_next := f_next) (f_wrong := f_wrong) (f_number := f_number) (f_text := f_text) (f_made := f_made) (f_deep := f_deep) (f_lines := f_lines) (a_open := a_open) (f_opened := f_opened) (a_stack := a_stack) (f_top := f_top) (a_word := a_word) (a_said := a_said) (f_force := f_force) (f_x := f_x) (f_windAlone := f_windAlone) (a_planned := a_planned) (a_cameOf := a_cameOf) (a_wasSaid := a_wasSaid) (f_undone := f_undone) (a_kept := a_kept) (a_rowNow := a_rowNow) (a_rowBest := a_rowBest) (a_hasBy := a_hasBy) (a_isFit := a_isFit) (a_cameThen := a_cameThen) (f_drawX := f_drawX) (a_images := a_images) (a_imageForce := a_imageForce) (a_imageX := a_imageX) (a_isMade := a_isMade) (g_said := fn_11) (h_g_said := (PR.sv hr_12))) q_m_X12_345 mv_X12_ringAt ⟨(Nat.le_of_ble_eq_true rfl), (Nat.le_of_ble_eq_true rfl)⟩ [0, 1] rfl rfl rfl rfl rfl rfl (Nat.le_of_ble_eq_true rfl) ⟨(Nat.le_of_ble_eq_true rfl), (Nat.le_of_ble_eq_true rfl)⟩ dX12_shoots_54 (fun r_15 er_15 => ?_)
    have er_15 : (-1 ≤ r_15.toInt) ∧ (r_15.toInt ≤ 5) := er_15
    obtain ⟨er_15a, er_15b⟩ := er_15
    refine lv_istore (lv' := [(4, .int r_15), (3, .int r_2), (0, .ref m0), (1, .int x0), (2, .int x1)]) hx hb dX12_shoots_57 hl (by decide) rfl (fun ls hl => ?_)
    refine lv_iload hx hb dX12_shoots_59 (lv_at hl 0 rfl) ?_
    refine lv_if_lt (tgt := 78) hx hb dX12_shoots_61 (by decide) (fun c_16 => ?_) (fun c_16 => ?_)
    · have ic_16 : r_15.toInt < 0 := k_lt c_16 rfl (by decide)
      refine lv_iload hx hb dX12_shoots_78 (lv_at hl 0 rfl) ?_
      refine lv_aload_n hx hb dX12_shoots_80 rfl (lv_at hl 2 rfl) ?_
      refine va_get (D := D) (ci := 12) (v := .ref a_said) (C := RX12) (T := TX12) (N := 39) hx hb hG inG_X12 hown hE.1 hP 0 rfl rfl 20 (by decide) (hG _ q_f_X12_39) (fun _ h9 => h9) rfl dX12_shoots_81 ?_
      refine lv_bipush (v := 46) hx hb dX12_shoots_84 (by decide) ?_
      refine lv_iload_n hx hb dX12_shoots_86 rfl (lv_at hl 3 rfl) ?_
      refine lv_iadd hx hb dX12_shoots_87 ?_
      refine lv_topi (fun z_17 ez_17 => ?_)
      have iz_17 : z_17.toInt = 46 + x0.toInt := k_addI ez_17 (by decide) rfl (by omega)
      refine va_iald hx hb hE.1 hP 1 0 rfl rfl (k_in (by omega)) dX12_shoots_88 ?_
      refine k_top (z := (fn_11 (Int32.toNatClampNeg z_17))) rfl ?_
      have ow_18 := SV.own (PR.sv hr_12) z_17 (by omega)
      refine lv_icmp_ne (tgt := 97) hx hb dX12_shoots_89 (by decide) (fun c_19 => ?_) (fun c_19 => ?_)
      · have ic_19 : r_15.toInt ≠ (fn_11 (Int32.toNatClampNeg z_17)).toInt := k_ne c_19 rfl rfl
        refine lv_iload_n hx hb dX12_shoots_97 rfl (lv_at hl 1 rfl) ?_
        exact KI.rt fn_11 F rfl (hP.sub [0, 1] rfl) (hD.sub [0, 1] (by decide) rfl) hS (show PR g_said fn_11 from hr_12) (Nat.le_of_ble_eq_true rfl) (Nat.le_of_ble_eq_true rfl) dX12_shoots_98
      · have ic_19 : r_15.toInt = (fn_11 (Int32.toNatClampNeg z_17)).toInt := k_eq c_19 rfl rfl
        refine lv_aload_n hx hb dX12_shoots_92 rfl (lv_at hl 2 rfl) ?_
        refine lv_iload_n hx hb dX12_shoots_93 rfl (lv_at hl 3 rfl) ?_
        refine kwVV (wr := []) (As := [.int x0]) (rest := []) F hE hP hD hS hA hl.1 (cm_eases1 l D cy (m0 := m0) (x0 := x0) (a_tape := a_tape) (f_taped := f_taped) (f_rules := f_rules) (a_sign := a_sign) (a_length := a_length) (a_clause := a_clause) (a_clauses := a_clauses) (a_read := a_read) (f_next := f_next) (f_wrong := f_wrong) (f_number := f_number) (f_text := f_text) (f_made := f_made) (f_deep := f_deep) (f_lines := f_lines) (a_open := a_open) (f_opened := f_opened) (a_stack := a_stack) (f_top := f_top) (a_word := a_word) (a_said := a_said) (f_force := f_force) (f_x := f_x) (f_windAlone := f_windAlone) (a_planned := a_planned) (a_cameOf := a_cameOf) (a_wasSaid := a_wasSaid) (f_undone := f_undone) (a_kept := a_kept) (a_rowNow := a_rowNow) (a_rowBest := a_rowBest) (a_hasBy := a_hasBy) (a_isFit := a_isFit) (a_cameThen := a_cameThen) (f_drawX := f_drawX) (a_images := a_images) (a_imageForce := a_imageForce) (a_imageX := a_imageX) (a_isMade := a_isMade) (g_said := fn_11) (h_g_said := (PR.sv hr_12)) (p0 := (by first | omega | assumption)) (p1 := (by first | omega | assumption))) q_m_X12_348 mv_X12_eases1 ⟨(Nat.le_of_ble_eq_true rfl), (Nat.le_of_ble_eq_true rfl)⟩ [0, 1] [] (by decide) rfl rfl (by decide) (by decide) rfl rfl rfl rfl rfl (Nat.le_of_ble_eq_true rfl) ⟨(Nat.le_of_ble_eq_true rfl), (Nat.le_of_ble_eq_true rfl)⟩ dX12_shoots_94 (fun u_20 H locs eu_20 hP hD hS => ?_)
        have eu_20 : PR fn_11 u_20 := eu_20
        have hP : va_P D vwCl [(m0, .inr (12, [.ref a_tape, .int f_taped, .int f_rules, .ref a_sign, .ref a_length, .ref a_clause, .ref a_clauses, .ref a_read, .int f_next, .int f_wrong, .int f_number, .int f_text, .int f_made, .int f_deep, .int f_lines, .ref a_open, .int f_opened, .ref a_stack, .int f_top, .ref a_word, .ref a_said, .int f_force, .int f_x, .int f_windAlone, .ref a_planned, .ref a_cameOf, .ref a_wasSaid, .int f_undone, .ref a_kept, .ref a_rowNow, .ref a_rowBest, .ref a_hasBy, .ref a_isFit, .ref a_cameThen, .long f_drawX, .ref a_images, .ref a_imageForce, .ref a_imageX, .ref a_isMade])), (a_said, .inl (cy 0, 115, .inl u_20))] H := hP
        have hD : va_D A [(m0, .inr (12, [.ref a_tape, .int f_taped, .int f_rules, .ref a_sign, .ref a_length, .ref a_clause, .ref a_clauses, .ref a_read, .int f_next, .int f_wrong, .int f_number, .int f_text, .int f_made, .int f_deep, .int f_lines, .ref a_open, .int f_opened, .ref a_stack, .int f_top, .ref a_word, .ref a_said, .int f_force, .int f_x, .int f_windAlone, .ref a_planned, .ref a_cameOf, .ref a_wasSaid, .int f_undone, .ref a_kept, .ref a_rowNow, .ref a_rowBest, .ref a_hasBy, .ref a_isFit, .ref a_cameThen, .long f_drawX, .ref a_images, .ref a_imageForce, .ref a_imageX, .ref a_isMade])), (a_said, .inl (cy 0, 115, .inl u_20))] := hD
        obtain ⟨⟨b_22a, b_22b⟩, ⟨b_22c, b_22d⟩, ⟨b_22e, b_22f⟩, ⟨b_22g, b_22h⟩⟩ := SV.bounds (PR.sv (PR.trans hr_12 eu_20))
        have b_225 := PR.e5 (PR.trans hr_12 eu_20)
        have b_224 := PR.e4 (PR.trans hr_12 eu_20)
        have b_22114 := PR.e114 (PR.trans hr_12 eu_20)
        refine lv_iload_n hx hb dX12_shoots_97 rfl (lv_at hl 1 rfl) ?_
        exact KI.rt u_20 F rfl (hP.sub [0, 1] rfl) (hD.sub [0, 1] (by decide) rfl) hS (show PR g_said u_20 from (PR.trans hr_12 eu_20)) (Nat.le_of_ble_eq_true rfl) (Nat.le_of_ble_eq_true rfl) dX12_shoots_98
    · have ic_16 : 0 ≤ r_15.toInt := k_nlt c_16 rfl (by decide)
      refine lv_aload_n hx hb dX12_shoots_64 rfl (lv_at hl 2 rfl) ?_
      refine va_get (D := D) (ci := 12) (v := .ref a_said) (C := RX12) (T := TX12) (N := 39) hx hb hG inG_X12 hown hE.1 hP 0 rfl rfl 20 (by decide) (hG _ q_f_X12_39) (fun _ h9 => h9) rfl dX12_shoots_65 ?_
      refine lv_bipush (v := 19) hx hb dX12_shoots_68 (by decide) ?_
      refine lv_iload hx hb dX12_shoots_70 (lv_at hl 0 rfl) ?_
      refine lv_iadd hx hb dX12_shoots_72 ?_
      refine lv_topi (fun z_23 ez_23 => ?_)
      have iz_23 : z_23.toInt = 19 + r_15.toInt := k_addI ez_23 (by decide) rfl (by omega)
      refine lv_dup2_11 hx hb dX12_shoots_73 rfl rfl ?_
      refine va_iald hx hb hE.1 hP 1 0 rfl rfl (k_in (by omega)) dX12_shoots_74 ?_
      refine k_top (z := (fn_11 (Int32.toNatClampNeg z_23))) rfl ?_
      refine lv_iconst (v := 1) hx hb dX12_shoots_75 (by decide) ?_
      refine lv_iadd hx hb dX12_shoots_76 ?_
      refine lv_topi (fun z_24 ez_24 => ?_)
      refine va_iast hx hb hE.1 hP hD hS 1 0 rfl rfl (k_in (by omega)) dX12_shoots_77 (fun H locs hP hD hS => ?_)
      have hr_26 : PR g_said (upd fn_11 (Int32.toNatClampNeg z_23) z_24) := hr_12.put z_23 z_24 (by omega) (by omega)
      generalize upd fn_11 (Int32.toNatClampNeg z_23) z_24 = fn_25 at hP hD hr_26
      have hP : va_P D vwCl [(m0, .inr (12, [.ref a_tape, .int f_taped, .int f_rules, .ref a_sign, .ref a_length, .ref a_clause, .ref a_clauses, .ref a_read, .int f_next, .int f_wrong, .int f_number, .int f_text, .int f_made, .int f_deep, .int f_lines, .ref a_open, .int f_opened, .ref a_stack, .int f_top, .ref a_word, .ref a_said, .int f_force, .int f_x, .int f_windAlone, .ref a_planned, .ref a_cameOf, .ref a_wasSaid, .int f_undone, .ref a_kept, .ref a_rowNow, .ref a_rowBest, .ref a_hasBy, .ref a_isFit, .ref a_cameThen, .long f_drawX, .ref a_images, .ref a_imageForce, .ref a_imageX, .ref a_isMade])), (a_said, .inl (cy 0, 115, .inl fn_25))] H := hP
      have hD : va_D A [(m0, .inr (12, [.ref a_tape, .int f_taped, .int f_rules, .ref a_sign, .ref a_length, .ref a_clause, .ref a_clauses, .ref a_read, .int f_next, .int f_wrong, .int f_number, .int f_text, .int f_made, .int f_deep, .int f_lines, .ref a_open, .int f_opened, .ref a_stack, .int f_top, .ref a_word, .ref a_said, .int f_force, .int f_x, .int f_windAlone, .ref a_planned, .ref a_cameOf, .ref a_wasSaid, .int f_undone, .ref a_kept, .ref a_rowNow, .ref a_rowBest, .ref a_hasBy, .ref a_isFit, .ref a_cameThen, .long f_drawX, .ref a_images, .ref a_imageForce, .ref a_imageX, .ref a_isMade])), (a_said, .inl (cy 0, 115, .inl fn_25))] := hD
      obtain ⟨⟨b_27a, b_27b⟩, ⟨b_27c, b_27d⟩, ⟨b_27e, b_27f⟩, ⟨b_27g, b_27h⟩⟩ := SV.bounds (PR.sv hr_26)
      have b_275 := PR.e5 hr_26
      have b_274 := PR.e4 hr_26
      have b_27114 := PR.e114 hr_26
      refine lv_iload hx hb dX12_shoots_78 (lv_at hl 0 rfl) ?_
      refine lv_aload_n hx hb dX12_shoots_80 rfl (lv_at hl 2 rfl) ?_
      refine va_get (D := D) (ci := 12) (v := .ref a_said) (C := RX12) (T := TX12) (N := 39) hx hb hG inG_X12 hown hE.1 hP 0 rfl rfl 20 (by decide) (hG _ q_f_X12_39) (fun _ h9 => h9) rfl dX12_shoots_81 ?_
      refine lv_bipush (v := 46) hx hb dX12_shoots_84 (by decide) ?_
      refine lv_iload_n hx hb dX12_shoots_86 rfl (lv_at hl 3 rfl) ?_
      refine lv_iadd hx hb dX12_shoots_87 ?_
      refine lv_topi (fun z_28 ez_28 => ?_)
      have iz_28 : z_28.toInt = 46 + x0.toInt := k_addI ez_28 (by decide) rfl (by omega)
      refine va_iald hx hb hE.1 hP 1 0 rfl rfl (k_in (by omega)) dX12_shoots_88 ?_
      refine k_top (z := (fn_25 (Int32.toNatClampNeg z_28))) rfl ?_
      have ow_29 := SV.own (PR.sv hr_26) z_28 (by omega)
      refine lv_icmp_ne (tgt := 97) hx hb dX12_shoots_89 (by decide) (fun c_30 => ?_) (fun c_30 => ?_)
      · have ic_30 : r_15.toInt ≠ (fn_25 (Int32.toNatClampNeg z_28)).toInt := k_ne c_30 rfl rfl
        refine lv_iload_n hx hb dX12_shoots_97 rfl (lv_at hl 1 rfl) ?_
        exact KI.rt fn_25 F rfl (hP.sub [0, 1] rfl) (hD.sub [0, 1] (by decide) rfl) hS (show PR g_said fn_25 from hr_26) (Nat.le_of_ble_eq_true rfl) (Nat.le_of_ble_eq_true rfl) dX12_shoots_98
      · have ic_30 : r_15.toInt = (fn_25 (Int32.toNatClampNeg z_28)).toInt := k_eq c_30 rfl rfl
        refine lv_aload_n hx hb dX12_shoots_92 rfl (lv_at hl 2 rfl) ?_
        refine lv_iload_n hx hb dX12_shoots_93 rfl (lv_at hl 3 rfl) ?_
        refine kwVV (wr := []) (As := [.int x0]) (rest := []) F hE hP hD hS hA hl.1 (cm_eases1 l D cy (m0 := m0) (x0 := x0) (a_tape := a_tape) (f_taped := f_taped) (f_rules := f_rules) (a_sign := a_sign) (a_length := a_length) (a_clause := a_clause) (a_clauses := a_clauses) (a_read := a_read) (f_next := f_next) (f_wrong := f_wrong) (f_number := f_number) (f_text := f_text) (f_made := f_made) (f_deep := f_deep) (f_lines := f_lines) (a_open := a_open) (f_opened := f_opened) (a_stack := a_stack) (f_top := f_top) (a_word := a_word) (a_said := a_said) (f_force := f_force) (f_x := f_x) (f_windAlone := f_windAlone) (a_planned := a_planned) (a_cameOf := a_cameOf) (a_wasSaid := a_wasSaid) (f_undone := f_undone) (a_kept := a_kept) (a_rowNow := a_rowNow) (a_rowBest := a_rowBest) (a_hasBy := a_hasBy) (a_isFit := a_isFit) (a_cameThen := a_cameThen) (f_drawX := f_drawX) (a_images := a_images) (a_imageForce := a_imageForce) (a_imageX := a_imageX) (a_isMade := a_isMade) (g_said := fn_25) (h_g_said := (PR.sv hr_26)) (p0 := (by first | omega | assumption)) (p1 := (by first | omega | assumption))) q_m_X12_348 mv_X12_eases1 ⟨(Nat.le_of_ble_eq_true rfl), (Nat.le_of_ble_eq_true rfl)⟩ [0, 1] [] (by decide) rfl rfl (by decide) (by decide) rfl rfl rfl rfl rfl (Nat.le_of_ble_eq_true rfl) ⟨(Nat.le_of_ble_eq_true rfl), (Nat.le_of_ble_eq_true rfl)⟩ dX12_shoots_94 (fun u_31 H locs eu_31 hP hD hS => ?_)
        have eu_31 : PR fn_25 u_31 := eu_31
        have hP : va_P D vwCl [(m0, .inr (12, [.ref a_tape, .int f_taped, .int f_rules, .ref a_sign, .ref a_length, .ref a_clause, .ref a_clauses, .ref a_read, .int f_next, .int f_wrong, .int f_number, .int f_text, .int f_made, .int f_deep, .int f_lines, .ref a_open, .int f_opened, .ref a_stack, .int f_top, .ref a_word, .ref a_said, .int f_force, .int f_x, .int f_windAlone, .ref a_planned, .ref a_cameOf, .ref a_wasSaid, .int f_undone, .ref a_kept, .ref a_rowNow, .ref a_rowBest, .ref a_hasBy, .ref a_isFit, .ref a_cameThen, .long f_drawX, .ref a_images, .ref a_imageForce, .ref a_imageX, .ref a_isMade])), (a_said, .inl (cy 0, 115, .inl u_31))] H := hP
        have hD : va_D A [(m0, .inr (12, [.ref a_tape, .int f_taped, .int f_rules, .ref a_sign, .ref a_length, .ref a_clause, .ref a_clauses, .ref a_read, .int f_next, .int f_wrong, .int f_number, .int f_text, .int f_made, .int f_deep, .int f_lines, .ref a_open, .int f_opened, .ref a_stack, .int f_top, .ref a_word, .ref a_said, .int f_force, .int f_x, .int f_windAlone, .ref a_planned, .ref a_cameOf, .ref a_wasSaid, .int f_undone, .ref a_kept, .ref a_rowNow, .ref a_rowBest, .ref a_hasBy, .ref a_isFit, .ref a_cameThen, .long f_drawX, .ref a_images, .ref a_imageForce, .ref a_imageX, .ref a_isMade])), (a_said, .inl (cy 0, 115, .inl u_31))] := hD
        obtain ⟨⟨b_33a, b_33b⟩, ⟨b_33c, b_33d⟩, ⟨b_33e, b_33f⟩, ⟨b_33g, b_33h⟩⟩ := SV.bounds (PR.sv (PR.trans hr_26 eu_31))
        have b_335 := PR.e5 (PR.trans hr_26 eu_31)
        have b_334 := PR.e4 (PR.trans hr_26 eu_31)
        have b_33114 := PR.e114 (PR.trans hr_26 eu_31)
        refine lv_iload_n hx hb dX12_shoots_97 rfl (lv_at hl 1 rfl) ?_
        exact KI.rt u_31 F rfl (hP.sub [0, 1] rfl) (hD.sub [0, 1] (by decide) rfl) hS (show PR g_said u_31 from (PR.trans hr_26 eu_31)) (Nat.le_of_ble_eq_true rfl) (Nat.le_of_ble_eq_true rfl) dX12_shoots_98
  · have ic_14 : r_2.toInt < 0 := k_nle c_14 (by decide) rfl
    refine lv_aload_n hx hb dX12_shoots_39 rfl (lv_at hl 1 rfl) ?_
    refine va_get (D := D) (ci := 12) (v := .ref a_said) (C := RX12) (T := TX12) (N := 39) hx hb hG inG_X12 hown hE.1 hP 0 rfl rfl 20 (by decide) (hG _ q_f_X12_39) (fun _ h9 => h9) rfl dX12_shoots_40 ?_
    refine lv_bipush (v := 12) hx hb dX12_shoots_43 (by decide) ?_
    refine lv_dup2_11 hx hb dX12_shoots_45 rfl rfl ?_
    refine va_iald hx hb hE.1 hP 1 0 rfl rfl (by unfold vp_in; decide) dX12_shoots_46 ?_
    refine k_top (z := (fn_11 12)) rfl ?_
    refine lv_iconst (v := 1) hx hb dX12_shoots_47 (by decide) ?_
    refine lv_iadd hx hb dX12_shoots_48 ?_
    refine lv_topi (fun z_34 ez_34 => ?_)
    refine va_iast hx hb hE.1 hP hD hS 1 0 rfl rfl (by unfold vp_in; decide) dX12_shoots_49 (fun H locs hP hD hS => ?_)
    have hr_36 : PR g_said (upd fn_11 (Int32.toNatClampNeg 12) z_34) := hr_12.put (12 : Int32) z_34 (by rw [show (12 : Int32).toInt = 12 from by decide]; omega) (by rw [show (12 : Int32).toInt = 12 from by decide]; omega)
    generalize upd fn_11 (Int32.toNatClampNeg 12) z_34 = fn_35 at hP hD hr_36
    have hP : va_P D vwCl [(m0, .inr (12, [.ref a_tape, .int f_taped, .int f_rules, .ref a_sign, .ref a_length, .ref a_clause, .ref a_clauses, .ref a_read, .int f_next, .int f_wrong, .int f_number, .int f_text, .int f_made, .int f_deep, .int f_lines, .ref a_open, .int f_opened, .ref a_stack, .int f_top, .ref a_word, .ref a_said, .int f_force, .int f_x, .int f_windAlone, .ref a_planned, .ref a_cameOf, .ref a_wasSaid, .int f_undone, .ref a_kept, .ref a_rowNow, .ref a_rowBest, .ref a_hasBy, .ref a_isFit, .ref a_cameThen, .long f_drawX, .ref a_images, .ref a_imageForce, .ref a_imageX, .ref a_isMade])), (a_said, .inl (cy 0, 115, .inl fn_35))] H := hP
    have hD : va_D A [(m0, .inr (12, [.ref a_tape, .int f_taped, .int f_rules, .ref a_sign, .ref a_length, .ref a_clause, .ref a_clauses, .ref a_read, .int f_next, .int f_wrong, .int f_number, .int f_text, .int f_made, .int f_deep, .int f_lines, .ref a_open, .int f_opened, .ref a_stack, .int f_top, .ref a_word, .ref a_said, .int f_force, .int f_x, .int f_windAlone, .ref a_planned, .ref a_cameOf, .ref a_wasSaid, .int f_undone, .ref a_kept, .ref a_rowNow, .ref a_rowBest, .ref a_hasBy, .ref a_isFit, .ref a_cameThen, .long f_drawX, .ref a_images, .ref a_imageForce, .ref a_imageX, .ref a_isMade])), (a_said, .inl (cy 0, 115, .inl fn_35))] := hD
    obtain ⟨⟨b_37a, b_37b⟩, ⟨b_37c, b_37d⟩, ⟨b_37e, b_37f⟩, ⟨b_37g, b_37h⟩⟩ := SV.bounds (PR.sv hr_36)
    have b_375 := PR.e5 hr_36
    have b_374 := PR.e4 hr_36
    have b_37114 := PR.e114 hr_36
    refine lv_iconst (v := (-1)) hx hb dX12_shoots_50 (by decide) ?_
    have lit0 : ((-1) : Int32).toInt = (-1) := by decide
    exact KI.rt fn_35 F rfl (hP.sub [0, 1] rfl) (hD.sub [0, 1] (by decide) rfl) hS (show PR g_said fn_35 from hr_36) (Nat.le_of_ble_eq_true rfl) (Nat.le_of_ble_eq_true rfl) dX12_shoots_51

set_option maxHeartbeats 4000000 in
set_option maxRecDepth 100000 in
theorem cm_easeBy (l : Launch) (D : va_G) (cy : Nat → ClassId) (m0 : Nat) (a_tape : Nat) (a_sign : Nat) (a_length : Nat) (a_clause : Nat) (a_clauses : Nat) (a_read : Nat) (a_open : Nat) (a_stack : Nat) (a_word : Nat) (a_said : Nat) (a_planned : Nat) (a_cameOf : Nat) (a_wasSaid : Nat) (a_kept : Nat) (a_rowNow : Nat) (a_rowBest : Nat) (a_hasBy : Nat) (a_isFit : Nat) (a_cameThen : Nat) (a_images : Nat) (a_imageForce : Nat) (a_imageX : Nat) (a_isMade : Nat) (f_taped : Int32) (f_rules : Int32) (f_next : Int32) (f_wrong : Int32) (f_number : Int32) (f_text : Int32) (f_made : Int32) (f_deep : Int32) (f_lines : Int32) (f_opened : Int32) (f_top : Int32) (f_force : Int32) (f_x : Int32) (f_windAlone : Int32) (f_undone : Int32) (f_drawX : Int64) (g_said : Nat → Int32) (x0 : Int32) (x1 : Int32) (h_g_said : SV g_said) (p0 : 0 ≤ x0.toInt) (p1 : x0.toInt < (g_said 5).toInt) (p2 : 0 ≤ x1.toInt) (p3 : x1.toInt ≤ 5) : KP l yX12_easeBy cX12_easeBy 5 (some .int) 4 85 D (kTY cy) [.ref m0, .int x0, .int x1] [(m0, .inr (12, [.ref a_tape, .int f_taped, .int f_rules, .ref a_sign, .ref a_length, .ref a_clause, .ref a_clauses, .ref a_read, .int f_next, .int f_wrong, .int f_number, .int f_text, .int f_made, .int f_deep, .int f_lines, .ref a_open, .int f_opened, .ref a_stack, .int f_top, .ref a_word, .ref a_said, .int f_force, .int f_x, .int f_windAlone, .ref a_planned, .ref a_cameOf, .ref a_wasSaid, .int f_undone, .ref a_kept, .ref a_rowNow, .ref a_rowBest, .ref a_hasBy, .ref a_isFit, .ref a_cameThen, .long f_drawX, .ref a_images, .ref a_imageForce, .ref a_imageX, .ref a_isMade])), (a_said, .inl (cy 0, 115, .inl g_said))] (fun r => True) := by
  refine KP.of (by decide) (Nat.le_of_ble_eq_true rfl) (fun p e s m below meth c ls F hE hP hl => ?_)
  have F : kF p s m meth c cX12_easeBy 5 (some .int) _ RX12 := F
  obtain ⟨hx, hb, hr, hml, hown, hG, hlk⟩ := id F
  have hl : lv_has ls 5 [(0, .ref m0), (1, .int x0), (2, .int x1)] := hl
  have hr0_g_said : PR g_said g_said := PR.refl h_g_said
  obtain ⟨⟨b_1a, b_1b⟩, ⟨b_1c, b_1d⟩, ⟨b_1e, b_1f⟩, ⟨b_1g, b_1h⟩⟩ := SV.bounds (PR.sv hr0_g_said)
  refine lv_aload_n hx hb dX12_easeBy_0 rfl (lv_at hl 0 rfl) ?_
  refine lv_iload_n hx hb dX12_easeBy_1 rfl (lv_at hl 1 rfl) ?_
  refine lv_iload_n hx hb dX12_easeBy_2 rfl (lv_at hl 2 rfl) ?_
  refine kcV (As := [.int x0, .int x1]) (rest := []) F hE hP hl.1 (cm_downOf l D cy (m0 := m0) (x0 := x0) (x1 := x1) (a_tape := a_tape) (f_taped := f_taped) (f_rules := f_rules) (a_sign := a_sign) (a_length := a_length) (a_clause := a_clause) (a_clauses := a_clauses) (a_read := a_read) (f_next := f_next) (f_wrong := f_wrong) (f_number := f_number) (f_text := f_text) (f_made := f_made) (f_deep := f_deep) (f_lines := f_lines) (a_open := a_open) (f_opened := f_opened) (a_stack := a_stack) (f_top := f_top) (a_word := a_word) (a_said := a_said) (f_force := f_force) (f_x := f_x) (f_windAlone := f_windAlone) (a_planned := a_planned) (a_cameOf := a_cameOf) (a_wasSaid := a_wasSaid) (f_undone := f_undone) (a_kept := a_kept) (a_rowNow := a_rowNow) (a_rowBest := a_rowBest) (a_hasBy := a_hasBy) (a_isFit := a_isFit) (a_cameThen := a_cameThen) (f_drawX := f_drawX) (a_images := a_images) (a_imageForce := a_imageForce) (a_imageX := a_imageX) (a_isMade := a_isMade) (g_said := g_said) (h_g_said := (PR.sv hr0_g_said)) (p0 := (by first | omega | assumption)) (p1 := (by first | omega | assumption)) (p2 := (by first | omega | assumption)) (p3 := (by first | omega | assumption))) q_m_X12_341 mv_X12_downOf ⟨(Nat.le_of_ble_eq_true rfl), (Nat.le_of_ble_eq_true rfl)⟩ [0, 1] rfl rfl rfl rfl rfl rfl (Nat.le_of_ble_eq_true rfl) ⟨(Nat.le_of_ble_eq_true rfl), (Nat.le_of_ble_eq_true rfl)⟩ dX12_easeBy_3 (fun r_2 er_2 => ?_)
  refine lv_istore_n (lv' := [(3, .int r_2), (0, .ref m0), (1, .int x0), (2, .int x1)]) hx hb dX12_easeBy_6 rfl hl (by decide) rfl (fun ls hl => ?_)
  refine lv_iload_n hx hb dX12_easeBy_7 rfl (lv_at hl 0 rfl) ?_
  refine lv_if_lt (tgt := 28) hx hb dX12_easeBy_8 (by decide) (fun c_3 => ?_) (fun c_3 => ?_)
  · have ic_3 : r_2.toInt < 0 := k_lt c_3 rfl (by decide)
    refine lv_iconst (v := 0) hx hb dX12_easeBy_28 (by decide) ?_
    have lit0 : (0 : Int32).toInt = 0 := by decide
    exact KP.rt F rfl trivial dX12_easeBy_29
  · have ic_3 : 0 ≤ r_2.toInt := k_nlt c_3 rfl (by decide)
    refine lv_aload_n hx hb dX12_easeBy_11 rfl (lv_at hl 1 rfl) ?_
    refine lv_iload_n hx hb dX12_easeBy_12 rfl (lv_at hl 0 rfl) ?_
    refine kcV (As := [.int r_2]) (rest := []) F hE hP hl.1 (cm_ringAt l D cy (m0 := m0) (x0 := r_2) (a_tape := a_tape) (f_taped := f_taped) (f_rules := f_rules) (a_sign := a_sign) (a_length := a_length) (a_clause := a_clause) (a_clauses := a_clauses) (a_read := a_read) (f_next := f_next) (f_wrong := f_wrong) (f_number := f_number) (f_text := f_text) (f_made := f_made) (f_deep := f_deep) (f_lines := f_lines) (a_open := a_open) (f_opened := f_opened) (a_stack := a_stack) (f_top := f_top) (a_word := a_word) (a_said := a_said) (f_force := f_force) (f_x := f_x) (f_windAlone := f_windAlone) (a_planned := a_planned) (a_cameOf := a_cameOf) (a_wasSaid := a_wasSaid) (f_undone := f_undone) (a_kept := a_kept) (a_rowNow := a_rowNow) (a_rowBest := a_rowBest) (a_hasBy := a_hasBy) (a_isFit := a_isFit) (a_cameThen := a_cameThen) (f_drawX := f_drawX) (a_images := a_images) (a_imageForce := a_imageForce) (a_imageX := a_imageX) (a_isMade := a_isMade) (g_said := g_said) (h_g_said := (PR.sv hr0_g_said))) q_m_X12_345 mv_X12_ringAt ⟨(Nat.le_of_ble_eq_true rfl), (Nat.le_of_ble_eq_true rfl)⟩ [0, 1] rfl rfl rfl rfl rfl rfl (Nat.le_of_ble_eq_true rfl) ⟨(Nat.le_of_ble_eq_true rfl), (Nat.le_of_ble_eq_true rfl)⟩ dX12_easeBy_13 (fun r_4 er_4 => ?_)
    have er_4 : (-1 ≤ r_4.toInt) ∧ (r_4.toInt ≤ 5) := er_4
    obtain ⟨er_4a, er_4b⟩ := er_4
    refine lv_aload_n hx hb dX12_easeBy_16 rfl (lv_at hl 1 rfl) ?_
    refine va_get (D := D) (ci := 12) (v := .ref a_said) (C := RX12) (T := TX12) (N := 39) hx hb hG inG_X12 hown hE.1 hP 0 rfl rfl 20 (by decide) (hG _ q_f_X12_39) (fun _ h9 => h9) rfl dX12_easeBy_17 ?_
    refine lv_bipush (v := 46) hx hb dX12_easeBy_20 (by decide) ?_
    refine lv_iload_n hx hb dX12_easeBy_22 rfl (lv_at hl 2 rfl) ?_
    refine lv_iadd hx hb dX12_easeBy_23 ?_
    refine lv_topi (fun z_5 ez_5 => ?_)
    have iz_5 : z_5.toInt = 46 + x0.toInt := k_addI ez_5 (by decide) rfl (by omega)
    refine va_iald hx hb hE.1 hP 1 0 rfl rfl (k_in (by omega)) dX12_easeBy_24 ?_
    refine k_top (z := (g_said (Int32.toNatClampNeg z_5))) rfl ?_
    have ow_6 := SV.own (PR.sv hr0_g_said) z_5 (by omega)
    refine lv_icmp_eq (tgt := 30) hx hb dX12_easeBy_25 (by decide) (fun c_7 => ?_) (fun c_7 => ?_)
    · have ic_7 : r_4.toInt = (g_said (Int32.toNatClampNeg z_5)).toInt := k_eq c_7 rfl rfl
      refine lv_aload_n hx hb dX12_easeBy_30 rfl (lv_at hl 1 rfl) ?_
      refine va_get (D := D) (ci := 12) (v := .ref a_said) (C := RX12) (T := TX12) (N := 39) hx hb hG inG_X12 hown hE.1 hP 0 rfl rfl 20 (by decide) (hG _ q_f_X12_39) (fun _ h9 => h9) rfl dX12_easeBy_31 ?_
      refine lv_bipush (v := 40) hx hb dX12_easeBy_34 (by decide) ?_
      refine lv_aload_n hx hb dX12_easeBy_36 rfl (lv_at hl 1 rfl) ?_
      refine va_get (D := D) (ci := 12) (v := .ref a_said) (C := RX12) (T := TX12) (N := 39) hx hb hG inG_X12 hown hE.1 hP 0 rfl rfl 20 (by decide) (hG _ q_f_X12_39) (fun _ h9 => h9) rfl dX12_easeBy_37 ?_
      refine lv_bipush (v := 46) hx hb dX12_easeBy_40 (by decide) ?_
      refine lv_iload_n hx hb dX12_easeBy_42 rfl (lv_at hl 2 rfl) ?_
      refine lv_iadd hx hb dX12_easeBy_43 ?_
      refine lv_topi (fun z_8 ez_8 => ?_)
      have iz_8 : z_8.toInt = 46 + x0.toInt := k_addI ez_8 (by decide) rfl (by omega)
      refine va_iald hx hb hE.1 hP 1 0 rfl rfl (k_in (by omega)) dX12_easeBy_44 ?_
      refine k_top (z := (g_said (Int32.toNatClampNeg z_8))) rfl ?_
      have ow_9 := SV.own (PR.sv hr0_g_said) z_8 (by omega)
      refine lv_iadd hx hb dX12_easeBy_45 ?_
      refine lv_topi (fun z_10 ez_10 => ?_)
      have iz_10 : z_10.toInt = 40 + (g_said (Int32.toNatClampNeg z_8)).toInt := k_addI ez_10 (by decide) rfl (by omega)
      refine va_iald hx hb hE.1 hP 1 0 rfl rfl (k_in (by omega)) dX12_easeBy_46 ?_
      refine k_top (z := (g_said (Int32.toNatClampNeg z_10))) rfl ?_
      refine lv_istore (lv' := [(4, .int (g_said (Int32.toNatClampNeg z_10))), (3, .int r_2), (0, .ref m0), (1, .int x0), (2, .int x1)]) hx hb dX12_easeBy_47 hl (by decide) rfl (fun ls hl => ?_)
      refine lv_iload hx hb dX12_easeBy_49 (lv_at hl 0 rfl) ?_
      refine lv_aload_n hx hb dX12_easeBy_51 rfl (lv_at hl 2 rfl) ?_
      refine lv_iload_n hx hb dX12_easeBy_52 rfl (lv_at hl 3 rfl) ?_
      refine kcV (As := [.int x0]) (rest := [.int (g_said (Int32.toNatClampNeg z_10))]) F hE hP hl.1 (cm_illOf l D cy (m0 := m0) (x0 := x0) (a_tape := a_tape) (f_taped := f_taped) (f_rules := f_rules) (a_sign := a_sign) (a_length := a_length) (a_clause := a_clause) (a_clauses := a_clauses) (a_read := a_read) (f_next := f_next) (f_wrong := f_wrong) (f_number := f_number) (f_text := f_text) (f_made := f_made) (f_deep := f_deep) (f_lines := f_lines) (a_open := a_open) (f_opened := f_opened) (a_stack := a_stack) (f_top := f_top) (a_word := a_word) (a_said := a_said) (f_force := f_force) (f_x := f_x) (f_windAlone := f_windAlone) (a_planned := a_planned) (a_cameOf := a_cameOf) (a_wasSaid := a_wasSaid) (f_undone := f_undone) (a_kept := a_kept) (a_rowNow := a_rowNow) (a_rowBest := a_rowBest) (a_hasBy := a_hasBy) (a_isFit := a_isFit) (a_cameThen := a_cameThen) (f_drawX := f_drawX) (a_images := a_images) (a_imageForce := a_imageForce) (a_imageX := a_imageX) (a_isMade := a_isMade) (g_said := g_said) (h_g_said := (PR.sv hr0_g_said)) (p0 := (by first | omega | assumption)) (p1 := (by first | omega | assumption))) q_m_X12_317 mv_X12_illOf ⟨(Nat.le_of_ble_eq_true rfl), (Nat.le_of_ble_eq_true rfl)⟩ [0, 1] rfl rfl rfl rfl rfl rfl (Nat.le_of_ble_eq_true rfl) ⟨(Nat.le_of_ble_eq_true rfl), (Nat.le_of_ble_eq_true rfl)⟩ dX12_easeBy_53 (fun r_11 er_11 => ?_)
      refine lv_icmp_ge (tgt := 64) hx hb dX12_easeBy_56 (by decide) (fun c_12 => ?_) (fun c_12 => ?_)
      · have ic_12 : r_11.toInt ≤ (g_said (Int32.toNatClampNeg z_10)).toInt := k_le c_12 rfl rfl
        refine lv_aload_n hx hb dX12_easeBy_64 rfl (lv_at hl 2 rfl) ?_
        refine lv_iload_n hx hb dX12_easeBy_65 rfl (lv_at hl 3 rfl) ?_
        refine kcV (As := [.int x0]) (rest := []) F hE hP hl.1 (cm_illOf l D cy (m0 := m0) (x0 := x0) (a_tape := a_tape) (f_taped := f_taped) (f_rules := f_rules) (a_sign := a_sign) (a_length := a_length) (a_clause := a_clause) (a_clauses := a_clauses) (a_read := a_read) (f_next := f_next) (f_wrong := f_wrong) (f_number := f_number) (f_text := f_text) (f_made := f_made) (f_deep := f_deep) (f_lines := f_lines) (a_open := a_open) (f_opened := f_opened) (a_stack := a_stack) (f_top := f_top) (a_word := a_word) (a_said := a_said) (f_force := f_force) (f_x := f_x) (f_windAlone := f_windAlone) (a_planned := a_planned) (a_cameOf := a_cameOf) (a_wasSaid := a_wasSaid) (f_undone := f_undone) (a_kept := a_kept) (a_rowNow := a_rowNow) (a_rowBest := a_rowBest) (a_hasBy := a_hasBy) (a_isFit := a_isFit) (a_cameThen := a_cameThen) (f_drawX := f_drawX) (a_images := a_images) (a_imageForce := a_imageForce) (a_imageX := a_imageX) (a_isMade := a_isMade) (g_said := g_said) (h_g_said := (PR.sv hr0_g_said)) (p0 := (by first | omega | assumption)) (p1 := (by first | omega | assumption))) q_m_X12_317 mv_X12_illOf ⟨(Nat.le_of_ble_eq_true rfl), (Nat.le_of_ble_eq_true rfl)⟩ [0, 1] rfl rfl rfl rfl rfl rfl (Nat.le_of_ble_eq_true rfl) ⟨(Nat.le_of_ble_eq_true rfl), (Nat.le_of_ble_eq_true rfl)⟩ dX12_easeBy_66 (fun r_13 er_13 => ?_)
        exact KP.rt F rfl trivial dX12_easeBy_69
      · have ic_12 : (g_said (Int32.toNatClampNeg z_10)).toInt < r_11.toInt := k_nle c_12 rfl rfl
        refine lv_iload hx hb dX12_easeBy_59 (lv_at hl 0 rfl) ?_
        refine lv_goto (tgt := 69) hx hb dX12_easeBy_61 (by decide) ?_
        exact KP.rt F rfl trivial dX12_easeBy_69
    · have ic_7 : r_4.toInt ≠ (g_said (Int32.toNatClampNeg z_5)).toInt := k_ne c_7 rfl rfl
      refine lv_iconst (v := 0) hx hb dX12_easeBy_28 (by decide) ?_
      have lit0 : (0 : Int32).toInt = 0 := by decide
      exact KP.rt F rfl trivial dX12_easeBy_29
