set_option maxHeartbeats 4000000 in
set_option maxRecDepth 100000 in
theorem cm_keeps (l : Launch) (D : va_G) (cy : Nat → ClassId) (m0 : Nat) (a_tape : Nat) (a_sign : Nat) (a_length : Nat) (a_clause : Nat) (a_clauses : Nat) (a_read : Nat) (a_open : Nat) (a_stack : Nat) (a_word : Nat) (a_said : Nat) (a_planned : Nat) (a_cameOf : Nat) (a_wasSaid : Nat) (a_kept : Nat) (a_rowNow : Nat) (a_rowBest : Nat) (a_hasBy : Nat) (a_isFit : Nat) (a_cameThen : Nat) (a_images : Nat) (a_imageForce : Nat) (a_imageX : Nat) (a_isMade : Nat) (f_taped : Int32) (f_rules : Int32) (f_next : Int32) (f_wrong : Int32) (f_number : Int32) (f_text : Int32) (f_made : Int32) (f_deep : Int32) (f_lines : Int32) (f_opened : Int32) (f_top : Int32) (f_force : Int32) (f_x : Int32) (f_windAlone : Int32) (f_undone : Int32) (f_drawX : Int64) (g_said : Nat → Int32) (g_kept : Nat → Int32) (h_g_said : SV g_said) : KV l yX12_keeps cX12_keeps 2 0 0 D (kTY cy) [.ref m0] [(m0, .inr (12, [.ref a_tape, .int f_taped, .int f_rules, .ref a_sign, .ref a_length, .ref a_clause, .ref a_clauses, .ref a_read, .int f_next, .int f_wrong, .int f_number, .int f_text, .int f_made, .int f_deep, .int f_lines, .ref a_open, .int f_opened, .ref a_stack, .int f_top, .ref a_word, .ref a_said, .int f_force, .int f_x, .int f_windAlone, .ref a_planned, .ref a_cameOf, .ref a_wasSaid, .int f_undone, .ref a_kept, .ref a_rowNow, .ref a_rowBest, .ref a_hasBy, .ref a_isFit, .ref a_cameThen, .long f_drawX, .ref a_images, .ref a_imageForce, .ref a_imageX, .ref a_isMade])), (a_said, .inl (cy 0, 115, .inl g_said)), (a_kept, .inl (cy 0, 30, .inl g_kept))] (S := (Nat → Int32)) (fun u => (KPT u ((g_said 5).toInt))) (fun u => [(m0, .inr (12, [.ref a_tape, .int f_taped, .int f_rules, .ref a_sign, .ref a_length, .ref a_clause, .ref a_clauses, .ref a_read, .int f_next, .int f_wrong, .int f_number, .int f_text, .int f_made, .int f_deep, .int f_lines, .ref a_open, .int f_opened, .ref a_stack, .int f_top, .ref a_word, .ref a_said, .int f_force, .int f_x, .int f_windAlone, .ref a_planned, .ref a_cameOf, .ref a_wasSaid, .int f_undone, .ref a_kept, .ref a_rowNow, .ref a_rowBest, .ref a_hasBy, .ref a_isFit, .ref a_cameThen, .long f_drawX, .ref a_images, .ref a_imageForce, .ref a_imageX, .ref a_isMade])), (a_said, .inl (cy 0, 115, .inl g_said)), (a_kept, .inl (cy 0, 30, .inl u))]) 0 0 := by
  refine KV.of (by decide) (Nat.le_of_ble_eq_true rfl) (fun p e s m below meth c ls A F hin hE hP hD hA hS hl => ?_)
  have F : kF p s m meth c cX12_keeps 2 none _ RX12 := F
  obtain ⟨hx, hb, hr, hml, hown, hG, hlk⟩ := id F
  have hl : lv_has ls 2 [(0, .ref m0)] := hl
  have hr0_g_said : PR g_said g_said := PR.refl h_g_said
  obtain ⟨⟨b_1a, b_1b⟩, ⟨b_1c, b_1d⟩, ⟨b_1e, b_1f⟩, ⟨b_1g, b_1h⟩⟩ := SV.bounds (PR.sv hr0_g_said)
  refine lv_iconst (v := 0) hx hb dX12_keeps_0 (by decide) ?_
  refine lv_istore_n (lv' := [(1, .int 0), (0, .ref m0)]) hx hb dX12_keeps_1 rfl hl (by decide) rfl (fun ls hl => ?_)
  have lp2 : ∀ (fu : Nat) (v1_2 : Int32) (ga_kept_2 : Nat → Int32) (H : Heap) (locs : List Loc) (ls : Array Slot), (0 ≤ v1_2.toInt) → (v1_2.toInt ≤ 30) → (CP ga_kept_2 g_said 0 v1_2.toInt) → 30 - v1_2.toInt < (fu : Int) → va_P D vwCl [(m0, .inr (12, [.ref a_tape, .int f_taped, .int f_rules, .ref a_sign, .ref a_length, .ref a_clause, .ref a_clauses, .ref a_read, .int f_next, .int f_wrong, .int f_number, .int f_text, .int f_made, .int f_deep, .int f_lines, .ref a_open, .int f_opened, .ref a_stack, .int f_top, .ref a_word, .ref a_said, .int f_force, .int f_x, .int f_windAlone, .ref a_planned, .ref a_cameOf, .ref a_wasSaid, .int f_undone, .ref a_kept, .ref a_rowNow, .ref a_rowBest, .ref a_hasBy, .ref a_isFit, .ref a_cameThen, .long f_drawX, .ref a_images, .ref a_imageForce, .ref a_imageX, .ref a_isMade])), (a_said, .inl (cy 0, 115, .inl g_said)), (a_kept, .inl (cy 0, 30, .inl ga_kept_2))] H → va_D A [(m0, .inr (12, [.ref a_tape, .int f_taped, .int f_rules, .ref a_sign, .ref a_length, .ref a_clause, .ref a_clauses, .ref a_read, .int f_next, .int f_wrong, .int f_number, .int f_text, .int f_made, .int f_deep, .int f_lines, .ref a_open, .int f_opened, .ref a_stack, .int f_top, .ref a_word, .ref a_said, .int f_force, .int f_x, .int f_windAlone, .ref a_planned, .ref a_cameOf, .ref a_wasSaid, .int f_undone, .ref a_kept, .ref a_rowNow, .ref a_rowBest, .ref a_hasBy, .ref a_isFit, .ref a_cameThen, .long f_drawX, .ref a_images, .ref a_imageForce, .ref a_imageX, .ref a_isMade])), (a_said, .inl (cy 0, 115, .inl g_said)), (a_kept, .inl (cy 0, 30, .inl ga_kept_2))] → va_S A s.heap H locs → lv_has ls 2 [(1, .int v1_2), (0, .ref m0)] → W p l e (kRm 0 0 0 0) s m ([.ref m0] : List Value).toArray below meth c H locs 0 0 (MQ below (va_Qv (S := (Nat → Int32)) (fun u => (KPT u ((g_said 5).toInt))) (kBw D A (fun u => [(m0, .inr (12, [.ref a_tape, .int f_taped, .int f_rules, .ref a_sign, .ref a_length, .ref a_clause, .ref a_clauses, .ref a_read, .int f_next, .int f_wrong, .int f_number, .int f_text, .int f_made, .int f_deep, .int f_lines, .ref a_open, .int f_opened, .ref a_stack, .int f_top, .ref a_word, .ref a_said, .int f_force, .int f_x, .int f_windAlone, .ref a_planned, .ref a_cameOf, .ref a_wasSaid, .int f_undone, .ref a_kept, .ref a_rowNow, .ref a_rowBest, .ref a_hasBy, .ref a_isFit, .ref a_cameThen, .long f_drawX, .ref a_images, .ref a_imageForce, .ref a_imageX, .ref a_isMade])), (a_said, .inl (cy 0, 115, .inl g_said)), (a_kept, .inl (cy 0, 30, .inl u))])) A) ([.ref m0] : List Value).toArray s 0 0 A) (F0 m 2 ls []) := by
    intro fu2
    induction fu2 with
    | zero =>
      intro v1_2 ga_kept_2 H locs ls j0_2 j1_2 j2_2 hm2 hP hD hS hl
      exact absurd hm2 (by omega)
    | succ fu2 ih2 =>
      intro v1_2 ga_kept_2 H locs ls j0_2 j1_2 j2_2 hm2 hP hD hS hl
      refine lv_iload_n hx hb dX12_keeps_2 rfl (lv_at hl 0 rfl) ?_
      refine lv_bipush (v := 30) hx hb dX12_keeps_3 (by decide) ?_
      refine lv_icmp_ge (tgt := 29) hx hb dX12_keeps_5 (by decide) (fun c_2 => ?_) (fun c_2 => ?_)
      · have ic_2 : 30 ≤ v1_2.toInt := k_le c_2 (by decide) rfl
        exact KV.rt ga_kept_2 F (hP.sub [0, 1, 2] rfl) (hD.sub [0, 1, 2] (by decide) rfl) hS (show (KPT ga_kept_2 ((g_said 5).toInt)) from (CP.kpt (CP.of j2_2 (by omega)) h_g_said)) (Nat.le_of_ble_eq_true rfl) (Nat.le_of_ble_eq_true rfl) dX12_keeps_29
      · have ic_2 : v1_2.toInt < 30 := k_nle c_2 (by decide) rfl
        refine lv_aload_n hx hb dX12_keeps_8 rfl (lv_at hl 1 rfl) ?_
        refine va_get (D := D) (ci := 12) (v := .ref a_kept) (C := RX12) (T := TX12) (N := 39) hx hb hG inG_X12 hown hE.1 hP 0 rfl rfl 28 (by decide) (hG _ q_f_X12_58) (fun _ h9 => h9) rfl dX12_keeps_9 ?_
        refine lv_iload_n hx hb dX12_keeps_12 rfl (lv_at hl 0 rfl) ?_
        refine lv_aload_n hx hb dX12_keeps_13 rfl (lv_at hl 1 rfl) ?_
        refine va_get (D := D) (ci := 12) (v := .ref a_said) (C := RX12) (T := TX12) (N := 39) hx hb hG inG_X12 hown hE.1 hP 0 rfl rfl 20 (by decide) (hG _ q_f_X12_39) (fun _ h9 => h9) rfl dX12_keeps_14 ?_
        refine lv_bipush (v := 10) hx hb dX12_keeps_17 (by decide) ?_
        refine lv_iload_n hx hb dX12_keeps_19 rfl (lv_at hl 0 rfl) ?_
        refine lv_iadd hx hb dX12_keeps_20 ?_
        refine lv_topi (fun z_3 ez_3 => ?_)
        have iz_3 : z_3.toInt = 10 + v1_2.toInt := k_addI ez_3 (by decide) rfl (by omega)
        refine va_iald hx hb hE.1 hP 1 0 rfl rfl (k_in (by omega)) dX12_keeps_21 ?_
        refine k_top (z := (g_said (Int32.toNatClampNeg z_3))) rfl ?_
        refine va_iast hx hb hE.1 hP hD hS 2 0 rfl rfl (k_in (by omega)) dX12_keeps_22 (fun H locs hP hD hS => ?_)
        have cp_5 : CP (upd ga_kept_2 (Int32.toNatClampNeg v1_2) (g_said (Int32.toNatClampNeg z_3))) g_said 0 (v1_2.toInt + 1) := CP.put j2_2 v1_2 z_3 (by omega) (by omega) (by omega)
        generalize upd ga_kept_2 (Int32.toNatClampNeg v1_2) (g_said (Int32.toNatClampNeg z_3)) = fn_4 at hP hD cp_5
        have hP : va_P D vwCl [(m0, .inr (12, [.ref a_tape, .int f_taped, .int f_rules, .ref a_sign, .ref a_length, .ref a_clause, .ref a_clauses, .ref a_read, .int f_next, .int f_wrong, .int f_number, .int f_text, .int f_made, .int f_deep, .int f_lines, .ref a_open, .int f_opened, .ref a_stack, .int f_top, .ref a_word, .ref a_said, .int f_force, .int f_x, .int f_windAlone, .ref a_planned, .ref a_cameOf, .ref a_wasSaid, .int f_undone, .ref a_kept, .ref a_rowNow, .ref a_rowBest, .ref a_hasBy, .ref a_isFit, .ref a_cameThen, .long f_drawX, .ref a_images, .ref a_imageForce, .ref a_imageX, .ref a_isMade])), (a_said, .inl (cy 0, 115, .inl g_said)), (a_kept, .inl (cy 0, 30, .inl fn_4))] H := hP
        have hD : va_D A [(m0, .inr (12, [.ref a_tape, .int f_taped, .int f_rules, .ref a_sign, .ref a_length, .ref a_clause, .ref a_clauses, .ref a_read, .int f_next, .int f_wrong, .int f_number, .int f_text, .int f_made, .int f_deep, .int f_lines, .ref a_open, .int f_opened, .ref a_stack, .int f_top, .ref a_word, .ref a_said, .int f_force, .int f_x, .int f_windAlone, .ref a_planned, .ref a_cameOf, .ref a_wasSaid, .int f_undone, .ref a_kept, .ref a_rowNow, .ref a_rowBest, .ref a_hasBy, .ref a_isFit, .ref a_cameThen, .long f_drawX, .ref a_images, .ref a_imageForce, .ref a_imageX, .ref a_isMade])), (a_said, .inl (cy 0, 115, .inl g_said)), (a_kept, .inl (cy 0, 30, .inl fn_4))] := hD
        obtain ⟨z_6, ez_6⟩ : ∃ y : Int32, y = v1_2 + Int32.ofInt 1 := ⟨_, rfl⟩
        have iz_6 : z_6.toInt = v1_2.toInt + 1 := k_addI ez_6 rfl (by decide) (by omega)
        refine lv_iinc (v := z_6) (lv' := [(1, .int z_6), (0, .ref m0)]) hx hb dX12_keeps_23 hl (k := 0) rfl ez_6.symm (by decide) rfl (fun ls hl => ?_)
        refine lv_goto (tgt := 2) hx hb dX12_keeps_26 (by decide) ?_
        exact ih2 z_6 fn_4 _ _ ls (by first | omega | assumption) (by first | omega | assumption) (CP.of cp_5 (by omega)) (by omega) hP hD hS (lv_sub hl [0, 1] rfl)
  have lt_7 : (0 : Int32).toInt = 0 := by decide
  exact lp2 100000 0 g_kept _ _ ls (by first | omega | assumption) (by first | omega | assumption) (CP.zero (by decide)) (by omega) hP hD hS hl

set_option maxHeartbeats 4000000 in
set_option maxRecDepth 100000 in
theorem cm_laysBack (l : Launch) (D : va_G) (cy : Nat → ClassId) (m0 : Nat) (a_tape : Nat) (a_sign : Nat) (a_length : Nat) (a_clause : Nat) (a_clauses : Nat) (a_read : Nat) (a_open : Nat) (a_stack : Nat) (a_word : Nat) (a_said : Nat) (a_planned : Nat) (a_cameOf : Nat) (a_wasSaid : Nat) (a_kept : Nat) (a_rowNow : Nat) (a_rowBest : Nat) (a_hasBy : Nat) (a_isFit : Nat) (a_cameThen : Nat) (a_images : Nat) (a_imageForce : Nat) (a_imageX : Nat) (a_isMade : Nat) (f_taped : Int32) (f_rules : Int32) (f_next : Int32) (f_wrong : Int32) (f_number : Int32) (f_text : Int32) (f_made : Int32) (f_deep : Int32) (f_lines : Int32) (f_opened : Int32) (f_top : Int32) (f_force : Int32) (f_x : Int32) (f_windAlone : Int32) (f_undone : Int32) (f_drawX : Int64) (g_said : Nat → Int32) (g_kept : Nat → Int32) (ghn : Int) (h_g_said : SV g_said) (p0 : ghn = (g_said 5).toInt) (p1 : KPT g_kept ghn) : KV l yX12_laysBack cX12_laysBack 2 0 0 D (kTY cy) [.ref m0] [(m0, .inr (12, [.ref a_tape, .int f_taped, .int f_rules, .ref a_sign, .ref a_length, .ref a_clause, .ref a_clauses, .ref a_read, .int f_next, .int f_wrong, .int f_number, .int f_text, .int f_made, .int f_deep, .int f_lines, .ref a_open, .int f_opened, .ref a_stack, .int f_top, .ref a_word, .ref a_said, .int f_force, .int f_x, .int f_windAlone, .ref a_planned, .ref a_cameOf, .ref a_wasSaid, .int f_undone, .ref a_kept, .ref a_rowNow, .ref a_rowBest, .ref a_hasBy, .ref a_isFit, .ref a_cameThen, .long f_drawX, .ref a_images, .ref a_imageForce, .ref a_imageX, .ref a_isMade])), (a_said, .inl (cy 0, 115, .inl g_said)), (a_kept, .inl (cy 0, 30, .inl g_kept))] (S := (Nat → Int32)) (fun u => PR g_said u) (fun u => [(m0, .inr (12, [.ref a_tape, .int f_taped, .int f_rules, .ref a_sign, .ref a_length, .ref a_clause, .ref a_clauses, .ref a_read, .int f_next, .int f_wrong, .int f_number, .int f_text, .int f_made, .int f_deep, .int f_lines, .ref a_open, .int f_opened, .ref a_stack, .int f_top, .ref a_word, .ref a_said, .int f_force, .int f_x, .int f_windAlone, .ref a_planned, .ref a_cameOf, .ref a_wasSaid, .int f_undone, .ref a_kept, .ref a_rowNow, .ref a_rowBest, .ref a_hasBy, .ref a_isFit, .ref a_cameThen, .long f_drawX, .ref a_images, .ref a_imageForce, .ref a_imageX, .ref a_isMade])), (a_said, .inl (cy 0, 115, .inl u)), (a_kept, .inl (cy 0, 30, .inl g_kept))]) 0 0 := by
  refine KV.of (by decide) (Nat.le_of_ble_eq_true rfl) (fun p e s m below meth c ls A F hin hE hP hD hA hS hl => ?_)
  have F : kF p s m meth c cX12_laysBack 2 none _ RX12 := F
  obtain ⟨hx, hb, hr, hml, hown, hG, hlk⟩ := id F
  have hl : lv_has ls 2 [(0, .ref m0)] := hl
  have hr0_g_said : PR g_said g_said := PR.refl h_g_said
  obtain ⟨⟨b_1a, b_1b⟩, ⟨b_1c, b_1d⟩, ⟨b_1e, b_1f⟩, ⟨b_1g, b_1h⟩⟩ := SV.bounds (PR.sv hr0_g_said)
  refine lv_iconst (v := 0) hx hb dX12_laysBack_0 (by decide) ?_
  refine lv_istore_n (lv' := [(1, .int 0), (0, .ref m0)]) hx hb dX12_laysBack_1 rfl hl (by decide) rfl (fun ls hl => ?_)
  have lp2 : ∀ (fu : Nat) (v1_2 : Int32) (ga_said_2 : Nat → Int32) (H : Heap) (locs : List Loc) (ls : Array Slot), PR g_said ga_said_2 → (0 ≤ v1_2.toInt) → (v1_2.toInt ≤ 30) → 30 - v1_2.toInt < (fu : Int) → va_P D vwCl [(m0, .inr (12, [.ref a_tape, .int f_taped, .int f_rules, .ref a_sign, .ref a_length, .ref a_clause, .ref a_clauses, .ref a_read, .int f_next, .int f_wrong, .int f_number, .int f_text, .int f_made, .int f_deep, .int f_lines, .ref a_open, .int f_opened, .ref a_stack, .int f_top, .ref a_word, .ref a_said, .int f_force, .int f_x, .int f_windAlone, .ref a_planned, .ref a_cameOf, .ref a_wasSaid, .int f_undone, .ref a_kept, .ref a_rowNow, .ref a_rowBest, .ref a_hasBy, .ref a_isFit, .ref a_cameThen, .long f_drawX, .ref a_images, .ref a_imageForce, .ref a_imageX, .ref a_isMade])), (a_said, .inl (cy 0, 115, .inl ga_said_2)), (a_kept, .inl (cy 0, 30, .inl g_kept))] H → va_D A [(m0, .inr (12, [.ref a_tape, .int f_taped, .int f_rules, .ref a_sign, .ref a_length, .ref a_clause, .ref a_clauses, .ref a_read, .int f_next, .int f_wrong, .int f_number, .int f_text, .int f_made, .int f_deep, .int f_lines, .ref a_open, .int f_opened, .ref a_stack, .int f_top, .ref a_word, .ref a_said, .int f_force, .int f_x, .int f_windAlone, .ref a_planned, .ref a_cameOf, .ref a_wasSaid, .int f_undone, .ref a_kept, .ref a_rowNow, .ref a_rowBest, .ref a_hasBy, .ref a_isFit, .ref a_cameThen, .long f_drawX, .ref a_images, .ref a_imageForce, .ref a_imageX, .ref a_isMade])), (a_said, .inl (cy 0, 115, .inl ga_said_2)), (a_kept, .inl (cy 0, 30, .inl g_kept))] → va_S A s.heap H locs → lv_has ls 2 [(1, .int v1_2), (0, .ref m0)] → W p l e (kRm 0 0 0 0) s m ([.ref m0] : List Value).toArray below meth c H locs 0 0 (MQ below (va_Qv (S := (Nat → Int32)) (fun u => PR g_said u) (kBw D A (fun u => [(m0, .inr (12, [.ref a_tape, .int f_taped, .int f_rules, .ref a_sign, .ref a_length, .ref a_clause, .ref a_clauses, .ref a_read, .int f_next, .int f_wrong, .int f_number, .int f_text, .int f_made, .int f_deep, .int f_lines, .ref a_open, .int f_opened, .ref a_stack, .int f_top, .ref a_word, .ref a_said, .int f_force, .int f_x, .int f_windAlone, .ref a_planned, .ref a_cameOf, .ref a_wasSaid, .int f_undone, .ref a_kept, .ref a_rowNow, .ref a_rowBest, .ref a_hasBy, .ref a_isFit, .ref a_cameThen, .long f_drawX, .ref a_images, .ref a_imageForce, .ref a_imageX, .ref a_isMade])), (a_said, .inl (cy 0, 115, .inl u)), (a_kept, .inl (cy 0, 30, .inl g_kept))])) A) ([.ref m0] : List Value).toArray s 0 0 A) (F0 m 2 ls []) := by
    intro fu2
    induction fu2 with
    | zero =>
      intro v1_2 ga_said_2 H locs ls hga_said_2 j0_2 j1_2 hm2 hP hD hS hl
      exact absurd hm2 (by omega)
    | succ fu2 ih2 =>
      intro v1_2 ga_said_2 H locs ls hga_said_2 j0_2 j1_2 hm2 hP hD hS hl
      obtain ⟨⟨b_2a, b_2b⟩, ⟨b_2c, b_2d⟩, ⟨b_2e, b_2f⟩, ⟨b_2g, b_2h⟩⟩ := SV.bounds (PR.sv hga_said_2)
      have b_25 := PR.e5 hga_said_2
      have b_24 := PR.e4 hga_said_2
      have b_2114 := PR.e114 hga_said_2
      refine lv_iload_n hx hb dX12_laysBack_2 rfl (lv_at hl 0 rfl) ?_
      refine lv_bipush (v := 30) hx hb dX12_laysBack_3 (by decide) ?_
      refine lv_icmp_ge (tgt := 29) hx hb dX12_laysBack_5 (by decide) (fun c_3 => ?_) (fun c_3 => ?_)
      · have ic_3 : 30 ≤ v1_2.toInt := k_le c_3 (by decide) rfl
        exact KV.rt ga_said_2 F (hP.sub [0, 1, 2] rfl) (hD.sub [0, 1, 2] (by decide) rfl) hS (show PR g_said ga_said_2 from hga_said_2) (Nat.le_of_ble_eq_true rfl) (Nat.le_of_ble_eq_true rfl) dX12_laysBack_29
      · have ic_3 : v1_2.toInt < 30 := k_nle c_3 (by decide) rfl
        refine lv_aload_n hx hb dX12_laysBack_8 rfl (lv_at hl 1 rfl) ?_
        refine va_get (D := D) (ci := 12) (v := .ref a_said) (C := RX12) (T := TX12) (N := 39) hx hb hG inG_X12 hown hE.1 hP 0 rfl rfl 20 (by decide) (hG _ q_f_X12_39) (fun _ h9 => h9) rfl dX12_laysBack_9 ?_
        refine lv_bipush (v := 10) hx hb dX12_laysBack_12 (by decide) ?_
        refine lv_iload_n hx hb dX12_laysBack_14 rfl (lv_at hl 0 rfl) ?_
        refine lv_iadd hx hb dX12_laysBack_15 ?_
        refine lv_topi (fun z_4 ez_4 => ?_)
        have iz_4 : z_4.toInt = 10 + v1_2.toInt := k_addI ez_4 (by decide) rfl (by omega)
        refine lv_aload_n hx hb dX12_laysBack_16 rfl (lv_at hl 1 rfl) ?_
        refine va_get (D := D) (ci := 12) (v := .ref a_kept) (C := RX12) (T := TX12) (N := 39) hx hb hG inG_X12 hown hE.1 hP 0 rfl rfl 28 (by decide) (hG _ q_f_X12_58) (fun _ h9 => h9) rfl dX12_laysBack_17 ?_
        refine lv_iload_n hx hb dX12_laysBack_20 rfl (lv_at hl 0 rfl) ?_
        refine va_iald hx hb hE.1 hP 2 0 rfl rfl (k_in (by omega)) dX12_laysBack_21 ?_
        refine k_top (z := (g_kept (Int32.toNatClampNeg v1_2))) rfl ?_
        have kp := KPT.at p1 v1_2 (by omega) (by omega)
        refine va_iast hx hb hE.1 hP hD hS 1 0 rfl rfl (k_in (by omega)) dX12_laysBack_22 (fun H locs hP hD hS => ?_)
        have hr_6 : PR g_said (upd ga_said_2 (Int32.toNatClampNeg z_4) (g_kept (Int32.toNatClampNeg v1_2))) := hga_said_2.put z_4 (g_kept (Int32.toNatClampNeg v1_2)) (by omega) (by omega)
        generalize upd ga_said_2 (Int32.toNatClampNeg z_4) (g_kept (Int32.toNatClampNeg v1_2)) = fn_5 at hP hD hr_6
        have hP : va_P D vwCl [(m0, .inr (12, [.ref a_tape, .int f_taped, .int f_rules, .ref a_sign, .ref a_length, .ref a_clause, .ref a_clauses, .ref a_read, .int f_next, .int f_wrong, .int f_number, .int f_text, .int f_made, .int f_deep, .int f_lines, .ref a_open, .int f_opened, .ref a_stack, .int f_top, .ref a_word, .ref a_said, .int f_force, .int f_x, .int f_windAlone, .ref a_planned, .ref a_cameOf, .ref a_wasSaid, .int f_undone, .ref a_kept, .ref a_rowNow, .ref a_rowBest, .ref a_hasBy, .ref a_isFit, .ref a_cameThen, .long f_drawX, .ref a_images, .ref a_imageForce, .ref a_imageX, .ref a_isMade])), (a_said, .inl (cy 0, 115, .inl fn_5)), (a_kept, .inl (cy 0, 30, .inl g_kept))] H := hP
        have hD : va_D A [(m0, .inr (12, [.ref a_tape, .int f_taped, .int f_rules, .ref a_sign, .ref a_length, .ref a_clause, .ref a_clauses, .ref a_read, .int f_next, .int f_wrong, .int f_number, .int f_text, .int f_made, .int f_deep, .int f_lines, .ref a_open, .int f_opened, .ref a_stack, .int f_top, .ref a_word, .ref a_said, .int f_force, .int f_x, .int f_windAlone, .ref a_planned, .ref a_cameOf, .ref a_wasSaid, .int f_undone, .ref a_kept, .ref a_rowNow, .ref a_rowBest, .ref a_hasBy, .ref a_isFit, .ref a_cameThen, .long f_drawX, .ref a_images, .ref a_imageForce, .ref a_imageX, .ref a_isMade])), (a_said, .inl (cy 0, 115, .inl fn_5)), (a_kept, .inl (cy 0, 30, .inl g_kept))] := hD
        obtain ⟨⟨b_7a, b_7b⟩, ⟨b_7c, b_7d⟩, ⟨b_7e, b_7f⟩, ⟨b_7g, b_7h⟩⟩ := SV.bounds (PR.sv hr_6)
        have b_75 := PR.e5 hr_6
        have b_74 := PR.e4 hr_6
        have b_7114 := PR.e114 hr_6
        obtain ⟨z_8, ez_8⟩ : ∃ y : Int32, y = v1_2 + Int32.ofInt 1 := ⟨_, rfl⟩
        have iz_8 : z_8.toInt = v1_2.toInt + 1 := k_addI ez_8 rfl (by decide) (by omega)
        refine lv_iinc (v := z_8) (lv' := [(1, .int z_8), (0, .ref m0)]) hx hb dX12_laysBack_23 hl (k := 0) rfl ez_8.symm (by decide) rfl (fun ls hl => ?_)
        refine lv_goto (tgt := 2) hx hb dX12_laysBack_26 (by decide) ?_
        exact ih2 z_8 fn_5 _ _ ls hr_6 (by first | omega | assumption) (by first | omega | assumption) (by omega) hP hD hS (lv_sub hl [0, 1] rfl)
  have lt_9 : (0 : Int32).toInt = 0 := by decide
  exact lp2 100000 0 g_said _ _ ls hr0_g_said (by first | omega | assumption) (by first | omega | assumption) (by omega) hP hD hS hl

set_option maxHeartbeats 4000000 in
set_option maxRecDepth 100000 in
theorem cm_undo (l : Launch) (D : va_G) (cy : Nat → ClassId) (m0 : Nat) (a_tape : Nat) (a_sign : Nat) (a_length : Nat) (a_clause : Nat) (a_clauses : Nat) (a_read : Nat) (a_open : Nat) (a_stack : Nat) (a_word : Nat) (a_said : Nat) (a_planned : Nat) (a_cameOf : Nat) (a_wasSaid : Nat) (a_kept : Nat) (a_rowNow : Nat) (a_rowBest : Nat) (a_hasBy : Nat) (a_isFit : Nat) (a_cameThen : Nat) (a_images : Nat) (a_imageForce : Nat) (a_imageX : Nat) (a_isMade : Nat) (f_taped : Int32) (f_rules : Int32) (f_next : Int32) (f_wrong : Int32) (f_number : Int32) (f_text : Int32) (f_made : Int32) (f_deep : Int32) (f_lines : Int32) (f_opened : Int32) (f_top : Int32) (f_force : Int32) (f_x : Int32) (f_windAlone : Int32) (f_undone : Int32) (f_drawX : Int64) (g_said : Nat → Int32) (g_wasSaid : Nat → Int32) (h_g_said : SV g_said) (p0 : 0 ≤ f_undone.toInt) (p1 : f_undone.toInt ≤ 20) (p2 : UV g_wasSaid f_undone.toInt ((g_said 5).toInt)) : KI l yX12_undo cX12_undo 2 (some .int) 0 0 D (kTY cy) [.ref m0] [(m0, .inr (12, [.ref a_tape, .int f_taped, .int f_rules, .ref a_sign, .ref a_length, .ref a_clause, .ref a_clauses, .ref a_read, .int f_next, .int f_wrong, .int f_number, .int f_text, .int f_made, .int f_deep, .int f_lines, .ref a_open, .int f_opened, .ref a_stack, .int f_top, .ref a_word, .ref a_said, .int f_force, .int f_x, .int f_windAlone, .ref a_planned, .ref a_cameOf, .ref a_wasSaid, .int f_undone, .ref a_kept, .ref a_rowNow, .ref a_rowBest, .ref a_hasBy, .ref a_isFit, .ref a_cameThen, .long f_drawX, .ref a_images, .ref a_imageForce, .ref a_imageX, .ref a_isMade])), (a_said, .inl (cy 0, 115, .inl g_said)), (a_wasSaid, .inl (cy 0, 600, .inl g_wasSaid))] (S := Int32 × (Nat → Int32)) (fun r u => PR g_said (u.2) ∧ (0 ≤ (u.1).toInt) ∧ ((u.1).toInt ≤ f_undone.toInt)) (fun u => [(m0, .inr (12, [.ref a_tape, .int f_taped, .int f_rules, .ref a_sign, .ref a_length, .ref a_clause, .ref a_clauses, .ref a_read, .int f_next, .int f_wrong, .int f_number, .int f_text, .int f_made, .int f_deep, .int f_lines, .ref a_open, .int f_opened, .ref a_stack, .int f_top, .ref a_word, .ref a_said, .int f_force, .int f_x, .int f_windAlone, .ref a_planned, .ref a_cameOf, .ref a_wasSaid, .int (u.1), .ref a_kept, .ref a_rowNow, .ref a_rowBest, .ref a_hasBy, .ref a_isFit, .ref a_cameThen, .long f_drawX, .ref a_images, .ref a_imageForce, .ref a_imageX, .ref a_isMade])), (a_said, .inl (cy 0, 115, .inl (u.2))), (a_wasSaid, .inl (cy 0, 600, .inl g_wasSaid))]) 0 0 := by
  refine KI.of (by decide) (Nat.le_of_ble_eq_true rfl) (fun p e s m below meth c ls A F hE hP hD hA hS hl => ?_)
  have F : kF p s m meth c cX12_undo 2 (some .int) _ RX12 := F
  obtain ⟨hx, hb, hr, hml, hown, hG, hlk⟩ := id F
  have hl : lv_has ls 2 [(0, .ref m0)] := hl
  have hr0_g_said : PR g_said g_said := PR.refl h_g_said
  obtain ⟨⟨b_1a, b_1b⟩, ⟨b_1c, b_1d⟩, ⟨b_1e, b_1f⟩, ⟨b_1g, b_1h⟩⟩ := SV.bounds (PR.sv hr0_g_said)
  refine lv_aload_n hx hb dX12_undo_0 rfl (lv_at hl 0 rfl) ?_
  refine va_get (D := D) (ci := 12) (v := .int f_undone) (C := RX12) (T := TX12) (N := 39) hx hb hG inG_X12 hown hE.1 hP 0 rfl rfl 27 (by decide) (hG _ q_f_X12_276) (fun _ h9 => h9) rfl dX12_undo_1 ?_
  refine lv_if_ne (tgt := 9) hx hb dX12_undo_4 (by decide) (fun c_2 => ?_) (fun c_2 => ?_)
  · have ic_2 : f_undone.toInt ≠ 0 := k_ne c_2 rfl (by decide)
    refine lv_aload_n hx hb dX12_undo_9 rfl (lv_at hl 0 rfl) ?_
    refine lv_dup hx hb dX12_undo_10 rfl ?_
    refine va_get (D := D) (ci := 12) (v := .int f_undone) (C := RX12) (T := TX12) (N := 39) hx hb hG inG_X12 hown hE.1 hP 0 rfl rfl 27 (by decide) (hG _ q_f_X12_276) (fun _ h9 => h9) rfl dX12_undo_11 ?_
    refine lv_iconst (v := 1) hx hb dX12_undo_14 (by decide) ?_
    refine lv_isub hx hb dX12_undo_15 ?_
    refine lv_topi (fun z_3 ez_3 => ?_)
    have iz_3 : z_3.toInt = f_undone.toInt - 1 := k_subI ez_3 rfl (by decide) (by omega)
    refine va_put (D := D) (ci := 12) (v := .int z_3) (ty := .int) (C := RX12) (T := TX12) (N := 39) hx hb hG inG_X12 tyX12 tyX12_ok nmX12 hown hE.1 hP hD hS 0 rfl rfl 27 (by decide) (hG _ q_f_X12_276) (fun _ h9 => h9) rfl (by decide +kernel) rfl rfl (Nat.le_of_ble_eq_true rfl) dX12_undo_16 (fun H locs hP hD hS => ?_)
    have hP : va_P D vwCl [(m0, .inr (12, [.ref a_tape, .int f_taped, .int f_rules, .ref a_sign, .ref a_length, .ref a_clause, .ref a_clauses, .ref a_read, .int f_next, .int f_wrong, .int f_number, .int f_text, .int f_made, .int f_deep, .int f_lines, .ref a_open, .int f_opened, .ref a_stack, .int f_top, .ref a_word, .ref a_said, .int f_force, .int f_x, .int f_windAlone, .ref a_planned, .ref a_cameOf, .ref a_wasSaid, .int z_3, .ref a_kept, .ref a_rowNow, .ref a_rowBest, .ref a_hasBy, .ref a_isFit, .ref a_cameThen, .long f_drawX, .ref a_images, .ref a_imageForce, .ref a_imageX, .ref a_isMade])), (a_said, .inl (cy 0, 115, .inl g_said)), (a_wasSaid, .inl (cy 0, 600, .inl g_wasSaid))] H := hP
    have hD : va_D A [(m0, .inr (12, [.ref a_tape, .int f_taped, .int f_rules, .ref a_sign, .ref a_length, .ref a_clause, .ref a_clauses, .ref a_read, .int f_next, .int f_wrong, .int f_number, .int f_text, .int f_made, .int f_deep, .int f_lines, .ref a_open, .int f_opened, .ref a_stack, .int f_top, .ref a_word, .ref a_said, .int f_force, .int f_x, .int f_windAlone, .ref a_planned, .ref a_cameOf, .ref a_wasSaid, .int z_3, .ref a_kept, .ref a_rowNow, .ref a_rowBest, .ref a_hasBy, .ref a_isFit, .ref a_cameThen, .long f_drawX, .ref a_images, .ref a_imageForce, .ref a_imageX, .ref a_isMade])), (a_said, .inl (cy 0, 115, .inl g_said)), (a_wasSaid, .inl (cy 0, 600, .inl g_wasSaid))] := hD
    refine lv_iconst (v := 0) hx hb dX12_undo_19 (by decide) ?_
    refine lv_istore_n (lv' := [(1, .int 0), (0, .ref m0)]) hx hb dX12_undo_20 rfl hl (by decide) rfl (fun ls hl => ?_)
    have lp21 : ∀ (fu : Nat) (v1_21 : Int32) (ga_said_21 : Nat → Int32) (H : Heap) (locs : List Loc) (ls : Array Slot), PR g_said ga_said_21 → (0 ≤ v1_21.toInt) → (v1_21.toInt ≤ 30) → 30 - v1_21.toInt < (fu : Int) → va_P D vwCl [(m0, .inr (12, [.ref a_tape, .int f_taped, .int f_rules, .ref a_sign, .ref a_length, .ref a_clause, .ref a_clauses, .ref a_read, .int f_next, .int f_wrong, .int f_number, .int f_text, .int f_made, .int f_deep, .int f_lines, .ref a_open, .int f_opened, .ref a_stack, .int f_top, .ref a_word, .ref a_said, .int f_force, .int f_x, .int f_windAlone, .ref a_planned, .ref a_cameOf, .ref a_wasSaid, .int z_3, .ref a_kept, .ref a_rowNow, .ref a_rowBest, .ref a_hasBy, .ref a_isFit, .ref a_cameThen, .long f_drawX, .ref a_images, .ref a_imageForce, .ref a_imageX, .ref a_isMade])), (a_said, .inl (cy 0, 115, .inl ga_said_21)), (a_wasSaid, .inl (cy 0, 600, .inl g_wasSaid))] H → va_D A [(m0, .inr (12, [.ref a_tape, .int f_taped, .int f_rules, .ref a_sign, .ref a_length, .ref a_clause, .ref a_clauses, .ref a_read, .int f_next, .int f_wrong, .int f_number, .int f_text, .int f_made, .int f_deep, .int f_lines, .ref a_open, .int f_opened, .ref a_stack, .int f_top, .ref a_word, .ref a_said, .int f_force, .int f_x, .int f_windAlone, .ref a_planned, .ref a_cameOf, .ref a_wasSaid, .int z_3, .ref a_kept, .ref a_rowNow, .ref a_rowBest, .ref a_hasBy, .ref a_isFit, .ref a_cameThen, .long f_drawX, .ref a_images, .ref a_imageForce, .ref a_imageX, .ref a_isMade])), (a_said, .inl (cy 0, 115, .inl ga_said_21)), (a_wasSaid, .inl (cy 0, 600, .inl g_wasSaid))] → va_S A s.heap H locs → lv_has ls 2 [(1, .int v1_21), (0, .ref m0)] → W p l e (kRm 0 0 0 0) s m ([.ref m0] : List Value).toArray below meth c H locs 0 0 (MQ below (va_Qi (S := Int32 × (Nat → Int32)) (fun r u => PR g_said (u.2) ∧ (0 ≤ (u.1).toInt) ∧ ((u.1).toInt ≤ f_undone.toInt)) (kBw D A (fun u => [(m0, .inr (12, [.ref a_tape, .int f_taped, .int f_rules, .ref a_sign, .ref a_length, .ref a_clause, .ref a_clauses, .ref a_read, .int f_next, .int f_wrong, .int f_number, .int f_text, .int f_made, .int f_deep, .int f_lines, .ref a_open, .int f_opened, .ref a_stack, .int f_top, .ref a_word, .ref a_said, .int f_force, .int f_x, .int f_windAlone, .ref a_planned, .ref a_cameOf, .ref a_wasSaid, .int (u.1), .ref a_kept, .ref a_rowNow, .ref a_rowBest, .ref a_hasBy, .ref a_isFit, .ref a_cameThen, .long f_drawX, .ref a_images, .ref a_imageForce, .ref a_imageX, .ref a_isMade])), (a_said, .inl (cy 0, 115, .inl (u.2))), (a_wasSaid, .inl (cy 0, 600, .inl g_wasSaid))])) A) ([.ref m0] : List Value).toArray s 0 0 A) (F0 m 21 ls []) := by
      intro fu21
      induction fu21 with
      | zero =>
        intro v1_21 ga_said_21 H locs ls hga_said_21 j0_21 j1_21 hm21 hP hD hS hl
        exact absurd hm21 (by omega)
      | succ fu21 ih21 =>
        intro v1_21 ga_said_21 H locs ls hga_said_21 j0_21 j1_21 hm21 hP hD hS hl
        obtain ⟨⟨b_4a, b_4b⟩, ⟨b_4c, b_4d⟩, ⟨b_4e, b_4f⟩, ⟨b_4g, b_4h⟩⟩ := SV.bounds (PR.sv hga_said_21)
        have b_45 := PR.e5 hga_said_21
        have b_44 := PR.e4 hga_said_21
        have b_4114 := PR.e114 hga_said_21
        refine lv_iload_n hx hb dX12_undo_21 rfl (lv_at hl 0 rfl) ?_
        refine lv_bipush (v := 30) hx hb dX12_undo_22 (by decide) ?_
        refine lv_icmp_ge (tgt := 56) hx hb dX12_undo_24 (by decide) (fun c_5 => ?_) (fun c_5 => ?_)
        · have ic_5 : 30 ≤ v1_21.toInt := k_le c_5 (by decide) rfl
          refine lv_aload_n hx hb dX12_undo_56 rfl (lv_at hl 1 rfl) ?_
          refine va_get (D := D) (ci := 12) (v := .int z_3) (C := RX12) (T := TX12) (N := 39) hx hb hG inG_X12 hown hE.1 hP 0 rfl rfl 27 (by decide) (hG _ q_f_X12_276) (fun _ h9 => h9) rfl dX12_undo_57 ?_
          exact KI.rt ⟨z_3, ga_said_21⟩ F rfl (hP.sub [0, 1, 2] rfl) (hD.sub [0, 1, 2] (by decide) rfl) hS (show PR g_said ga_said_21 ∧ (0 ≤ z_3.toInt) ∧ (z_3.toInt ≤ f_undone.toInt) from ⟨hga_said_21, (by first | omega | assumption), (by first | omega | assumption)⟩) (Nat.le_of_ble_eq_true rfl) (Nat.le_of_ble_eq_true rfl) dX12_undo_60
        · have ic_5 : v1_21.toInt < 30 := k_nle c_5 (by decide) rfl
          refine lv_aload_n hx hb dX12_undo_27 rfl (lv_at hl 1 rfl) ?_
          refine va_get (D := D) (ci := 12) (v := .ref a_said) (C := RX12) (T := TX12) (N := 39) hx hb hG inG_X12 hown hE.1 hP 0 rfl rfl 20 (by decide) (hG _ q_f_X12_39) (fun _ h9 => h9) rfl dX12_undo_28 ?_
          refine lv_bipush (v := 10) hx hb dX12_undo_31 (by decide) ?_
          refine lv_iload_n hx hb dX12_undo_33 rfl (lv_at hl 0 rfl) ?_
          refine lv_iadd hx hb dX12_undo_34 ?_
          refine lv_topi (fun z_6 ez_6 => ?_)
          have iz_6 : z_6.toInt = 10 + v1_21.toInt := k_addI ez_6 (by decide) rfl (by omega)
          refine lv_aload_n hx hb dX12_undo_35 rfl (lv_at hl 1 rfl) ?_
          refine va_get (D := D) (ci := 12) (v := .ref a_wasSaid) (C := RX12) (T := TX12) (N := 39) hx hb hG inG_X12 hown hE.1 hP 0 rfl rfl 26 (by decide) (hG _ q_f_X12_55) (fun _ h9 => h9) rfl dX12_undo_36 ?_
          refine lv_bipush (v := 30) hx hb dX12_undo_39 (by decide) ?_
          refine lv_aload_n hx hb dX12_undo_41 rfl (lv_at hl 1 rfl) ?_
          refine va_get (D := D) (ci := 12) (v := .int z_3) (C := RX12) (T := TX12) (N := 39) hx hb hG inG_X12 hown hE.1 hP 0 rfl rfl 27 (by decide) (hG _ q_f_X12_276) (fun _ h9 => h9) rfl dX12_undo_42 ?_
          refine lv_imul hx hb dX12_undo_45 ?_
          refine lv_topi (fun z_7 ez_7 => ?_)
          have iz_7 : z_7.toInt = 30 * z_3.toInt := k_mulI ez_7 (by decide) rfl (by omega)
          refine lv_iload_n hx hb dX12_undo_46 rfl (lv_at hl 0 rfl) ?_
          refine lv_iadd hx hb dX12_undo_47 ?_
          refine lv_topi (fun z_8 ez_8 => ?_)
          have iz_8 : z_8.toInt = z_7.toInt + v1_21.toInt := k_addI ez_8 rfl rfl (by omega)
          have uv := UV.at p2 z_3 v1_21 z_8 (by omega) (by omega) (by omega) (by omega)
          refine va_iald hx hb hE.1 hP 2 0 rfl rfl (k_in (by omega)) dX12_undo_48 ?_
          refine k_top (z := (g_wasSaid (Int32.toNatClampNeg z_8))) rfl ?_
          refine va_iast hx hb hE.1 hP hD hS 1 0 rfl rfl (k_in (by omega)) dX12_undo_49 (fun H locs hP hD hS => ?_)
          have hr_10 : PR g_said (upd ga_said_21 (Int32.toNatClampNeg z_6) (g_wasSaid (Int32.toNatClampNeg z_8))) := hga_said_21.put z_6 (g_wasSaid (Int32.toNatClampNeg z_8)) (by omega) (by omega)
          generalize upd ga_said_21 (Int32.toNatClampNeg z_6) (g_wasSaid (Int32.toNatClampNeg z_8)) = fn_9 at hP hD hr_10
          have hP : va_P D vwCl [(m0, .inr (12, [.ref a_tape, .int f_taped, .int f_rules, .ref a_sign, .ref a_length, .ref a_clause, .ref a_clauses, .ref a_read, .int f_next, .int f_wrong, .int f_number, .int f_text, .int f_made, .int f_deep, .int f_lines, .ref a_open, .int f_opened, .ref a_stack, .int f_top, .ref a_word, .ref a_said, .int f_force, .int f_x, .int f_windAlone, .ref a_planned, .ref a_cameOf, .ref a_wasSaid, .int z_3, .ref a_kept, .ref a_rowNow, .ref a_rowBest, .ref a_hasBy, .ref a_isFit, .ref a_cameThen, .long f_drawX, .ref a_images, .ref a_imageForce, .ref a_imageX, .ref a_isMade])), (a_said, .inl (cy 0, 115, .inl fn_9)), (a_wasSaid, .inl (cy 0, 600, .inl g_wasSaid))] H := hP
          have hD : va_D A [(m0, .inr (12, [.ref a_tape, .int f_taped, .int f_rules, .ref a_sign, .ref a_length, .ref a_clause, .ref a_clauses, .ref a_read, .int f_next, .int f_wrong, .int f_number, .int f_text, .int f_made, .int f_deep, .int f_lines, .ref a_open, .int f_opened, .ref a_stack, .int f_top, .ref a_word, .ref a_said, .int f_force, .int f_x, .int f_windAlone, .ref a_planned, .ref a_cameOf, .ref a_wasSaid, .int z_3, .ref a_kept, .ref a_rowNow, .ref a_rowBest, .ref a_hasBy, .ref a_isFit, .ref a_cameThen, .long f_drawX, .ref a_images, .ref a_imageForce, .ref a_imageX, .ref a_isMade])), (a_said, .inl (cy 0, 115, .inl fn_9)), (a_wasSaid, .inl (cy 0, 600, .inl g_wasSaid))] := hD
          obtain ⟨⟨b_11a, b_11b⟩, ⟨b_11c, b_11d⟩, ⟨b_11e, b_11f⟩, ⟨b_11g, b_11h⟩⟩ := SV.bounds (PR.sv hr_10)
          have b_115 := PR.e5 hr_10
          have b_114 := PR.e4 hr_10
          have b_11114 := PR.e114 hr_10
          obtain ⟨z_12, ez_12⟩ : ∃ y : Int32, y = v1_21 + Int32.ofInt 1 := ⟨_, rfl⟩
          have iz_12 : z_12.toInt = v1_21.toInt + 1 := k_addI ez_12 rfl (by decide) (by omega)
          refine lv_iinc (v := z_12) (lv' := [(1, .int z_12), (0, .ref m0)]) hx hb dX12_undo_50 hl (k := 0) rfl ez_12.symm (by decide) rfl (fun ls hl => ?_)
          refine lv_goto (tgt := 21) hx hb dX12_undo_53 (by decide) ?_
          exact ih21 z_12 fn_9 _ _ ls hr_10 (by first | omega | assumption) (by first | omega | assumption) (by omega) hP hD hS (lv_sub hl [0, 1] rfl)
    have lt_13 : (0 : Int32).toInt = 0 := by decide
    exact lp21 100000 0 g_said _ _ ls hr0_g_said (by first | omega | assumption) (by first | omega | assumption) (by omega) hP hD hS hl
  · have ic_2 : f_undone.toInt = 0 := k_eq c_2 rfl (by decide)
    refine lv_iconst (v := (-1)) hx hb dX12_undo_7 (by decide) ?_
    have lit0 : ((-1) : Int32).toInt = (-1) := by decide
    exact KI.rt ⟨f_undone, g_said⟩ F rfl (hP.sub [0, 1, 2] rfl) (hD.sub [0, 1, 2] (by decide) rfl) hS (show PR g_said g_said ∧ (0 ≤ f_undone.toInt) ∧ (f_undone.toInt ≤ f_undone.toInt) from ⟨hr0_g_said, (by first | omega | assumption), (by first | omega | assumption)⟩) (Nat.le_of_ble_eq_true rfl) (Nat.le_of_ble_eq_true rfl) dX12_undo_8
