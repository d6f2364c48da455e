set_option maxHeartbeats 4000000 in
set_option maxRecDepth 100000 in
theorem cm_begins0 (l : Launch) (D : va_G) (cy : Nat → ClassId) (m0 : Nat) (a_tape : Nat) (a_sign : Nat) (a_length : Nat) (a_clause : Nat) (a_clauses : Nat) (a_read : Nat) (a_open : Nat) (a_stack : Nat) (a_word : Nat) (a_said : Nat) (a_planned : Nat) (a_cameOf : Nat) (a_wasSaid : Nat) (a_kept : Nat) (a_rowNow : Nat) (a_rowBest : Nat) (a_hasBy : Nat) (a_isFit : Nat) (a_cameThen : Nat) (a_images : Nat) (a_imageForce : Nat) (a_imageX : Nat) (a_isMade : Nat) (f_taped : Int32) (f_rules : Int32) (f_next : Int32) (f_wrong : Int32) (f_number : Int32) (f_text : Int32) (f_made : Int32) (f_deep : Int32) (f_lines : Int32) (f_opened : Int32) (f_top : Int32) (f_force : Int32) (f_x : Int32) (f_windAlone : Int32) (f_undone : Int32) (f_drawX : Int64) (g_said : Nat → Int32) (g_planned : Nat → Int32) (h_g_said : SV g_said) (h_g_planned : PLV g_planned) : KV l yX12_begins cX12_begins 3 0 0 D (kTY cy) [.ref m0] [(m0, .inr (12, [.ref a_tape, .int f_taped, .int f_rules, .ref a_sign, .ref a_length, .ref a_clause, .ref a_clauses, .ref a_read, .int f_next, .int f_wrong, .int f_number, .int f_text, .int f_made, .int f_deep, .int f_lines, .ref a_open, .int f_opened, .ref a_stack, .int f_top, .ref a_word, .ref a_said, .int f_force, .int f_x, .int f_windAlone, .ref a_planned, .ref a_cameOf, .ref a_wasSaid, .int f_undone, .ref a_kept, .ref a_rowNow, .ref a_rowBest, .ref a_hasBy, .ref a_isFit, .ref a_cameThen, .long f_drawX, .ref a_images, .ref a_imageForce, .ref a_imageX, .ref a_isMade])), (a_said, .inl (cy 0, 115, .inl g_said)), (a_planned, .inl (cy 0, 5, .inl g_planned))] (S := (Nat → Int32) × (Nat → Int32)) (fun u => NB g_said (u.1) ∧ PLV (u.2) ∧ (SK (u.1) ((g_said 5).toInt))) (fun u => [(m0, .inr (12, [.ref a_tape, .int f_taped, .int f_rules, .ref a_sign, .ref a_length, .ref a_clause, .ref a_clauses, .ref a_read, .int f_next, .int f_wrong, .int f_number, .int f_text, .int f_made, .int f_deep, .int f_lines, .ref a_open, .int f_opened, .ref a_stack, .int f_top, .ref a_word, .ref a_said, .int f_force, .int f_x, .int f_windAlone, .ref a_planned, .ref a_cameOf, .ref a_wasSaid, .int f_undone, .ref a_kept, .ref a_rowNow, .ref a_rowBest, .ref a_hasBy, .ref a_isFit, .ref a_cameThen, .long f_drawX, .ref a_images, .ref a_imageForce, .ref a_imageX, .ref a_isMade])), (a_said, .inl (cy 0, 115, .inl (u.1))), (a_planned, .inl (cy 0, 5, .inl (u.2)))]) 0 0 := by
  refine KV.of (by decide) (Nat.le_of_ble_eq_true rfl) (fun p e s m below meth c ls A F hin hE hP hD hA hS hl => ?_)
  have F : kF p s m meth c cX12_begins 3 none _ RX12 := F
  obtain ⟨hx, hb, hr, hml, hown, hG, hlk⟩ := id F
  have hl : lv_has ls 3 [(0, .ref m0)] := hl
  have hr0_g_said : NB g_said g_said := NB.refl h_g_said
  obtain ⟨⟨b_1a, b_1b⟩, ⟨b_1c, b_1d⟩, ⟨b_1e, b_1f⟩, ⟨b_1g, b_1h⟩⟩ := SV.bounds h_g_said
  refine lv_bipush (v := 10) hx hb dX12_begins_0 (by decide) ?_
  refine lv_istore_n (lv' := [(1, .int 10), (0, .ref m0)]) hx hb dX12_begins_2 rfl hl (by decide) rfl (fun ls hl => ?_)
  have lp3 : ∀ (fu : Nat) (v1_3 : Int32) (ga_said_3 : Nat → Int32) (H : Heap) (locs : List Loc) (ls : Array Slot), NB g_said ga_said_3 → 10 ≤ v1_3.toInt → v1_3.toInt ≤ 40 → 40 - v1_3.toInt < (fu : Int) → va_P D vwCl [(m0, .inr (12, [.ref a_tape, .int f_taped, .int f_rules, .ref a_sign, .ref a_length, .ref a_clause, .ref a_clauses, .ref a_read, .int f_next, .int f_wrong, .int f_number, .int f_text, .int f_made, .int f_deep, .int f_lines, .ref a_open, .int f_opened, .ref a_stack, .int f_top, .ref a_word, .ref a_said, .int f_force, .int f_x, .int f_windAlone, .ref a_planned, .ref a_cameOf, .ref a_wasSaid, .int f_undone, .ref a_kept, .ref a_rowNow, .ref a_rowBest, .ref a_hasBy, .ref a_isFit, .ref a_cameThen, .long f_drawX, .ref a_images, .ref a_imageForce, .ref a_imageX, .ref a_isMade])), (a_said, .inl (cy 0, 115, .inl ga_said_3)), (a_planned, .inl (cy 0, 5, .inl g_planned))] H → va_D A [(m0, .inr (12, [.ref a_tape, .int f_taped, .int f_rules, .ref a_sign, .ref a_length, .ref a_clause, .ref a_clauses, .ref a_read, .int f_next, .int f_wrong, .int f_number, .int f_text, .int f_made, .int f_deep, .int f_lines, .ref a_open, .int f_opened, .ref a_stack, .int f_top, .ref a_word, .ref a_said, .int f_force, .int f_x, .int f_windAlone, .ref a_planned, .ref a_cameOf, .ref a_wasSaid, .int f_undone, .ref a_kept, .ref a_rowNow, .ref a_rowBest, .ref a_hasBy, .ref a_isFit, .ref a_cameThen, .long f_drawX, .ref a_images, .ref a_imageForce, .ref a_imageX, .ref a_isMade])), (a_said, .inl (cy 0, 115, .inl ga_said_3)), (a_planned, .inl (cy 0, 5, .inl g_planned))] → va_S A s.heap H locs → lv_has ls 3 [(1, .int v1_3), (0, .ref m0)] → W p l e (kRm 0 0 0 0) s m ([.ref m0] : List Value).toArray below meth c H locs 0 0 (MQ below (va_Qv (S := (Nat → Int32) × (Nat → Int32)) (fun u => NB g_said (u.1) ∧ PLV (u.2) ∧ (SK (u.1) ((g_said 5).toInt))) (kBw D A (fun u => [(m0, .inr (12, [.ref a_tape, .int f_taped, .int f_rules, .ref a_sign, .ref a_length, .ref a_clause, .ref a_clauses, .ref a_read, .int f_next, .int f_wrong, .int f_number, .int f_text, .int f_made, .int f_deep, .int f_lines, .ref a_open, .int f_opened, .ref a_stack, .int f_top, .ref a_word, .ref a_said, .int f_force, .int f_x, .int f_windAlone, .ref a_planned, .ref a_cameOf, .ref a_wasSaid, .int f_undone, .ref a_kept, .ref a_rowNow, .ref a_rowBest, .ref a_hasBy, .ref a_isFit, .ref a_cameThen, .long f_drawX, .ref a_images, .ref a_imageForce, .ref a_imageX, .ref a_isMade])), (a_said, .inl (cy 0, 115, .inl (u.1))), (a_planned, .inl (cy 0, 5, .inl (u.2)))])) A) ([.ref m0] : List Value).toArray s 0 0 A) (F0 m 3 ls []) := by
    intro fu3
    induction fu3 with
    | zero =>
      intro v1_3 ga_said_3 H locs ls hga_said_3 j0_3 j1_3 hm3 hP hD hS hl
      exact absurd hm3 (by omega)
    | succ fu3 ih3 =>
      intro v1_3 ga_said_3 H locs ls hga_said_3 j0_3 j1_3 hm3 hP hD hS hl
      have b_25 := NB.e5 hga_said_3
      refine lv_iload_n hx hb dX12_begins_3 rfl (lv_at hl 0 rfl) ?_
      refine lv_bipush (v := 40) hx hb dX12_begins_4 (by decide) ?_
      refine lv_icmp_ge (tgt := 22) hx hb dX12_begins_6 (by decide) (fun c_3 => ?_) (fun c_3 => ?_)
      · have ic_3 : 40 ≤ v1_3.toInt := k_le c_3 (by decide) rfl
        refine lv_iconst (v := 0) hx hb dX12_begins_22 (by decide) ?_
        refine lv_istore_n (lv' := [(1, .int 0), (0, .ref m0)]) hx hb dX12_begins_23 rfl hl (by decide) rfl (fun ls hl => ?_)
        have lp24 : ∀ (fu : Nat) (v1_24 : Int32) (ga_said_24 : Nat → Int32) (H : Heap) (locs : List Loc) (ls : Array Slot), NB g_said ga_said_24 → 0 ≤ v1_24.toInt → v1_24.toInt ≤ 6 → 6 - v1_24.toInt < (fu : Int) → va_P D vwCl [(m0, .inr (12, [.ref a_tape, .int f_taped, .int f_rules, .ref a_sign, .ref a_length, .ref a_clause, .ref a_clauses, .ref a_read, .int f_next, .int f_wrong, .int f_number, .int f_text, .int f_made, .int f_deep, .int f_lines, .ref a_open, .int f_opened, .ref a_stack, .int f_top, .ref a_word, .ref a_said, .int f_force, .int f_x, .int f_windAlone, .ref a_planned, .ref a_cameOf, .ref a_wasSaid, .int f_undone, .ref a_kept, .ref a_rowNow, .ref a_rowBest, .ref a_hasBy, .ref a_isFit, .ref a_cameThen, .long f_drawX, .ref a_images, .ref a_imageForce, .ref a_imageX, .ref a_isMade])), (a_said, .inl (cy 0, 115, .inl ga_said_24)), (a_planned, .inl (cy 0, 5, .inl g_planned))] H → va_D A [(m0, .inr (12, [.ref a_tape, .int f_taped, .int f_rules, .ref a_sign, .ref a_length, .ref a_clause, .ref a_clauses, .ref a_read, .int f_next, .int f_wrong, .int f_number, .int f_text, .int f_made, .int f_deep, .int f_lines, .ref a_open, .int f_opened, .ref a_stack, .int f_top, .ref a_word, .ref a_said, .int f_force, .int f_x, .int f_windAlone, .ref a_planned, .ref a_cameOf, .ref a_wasSaid, .int f_undone, .ref a_kept, .ref a_rowNow, .ref a_rowBest, .ref a_hasBy, .ref a_isFit, .ref a_cameThen, .long f_drawX, .ref a_images, .ref a_imageForce, .ref a_imageX, .ref a_isMade])), (a_said, .inl (cy 0, 115, .inl ga_said_24)), (a_planned, .inl (cy 0, 5, .inl g_planned))] → va_S A s.heap H locs → lv_has ls 3 [(1, .int v1_24), (0, .ref m0)] → W p l e (kRm 0 0 0 0) s m ([.ref m0] : List Value).toArray below meth c H locs 0 0 (MQ below (va_Qv (S := (Nat → Int32) × (Nat → Int32)) (fun u => NB g_said (u.1) ∧ PLV (u.2) ∧ (SK (u.1) ((g_said 5).toInt))) (kBw D A (fun u => [(m0, .inr (12, [.ref a_tape, .int f_taped, .int f_rules, .ref a_sign, .ref a_length, .ref a_clause, .ref a_clauses, .ref a_read, .int f_next, .int f_wrong, .int f_number, .int f_text, .int f_made, .int f_deep, .int f_lines, .ref a_open, .int f_opened, .ref a_stack, .int f_top, .ref a_word, .ref a_said, .int f_force, .int f_x, .int f_windAlone, .ref a_planned, .ref a_cameOf, .ref a_wasSaid, .int f_undone, .ref a_kept, .ref a_rowNow, .ref a_rowBest, .ref a_hasBy, .ref a_isFit, .ref a_cameThen, .long f_drawX, .ref a_images, .ref a_imageForce, .ref a_imageX, .ref a_isMade])), (a_said, .inl (cy 0, 115, .inl (u.1))), (a_planned, .inl (cy 0, 5, .inl (u.2)))])) A) ([.ref m0] : List Value).toArray s 0 0 A) (F0 m 24 ls []) := by
          intro fu24
          induction fu24 with
          | zero =>
            intro v1_24 ga_said_24 H locs ls hga_said_24 j0_24 j1_24 hm24 hP hD hS hl
            exact absurd hm24 (by omega)
          | succ fu24 ih24 =>
            intro v1_24 ga_said_24 H locs ls hga_said_24 j0_24 j1_24 hm24 hP hD hS hl
            have b_45 := NB.e5 hga_said_24
            refine lv_iload_n hx hb dX12_begins_24 rfl (lv_at hl 0 rfl) ?_
            refine lv_bipush (v := 6) hx hb dX12_begins_25 (by decide) ?_
            refine lv_icmp_ge (tgt := 54) hx hb dX12_begins_27 (by decide) (fun c_5 => ?_) (fun c_5 => ?_)
            · have ic_5 : 6 ≤ v1_24.toInt := k_le c_5 (by decide) rfl
              refine lv_iconst (v := 0) hx hb dX12_begins_54 (by decide) ?_
              refine lv_istore_n (lv' := [(1, .int 0), (0, .ref m0)]) hx hb dX12_begins_55 rfl hl (by decide) rfl (fun ls hl => ?_)
              have lp56 : ∀ (fu : Nat) (v1_56 : Int32) (ga_said_56 : Nat → Int32) (H : Heap) (locs : List Loc) (ls : Array Slot), NB g_said ga_said_56 → 0 ≤ v1_56.toInt → v1_56.toInt ≤ 5 → SK ga_said_56 v1_56.toInt → 5 - v1_56.toInt < (fu : Int) → va_P D vwCl [(m0, .inr (12, [.ref a_tape, .int f_taped, .int f_rules, .ref a_sign, .ref a_length, .ref a_clause, .ref a_clauses, .ref a_read, .int f_next, .int f_wrong, .int f_number, .int f_text, .int f_made, .int f_deep, .int f_lines, .ref a_open, .int f_opened, .ref a_stack, .int f_top, .ref a_word, .ref a_said, .int f_force, .int f_x, .int f_windAlone, .ref a_planned, .ref a_cameOf, .ref a_wasSaid, .int f_undone, .ref a_kept, .ref a_rowNow, .ref a_rowBest, .ref a_hasBy, .ref a_isFit, .ref a_cameThen, .long f_drawX, .ref a_images, .ref a_imageForce, .ref a_imageX, .ref a_isMade])), (a_said, .inl (cy 0, 115, .inl ga_said_56)), (a_planned, .inl (cy 0, 5, .inl g_planned))] H → va_D A [(m0, .inr (12, [.ref a_tape, .int f_taped, .int f_rules, .ref a_sign, .ref a_length, .ref a_clause, .ref a_clauses, .ref a_read, .int f_next, .int f_wrong, .int f_number, .int f_text, .int f_made, .int f_deep, .int f_lines, .ref a_open, .int f_opened, .ref a_stack, .int f_top, .ref a_word, .ref a_said, .int f_force, .int f_x, .int f_windAlone, .ref a_planned, .ref a_cameOf, .ref a_wasSaid, .int f_undone, .ref a_kept, .ref a_rowNow, .ref a_rowBest, .ref a_hasBy, .ref a_isFit, .ref a_cameThen, .long f_drawX, .ref a_images, .ref a_imageForce, .ref a_imageX, .ref a_isMade])), (a_said, .inl (cy 0, 115, .inl ga_said_56)), (a_planned, .inl (cy 0, 5, .inl g_planned))] → va_S A s.heap H locs → lv_has ls 3 [(1, .int v1_56), (0, .ref m0)] → W p l e (kRm 0 0 0 0) s m ([.ref m0] : List Value).toArray below meth c H locs 0 0 (MQ below (va_Qv (S := (Nat → Int32) × (Nat → Int32)) (fun u => NB g_said (u.1) ∧ PLV (u.2) ∧ (SK (u.1) ((g_said 5).toInt))) (kBw D A (fun u => [(m0, .inr (12, [.ref a_tape, .int f_taped, .int f_rules, .ref a_sign, .ref a_length, .ref a_clause, .ref a_clauses, .ref a_read, .int f_next, .int f_wrong, .int f_number, .int f_text, .int f_made, .int f_deep, .int f_lines, .ref a_open, .int f_opened, .ref a_stack, .int f_top, .ref a_word, .ref a_said, .int f_force, .int f_x, .int f_windAlone, .ref a_planned, .ref a_cameOf, .ref a_wasSaid, .int f_undone, .ref a_kept, .ref a_rowNow, .ref a_rowBest, .ref a_hasBy, .ref a_isFit, .ref a_cameThen, .long f_drawX, .ref a_images, .ref a_imageForce, .ref a_imageX, .ref a_isMade])), (a_said, .inl (cy 0, 115, .inl (u.1))), (a_planned, .inl (cy 0, 5, .inl (u.2)))])) A) ([.ref m0] : List Value).toArray s 0 0 A) (F0 m 56 ls []) := by
                intro fu56
                induction fu56 with
                | zero =>
                  intro v1_56 ga_said_56 H locs ls hga_said_56 j0_56 j1_56 j2_56 hm56 hP hD hS hl
                  exact absurd hm56 (by omega)
                | succ fu56 ih56 =>
                  intro v1_56 ga_said_56 H locs ls hga_said_56 j0_56 j1_56 j2_56 hm56 hP hD hS hl
                  have b_65 := NB.e5 hga_said_56
                  refine lv_iload_n hx hb dX12_begins_56 rfl (lv_at hl 0 rfl) ?_
                  refine lv_aload_n hx hb dX12_begins_57 rfl (lv_at hl 1 rfl) ?_
                  refine va_get (D := D) (ci := 12) (v := .ref a_said) (C := RX12) (T := TX12) (N := 39) hx hb hG inG_X12 hown hE.1 hP 0 rfl rfl 20 (by decide) (hG _ q_f_X12_39) (fun _ h9 => h9) rfl dX12_begins_58 ?_
                  refine lv_iconst (v := 5) hx hb dX12_begins_61 (by decide) ?_
                  refine va_iald hx hb hE.1 hP 1 0 rfl rfl (by unfold vp_in; decide) dX12_begins_62 ?_
                  refine k_top (z := (ga_said_56 5)) rfl ?_
                  refine lv_icmp_ge (tgt := 131) hx hb dX12_begins_63 (by decide) (fun c_7 => ?_) (fun c_7 => ?_)
                  · have ic_7 : (ga_said_56 5).toInt ≤ v1_56.toInt := k_le c_7 rfl rfl
                    have skE := SK.of (k' := (g_said 5).toInt) j2_56 (by omega)
                    refine lv_iconst (v := 0) hx hb dX12_begins_131 (by decide) ?_
                    refine lv_istore_n (lv' := [(1, .int 0), (0, .ref m0)]) hx hb dX12_begins_132 rfl hl (by decide) rfl (fun ls hl => ?_)
                    have lp133 : ∀ (fu : Nat) (v1_133 : Int32) (ga_planned_133 : Nat → Int32) (H : Heap) (locs : List Loc) (ls : Array Slot), PLV ga_planned_133 → 0 ≤ v1_133.toInt → v1_133.toInt ≤ 5 → 5 - v1_133.toInt < (fu : Int) → va_P D vwCl [(m0, .inr (12, [.ref a_tape, .int f_taped, .int f_rules, .ref a_sign, .ref a_length, .ref a_clause, .ref a_clauses, .ref a_read, .int f_next, .int f_wrong, .int f_number, .int f_text, .int f_made, .int f_deep, .int f_lines, .ref a_open, .int f_opened, .ref a_stack, .int f_top, .ref a_word, .ref a_said, .int f_force, .int f_x, .int f_windAlone, .ref a_planned, .ref a_cameOf, .ref a_wasSaid, .int f_undone, .ref a_kept, .ref a_rowNow, .ref a_rowBest, .ref a_hasBy, .ref a_isFit, .ref a_cameThen, .long f_drawX, .ref a_images, .ref a_imageForce, .ref a_imageX, .ref a_isMade])), (a_said, .inl (cy 0, 115, .inl ga_said_56)), (a_planned, .inl (cy 0, 5, .inl ga_planned_133))] H → va_D A [(m0, .inr (12, [.ref a_tape, .int f_taped, .int f_rules, .ref a_sign, .ref a_length, .ref a_clause, .ref a_clauses, .ref a_read, .int f_next, .int f_wrong, .int f_number, .int f_text, .int f_made, .int f_deep, .int f_lines, .ref a_open, .int f_opened, .ref a_stack, .int f_top, .ref a_word, .ref a_said, .int f_force, .int f_x, .int f_windAlone, .ref a_planned, .ref a_cameOf, .ref a_wasSaid, .int f_undone, .ref a_kept, .ref a_rowNow, .ref a_rowBest, .ref a_hasBy, .ref a_isFit, .ref a_cameThen, .long f_drawX, .ref a_images, .ref a_imageForce, .ref a_imageX, .ref a_isMade])), (a_said, .inl (cy 0, 115, .inl ga_said_56)), (a_planned, .inl (cy 0, 5, .inl ga_planned_133))] → va_S A s.heap H locs → lv_has ls 3 [(1, .int v1_133), (0, .ref m0)] → W p l e (kRm 0 0 0 0) s m ([.ref m0] : List Value).toArray below meth c H locs 0 0 (MQ below (va_Qv (S := (Nat → Int32) × (Nat → Int32)) (fun u => NB g_said (u.1) ∧ PLV (u.2) ∧ (SK (u.1) ((g_said 5).toInt))) (kBw D A (fun u => [(m0, .inr (12, [.ref a_tape, .int f_taped, .int f_rules, .ref a_sign, .ref a_length, .ref a_clause, .ref a_clauses, .ref a_read, .int f_next, .int f_wrong, .int f_number, .int f_text, .int f_made, .int f_deep, .int f_lines, .ref a_open, .int f_opened, .ref a_stack, .int f_top, .ref a_word, .ref a_said, .int f_force, .int f_x, .int f_windAlone, .ref a_planned, .ref a_cameOf, .ref a_wasSaid, .int f_undone, .ref a_kept, .ref a_rowNow, .ref a_rowBest, .ref a_hasBy, .ref a_isFit, .ref a_cameThen, .long f_drawX, .ref a_images, .ref a_imageForce, .ref a_imageX, .ref a_isMade])), (a_said, .inl (cy 0, 115, .inl (u.1))), (a_planned, .inl (cy 0, 5, .inl (u.2)))])) A) ([.ref m0] : List Value).toArray s 0 0 A) (F0 m 133 ls []) := by
                      intro fu133
                      induction fu133 with
                      | zero =>
                        intro v1_133 ga_planned_133 H locs ls hga_planned_133 j0_133 j1_133 hm133 hP hD hS hl
                        exact absurd hm133 (by omega)
                      | succ fu133 ih133 =>
                        intro v1_133 ga_planned_133 H locs ls hga_planned_133 j0_133 j1_133 hm133 hP hD hS hl
                        refine lv_iload_n hx hb dX12_begins_133 rfl (lv_at hl 0 rfl) ?_
                        refine lv_iconst (v := 5) hx hb dX12_begins_134 (by decide) ?_
                        refine lv_icmp_ge (tgt := 151) hx hb dX12_begins_135 (by decide) (fun c_8 => ?_) (fun c_8 => ?_)
                        · have ic_8 : 5 ≤ v1_133.toInt := k_le c_8 (by decide) rfl
                          exact KV.rt ⟨ga_said_56, ga_planned_133⟩ F (hP.sub [0, 1, 2] rfl) (hD.sub [0, 1, 2] (by decide) rfl) hS (show NB g_said ga_said_56 ∧ PLV ga_planned_133 ∧ (SK ga_said_56 ((g_said 5).toInt)) from ⟨hga_said_56, hga_planned_133, skE⟩) (Nat.le_of_ble_eq_true rfl) (Nat.le_of_ble_eq_true rfl) dX12_begins_151
                        · have ic_8 : v1_133.toInt < 5 := k_nle c_8 (by decide) rfl
                          refine lv_aload_n hx hb dX12_begins_138 rfl (lv_at hl 1 rfl) ?_
                          refine va_get (D := D) (ci := 12) (v := .ref a_planned) (C := RX12) (T := TX12) (N := 39) hx hb hG inG_X12 hown hE.1 hP 0 rfl rfl 24 (by decide) (hG _ q_f_X12_49) (fun _ h9 => h9) rfl dX12_begins_139 ?_
                          refine lv_iload_n hx hb dX12_begins_142 rfl (lv_at hl 0 rfl) ?_
                          refine lv_iconst (v := (-1)) hx hb dX12_begins_143 (by decide) ?_
                          refine va_iast hx hb hE.1 hP hD hS 2 0 rfl rfl (k_in (by omega)) dX12_begins_144 (fun H locs hP hD hS => ?_)
                          have hr_10 : PLV (upd ga_planned_133 (Int32.toNatClampNeg v1_133) (-1)) := hga_planned_133.put _ ((-1) : Int32) (by rw [show ((-1) : Int32).toInt = (-1) from by decide]; omega)
                          generalize upd ga_planned_133 (Int32.toNatClampNeg v1_133) (-1) = fn_9 at hP hD hr_10
                          have hP : va_P D vwCl [(m0, .inr (12, [.ref a_tape, .int f_taped, .int f_rules, .ref a_sign, .ref a_length, .ref a_clause, .ref a_clauses, .ref a_read, .int f_next, .int f_wrong, .int f_number, .int f_text, .int f_made, .int f_deep, .int f_lines, .ref a_open, .int f_opened, .ref a_stack, .int f_top, .ref a_word, .ref a_said, .int f_force, .int f_x, .int f_windAlone, .ref a_planned, .ref a_cameOf, .ref a_wasSaid, .int f_undone, .ref a_kept, .ref a_rowNow, .ref a_rowBest, .ref a_hasBy, .ref a_isFit, .ref a_cameThen, .long f_drawX, .ref a_images, .ref a_imageForce, .ref a_imageX, .ref a_isMade])), (a_said, .inl (cy 0, 115, .inl ga_said_56)), (a_planned, .inl (cy 0, 5, .inl fn_9))] H := hP
                          have hD : va_D A [(m0, .inr (12, [.ref a_tape, .int f_taped, .int f_rules, .ref a_sign, .ref a_length, .ref a_clause, .ref a_clauses, .ref a_read, .int f_next, .int f_wrong, .int f_number, .int f_text, .int f_made, .int f_deep, .int f_lines, .ref a_open, .int f_opened, .ref a_stack, .int f_top, .ref a_word, .ref a_said, .int f_force, .int f_x, .int f_windAlone, .ref a_planned, .ref a_cameOf, .ref a_wasSaid, .int f_undone, .ref a_kept, .ref a_rowNow, .ref a_rowBest, .ref a_hasBy, .ref a_isFit, .ref a_cameThen, .long f_drawX, .ref a_images, .ref a_imageForce, .ref a_imageX, .ref a_isMade])), (a_said, .inl (cy 0, 115, .inl ga_said_56)), (a_planned, .inl (cy 0, 5, .inl fn_9))] := hD
                          obtain ⟨z_11, ez_11⟩ : ∃ y : Int32, y = v1_133 + Int32.ofInt 1 := ⟨_, rfl⟩
                          have iz_11 : z_11.toInt = v1_133.toInt + 1 := k_addI ez_11 rfl (by decide) (by omega)
                          refine lv_iinc (v := z_11) (lv' := [(1, .int z_11), (0, .ref m0)]) hx hb dX12_begins_145 hl (k := 0) rfl ez_11.symm (by decide) rfl (fun ls hl => ?_)
                          refine lv_goto (tgt := 133) hx hb dX12_begins_148 (by decide) ?_
                          exact ih133 z_11 fn_9 _ _ ls hr_10 (by first | omega | assumption) (by first | omega | assumption) (by omega) hP hD hS (lv_sub hl [0, 1] rfl)
                    have lt_12 : (0 : Int32).toInt = 0 := by decide
                    exact lp133 100000 0 g_planned _ _ ls h_g_planned (by first | omega | assumption) (by first | omega | assumption) (by omega) hP hD hS hl
                  · have ic_7 : v1_56.toInt < (ga_said_56 5).toInt := k_nle c_7 rfl rfl
                    refine lv_bipush (v := 25) hx hb dX12_begins_66 (by decide) ?_
                    refine lv_iconst (v := 3) hx hb dX12_begins_68 (by decide) ?_
                    refine lv_iload_n hx hb dX12_begins_69 rfl (lv_at hl 0 rfl) ?_
                    refine lv_imul hx hb dX12_begins_70 ?_
                    refine lv_topi (fun z_13 ez_13 => ?_)
                    have iz_13 : z_13.toInt = 3 * v1_56.toInt := k_mulI ez_13 (by decide) rfl (by omega)
                    refine lv_iadd hx hb dX12_begins_71 ?_
                    refine lv_topi (fun z_14 ez_14 => ?_)
                    have iz_14 : z_14.toInt = 25 + z_13.toInt := k_addI ez_14 (by decide) rfl (by omega)
                    refine lv_istore_n (lv' := [(2, .int z_14), (1, .int v1_56), (0, .ref m0)]) hx hb dX12_begins_72 rfl hl (by decide) rfl (fun ls hl => ?_)
                    refine lv_aload_n hx hb dX12_begins_73 rfl (lv_at hl 2 rfl) ?_
                    refine va_get (D := D) (ci := 12) (v := .ref a_said) (C := RX12) (T := TX12) (N := 39) hx hb hG inG_X12 hown hE.1 hP 0 rfl rfl 20 (by decide) (hG _ q_f_X12_39) (fun _ h9 => h9) rfl dX12_begins_74 ?_
                    refine lv_iload_n hx hb dX12_begins_77 rfl (lv_at hl 0 rfl) ?_
                    refine lv_aload_n hx hb dX12_begins_78 rfl (lv_at hl 2 rfl) ?_
                    refine va_get (D := D) (ci := 12) (v := .ref a_said) (C := RX12) (T := TX12) (N := 39) hx hb hG inG_X12 hown hE.1 hP 0 rfl rfl 20 (by decide) (hG _ q_f_X12_39) (fun _ h9 => h9) rfl dX12_begins_79 ?_
                    refine lv_bipush (v := 74) hx hb dX12_begins_82 (by decide) ?_
                    refine lv_iconst (v := 2) hx hb dX12_begins_84 (by decide) ?_
                    refine lv_iload_n hx hb dX12_begins_85 rfl (lv_at hl 1 rfl) ?_
                    refine lv_imul hx hb dX12_begins_86 ?_
                    refine lv_topi (fun z_15 ez_15 => ?_)
                    have iz_15 : z_15.toInt = 2 * v1_56.toInt := k_mulI ez_15 (by decide) rfl (by omega)
                    refine lv_iadd hx hb dX12_begins_87 ?_
                    refine lv_topi (fun z_16 ez_16 => ?_)
                    have iz_16 : z_16.toInt = 74 + z_15.toInt := k_addI ez_16 (by decide) rfl (by omega)
                    have tl := NB.told hga_said_56 h_g_said z_16 v1_56.toInt (by omega)
                    refine va_iald hx hb hE.1 hP 1 0 rfl rfl (k_in (by omega)) dX12_begins_88 ?_
                    refine k_top (z := (ga_said_56 (Int32.toNatClampNeg z_16))) rfl ?_
                    refine va_iast hx hb hE.1 hP hD hS 1 0 rfl rfl (k_in (by omega)) dX12_begins_89 (fun H locs hP hD hS => ?_)
                    have sk_18 : SK (upd ga_said_56 (Int32.toNatClampNeg z_14) (ga_said_56 (Int32.toNatClampNeg z_16))) (v1_56.toInt + 1) := SK.put j2_56 z_14 (ga_said_56 (Int32.toNatClampNeg z_16)) (by omega) tl
                    have hr_19 : NB g_said (upd ga_said_56 (Int32.toNatClampNeg z_14) (ga_said_56 (Int32.toNatClampNeg z_16))) := hga_said_56.put z_14 (ga_said_56 (Int32.toNatClampNeg z_16)) (by omega)
                    generalize upd ga_said_56 (Int32.toNatClampNeg z_14) (ga_said_56 (Int32.toNatClampNeg z_16)) = fn_17 at hP hD sk_18 hr_19
                    have hP : va_P D vwCl [(m0, .inr (12, [.ref a_tape, .int f_taped, .int f_rules, .ref a_sign, .ref a_length, .ref a_clause, .ref a_clauses, .ref a_read, .int f_next, .int f_wrong, .int f_number, .int f_text, .int f_made, .int f_deep, .int f_lines, .ref a_open, .int f_opened, .ref a_stack, .int f_top, .ref a_word, .ref a_said, .int f_force, .int f_x, .int f_windAlone, .ref a_planned, .ref a_cameOf, .ref a_wasSaid, .int f_undone, .ref a_kept, .ref a_rowNow, .ref a_rowBest, .ref a_hasBy, .ref a_isFit, .ref a_cameThen, .long f_drawX, .ref a_images, .ref a_imageForce, .ref a_imageX, .ref a_isMade])), (a_said, .inl (cy 0, 115, .inl fn_17)), (a_planned, .inl (cy 0, 5, .inl g_planned))] H := hP
                    have hD : va_D A [(m0, .inr (12, [.ref a_tape, .int f_taped, .int f_rules, .ref a_sign, .ref a_length, .ref a_clause, .ref a_clauses, .ref a_read, .int f_next, .int f_wrong, .int f_number, .int f_text, .int f_made, .int f_deep, .int f_lines, .ref a_open, .int f_opened, .ref a_stack, .int f_top, .ref a_word, .ref a_said, .int f_force, .int f_x, .int f_windAlone, .ref a_planned, .ref a_cameOf, .ref a_wasSaid, .int f_undone, .ref a_kept, .ref a_rowNow, .ref a_rowBest, .ref a_hasBy, .ref a_isFit, .ref a_cameThen, .long f_drawX, .ref a_images, .ref a_imageForce, .ref a_imageX, .ref a_isMade])), (a_said, .inl (cy 0, 115, .inl fn_17)), (a_planned, .inl (cy 0, 5, .inl g_planned))] := hD
                    have b_205 := NB.e5 hr_19
                    refine lv_aload_n hx hb dX12_begins_90 rfl (lv_at hl 2 rfl) ?_
                    refine va_get (D := D) (ci := 12) (v := .ref a_said) (C := RX12) (T := TX12) (N := 39) hx hb hG inG_X12 hown hE.1 hP 0 rfl rfl 20 (by decide) (hG _ q_f_X12_39) (fun _ h9 => h9) rfl dX12_begins_91 ?_
                    refine lv_iload_n hx hb dX12_begins_94 rfl (lv_at hl 0 rfl) ?_
                    refine lv_iconst (v := 1) hx hb dX12_begins_95 (by decide) ?_
                    refine lv_iadd hx hb dX12_begins_96 ?_
                    refine lv_topi (fun z_21 ez_21 => ?_)
                    have iz_21 : z_21.toInt = z_14.toInt + 1 := k_addI ez_21 rfl (by decide) (by omega)
                    refine lv_aload_n hx hb dX12_begins_97 rfl (lv_at hl 2 rfl) ?_
                    refine va_get (D := D) (ci := 12) (v := .ref a_said) (C := RX12) (T := TX12) (N := 39) hx hb hG inG_X12 hown hE.1 hP 0 rfl rfl 20 (by decide) (hG _ q_f_X12_39) (fun _ h9 => h9) rfl dX12_begins_98 ?_
                    refine lv_bipush (v := 74) hx hb dX12_begins_101 (by decide) ?_
                    refine lv_iconst (v := 2) hx hb dX12_begins_103 (by decide) ?_
                    refine lv_iload_n hx hb dX12_begins_104 rfl (lv_at hl 1 rfl) ?_
                    refine lv_imul hx hb dX12_begins_105 ?_
                    refine lv_topi (fun z_22 ez_22 => ?_)
                    have iz_22 : z_22.toInt = 2 * v1_56.toInt := k_mulI ez_22 (by decide) rfl (by omega)
                    refine lv_iadd hx hb dX12_begins_106 ?_
                    refine lv_topi (fun z_23 ez_23 => ?_)
                    have iz_23 : z_23.toInt = 74 + z_22.toInt := k_addI ez_23 (by decide) rfl (by omega)
                    refine lv_iconst (v := 1) hx hb dX12_begins_107 (by decide) ?_
                    refine lv_iadd hx hb dX12_begins_108 ?_
                    refine lv_topi (fun z_24 ez_24 => ?_)
                    have iz_24 : z_24.toInt = z_23.toInt + 1 := k_addI ez_24 rfl (by decide) (by omega)
                    refine va_iald hx hb hE.1 hP 1 0 rfl rfl (k_in (by omega)) dX12_begins_109 ?_
                    refine k_top (z := (fn_17 (Int32.toNatClampNeg z_24))) rfl ?_
                    refine va_iast hx hb hE.1 hP hD hS 1 0 rfl rfl (k_in (by omega)) dX12_begins_110 (fun H locs hP hD hS => ?_)
                    have sk_26 : SK (upd fn_17 (Int32.toNatClampNeg z_21) (fn_17 (Int32.toNatClampNeg z_24))) (v1_56.toInt + 1) := SK.skip sk_18 z_21 (fn_17 (Int32.toNatClampNeg z_24)) (by omega)
                    have hr_27 : NB g_said (upd fn_17 (Int32.toNatClampNeg z_21) (fn_17 (Int32.toNatClampNeg z_24))) := hr_19.put z_21 (fn_17 (Int32.toNatClampNeg z_24)) (by omega)
                    generalize upd fn_17 (Int32.toNatClampNeg z_21) (fn_17 (Int32.toNatClampNeg z_24)) = fn_25 at hP hD sk_26 hr_27
                    have hP : va_P D vwCl [(m0, .inr (12, [.ref a_tape, .int f_taped, .int f_rules, .ref a_sign, .ref a_length, .ref a_clause, .ref a_clauses, .ref a_read, .int f_next, .int f_wrong, .int f_number, .int f_text, .int f_made, .int f_deep, .int f_lines, .ref a_open, .int f_opened, .ref a_stack, .int f_top, .ref a_word, .ref a_said, .int f_force, .int f_x, .int f_windAlone, .ref a_planned, .ref a_cameOf, .ref a_wasSaid, .int f_undone, .ref a_kept, .ref a_rowNow, .ref a_rowBest, .ref a_hasBy, .ref a_isFit, .ref a_cameThen, .long f_drawX, .ref a_images, .ref a_imageForce, .ref a_imageX, .ref a_isMade])), (a_said, .inl (cy 0, 115, .inl fn_25)), (a_planned, .inl (cy 0, 5, .inl g_planned))] H := hP
                    have hD : va_D A [(m0, .inr (12, [.ref a_tape, .int f_taped, .int f_rules, .ref a_sign, .ref a_length, .ref a_clause, .ref a_clauses, .ref a_read, .int f_next, .int f_wrong, .int f_number, .int f_text, .int f_made, .int f_deep, .int f_lines, .ref a_open, .int f_opened, .ref a_stack, .int f_top, .ref a_word, .ref a_said, .int f_force, .int f_x, .int f_windAlone, .ref a_planned, .ref a_cameOf, .ref a_wasSaid, .int f_undone, .ref a_kept, .ref a_rowNow, .ref a_rowBest, .ref a_hasBy, .ref a_isFit, .ref a_cameThen, .long f_drawX, .ref a_images, .ref a_imageForce, .ref a_imageX, .ref a_isMade])), (a_said, .inl (cy 0, 115, .inl fn_25)), (a_planned, .inl (cy 0, 5, .inl g_planned))] := hD
                    have b_285 := NB.e5 hr_27
                    refine lv_aload_n hx hb dX12_begins_111 rfl (lv_at hl 2 rfl) ?_
                    refine va_get (D := D) (ci := 12) (v := .ref a_said) (C := RX12) (T := TX12) (N := 39) hx hb hG inG_X12 hown hE.1 hP 0 rfl rfl 20 (by decide) (hG _ q_f_X12_39) (fun _ h9 => h9) rfl dX12_begins_112 ?_
                    refine lv_iload_n hx hb dX12_begins_115 rfl (lv_at hl 0 rfl) ?_
                    refine lv_iconst (v := 2) hx hb dX12_begins_116 (by decide) ?_
                    refine lv_iadd hx hb dX12_begins_117 ?_
                    refine lv_topi (fun z_29 ez_29 => ?_)
                    have iz_29 : z_29.toInt = z_14.toInt + 2 := k_addI ez_29 rfl (by decide) (by omega)
                    refine lv_aload_n hx hb dX12_begins_118 rfl (lv_at hl 2 rfl) ?_
                    refine va_get (D := D) (ci := 12) (v := .ref a_said) (C := RX12) (T := TX12) (N := 39) hx hb hG inG_X12 hown hE.1 hP 0 rfl rfl 20 (by decide) (hG _ q_f_X12_39) (fun _ h9 => h9) rfl dX12_begins_119 ?_
                    refine lv_iconst (v := 2) hx hb dX12_begins_122 (by decide) ?_
                    refine va_iald hx hb hE.1 hP 1 0 rfl rfl (by unfold vp_in; decide) dX12_begins_123 ?_
                    refine k_top (z := (fn_25 2)) rfl ?_
                    refine va_iast hx hb hE.1 hP hD hS 1 0 rfl rfl (k_in (by omega)) dX12_begins_124 (fun H locs hP hD hS => ?_)
                    have sk_31 : SK (upd fn_25 (Int32.toNatClampNeg z_29) (fn_25 2)) (v1_56.toInt + 1) := SK.skip sk_26 z_29 (fn_25 2) (by omega)
                    have hr_32 : NB g_said (upd fn_25 (Int32.toNatClampNeg z_29) (fn_25 2)) := hr_27.put z_29 (fn_25 2) (by omega)
                    generalize upd fn_25 (Int32.toNatClampNeg z_29) (fn_25 2) = fn_30 at hP hD sk_31 hr_32
                    have hP : va_P D vwCl [(m0, .inr (12, [.ref a_tape, .int f_taped, .int f_rules, .ref a_sign, .ref a_length, .ref a_clause, .ref a_clauses, .ref a_read, .int f_next, .int f_wrong, .int f_number, .int f_text, .int f_made, .int f_deep, .int f_lines, .ref a_open, .int f_opened, .ref a_stack, .int f_top, .ref a_word, .ref a_said, .int f_force, .int f_x, .int f_windAlone, .ref a_planned, .ref a_cameOf, .ref a_wasSaid, .int f_undone, .ref a_kept, .ref a_rowNow, .ref a_rowBest, .ref a_hasBy, .ref a_isFit, .ref a_cameThen, .long f_drawX, .ref a_images, .ref a_imageForce, .ref a_imageX, .ref a_isMade])), (a_said, .inl (cy 0, 115, .inl fn_30)), (a_planned, .inl (cy 0, 5, .inl g_planned))] H := hP
                    have hD : va_D A [(m0, .inr (12, [.ref a_tape, .int f_taped, .int f_rules, .ref a_sign, .ref a_length, .ref a_clause, .ref a_clauses, .ref a_read, .int f_next, .int f_wrong, .int f_number, .int f_text, .int f_made, .int f_deep, .int f_lines, .ref a_open, .int f_opened, .ref a_stack, .int f_top, .ref a_word, .ref a_said, .int f_force, .int f_x, .int f_windAlone, .ref a_planned, .ref a_cameOf, .ref a_wasSaid, .int f_undone, .ref a_kept, .ref a_rowNow, .ref a_rowBest, .ref a_hasBy, .ref a_isFit, .ref a_cameThen, .long f_drawX, .ref a_images, .ref a_imageForce, .ref a_imageX, .ref a_isMade])), (a_said, .inl (cy 0, 115, .inl fn_30)), (a_planned, .inl (cy 0, 5, .inl g_planned))] := hD
                    have b_335 := NB.e5 hr_32
                    obtain ⟨z_34, ez_34⟩ : ∃ y : Int32, y = v1_56 + Int32.ofInt 1 := ⟨_, rfl⟩
                    have iz_34 : z_34.toInt = v1_56.toInt + 1 := k_addI ez_34 rfl (by decide) (by omega)
                    refine lv_iinc (v := z_34) (lv' := [(1, .int z_34), (2, .int z_14), (0, .ref m0)]) hx hb dX12_begins_125 hl (k := 1) rfl ez_34.symm (by decide) rfl (fun ls hl => ?_)
                    refine lv_goto (tgt := 56) hx hb dX12_begins_128 (by decide) ?_
                    exact ih56 z_34 fn_30 _ _ ls hr_32 (by first | omega | assumption) (by first | omega | assumption) (SK.of sk_31 (by omega)) (by omega) hP hD hS (lv_sub hl [0, 2] rfl)
              have lt_35 : (0 : Int32).toInt = 0 := by decide
              exact lp56 100000 0 ga_said_24 _ _ ls hga_said_24 (by first | omega | assumption) (by first | omega | assumption) (SK.zero (by decide)) (by omega) hP hD hS hl
            · have ic_5 : v1_24.toInt < 6 := k_nle c_5 (by decide) rfl
              refine lv_aload_n hx hb dX12_begins_30 rfl (lv_at hl 1 rfl) ?_
              refine va_get (D := D) (ci := 12) (v := .ref a_said) (C := RX12) (T := TX12) (N := 39) hx hb hG inG_X12 hown hE.1 hP 0 rfl rfl 20 (by decide) (hG _ q_f_X12_39) (fun _ h9 => h9) rfl dX12_begins_31 ?_
              refine lv_bipush (v := 13) hx hb dX12_begins_34 (by decide) ?_
              refine lv_iload_n hx hb dX12_begins_36 rfl (lv_at hl 0 rfl) ?_
              refine lv_iadd hx hb dX12_begins_37 ?_
              refine lv_topi (fun z_36 ez_36 => ?_)
              have iz_36 : z_36.toInt = 13 + v1_24.toInt := k_addI ez_36 (by decide) rfl (by omega)
              refine lv_aload_n hx hb dX12_begins_38 rfl (lv_at hl 1 rfl) ?_
              refine va_get (D := D) (ci := 12) (v := .ref a_said) (C := RX12) (T := TX12) (N := 39) hx hb hG inG_X12 hown hE.1 hP 0 rfl rfl 20 (by decide) (hG _ q_f_X12_39) (fun _ h9 => h9) rfl dX12_begins_39 ?_
              refine lv_bipush (v := 68) hx hb dX12_begins_42 (by decide) ?_
              refine lv_iload_n hx hb dX12_begins_44 rfl (lv_at hl 0 rfl) ?_
              refine lv_iadd hx hb dX12_begins_45 ?_
              refine lv_topi (fun z_37 ez_37 => ?_)
              have iz_37 : z_37.toInt = 68 + v1_24.toInt := k_addI ez_37 (by decide) rfl (by omega)
              refine va_iald hx hb hE.1 hP 1 0 rfl rfl (k_in (by omega)) dX12_begins_46 ?_
              refine k_top (z := (ga_said_24 (Int32.toNatClampNeg z_37))) rfl ?_
              refine va_iast hx hb hE.1 hP hD hS 1 0 rfl rfl (k_in (by omega)) dX12_begins_47 (fun H locs hP hD hS => ?_)
              have hr_39 : NB g_said (upd ga_said_24 (Int32.toNatClampNeg z_36) (ga_said_24 (Int32.toNatClampNeg z_37))) := hga_said_24.put z_36 (ga_said_24 (Int32.toNatClampNeg z_37)) (by omega)
              generalize upd ga_said_24 (Int32.toNatClampNeg z_36) (ga_said_24 (Int32.toNatClampNeg z_37)) = fn_38 at hP hD hr_39
              have hP : va_P D vwCl [(m0, .inr (12, [.ref a_tape, .int f_taped, .int f_rules, .ref a_sign, .ref a_length, .ref a_clause, .ref a_clauses, .ref a_read, .int f_next, .int f_wrong, .int f_number, .int f_text, .int f_made, .int f_deep, .int f_lines, .ref a_open, .int f_opened, .ref a_stack, .int f_top, .ref a_word, .ref a_said, .int f_force, .int f_x, .int f_windAlone, .ref a_planned, .ref a_cameOf, .ref a_wasSaid, .int f_undone, .ref a_kept, .ref a_rowNow, .ref a_rowBest, .ref a_hasBy, .ref a_isFit, .ref a_cameThen, .long f_drawX, .ref a_images, .ref a_imageForce, .ref a_imageX, .ref a_isMade])), (a_said, .inl (cy 0, 115, .inl fn_38)), (a_planned, .inl (cy 0, 5, .inl g_planned))] H := hP
              have hD : va_D A [(m0, .inr (12, [.ref a_tape, .int f_taped, .int f_rules, .ref a_sign, .ref a_length, .ref a_clause, .ref a_clauses, .ref a_read, .int f_next, .int f_wrong, .int f_number, .int f_text, .int f_made, .int f_deep, .int f_lines, .ref a_open, .int f_opened, .ref a_stack, .int f_top, .ref a_word, .ref a_said, .int f_force, .int f_x, .int f_windAlone, .ref a_planned, .ref a_cameOf, .ref a_wasSaid, .int f_undone, .ref a_kept, .ref a_rowNow, .ref a_rowBest, .ref a_hasBy, .ref a_isFit, .ref a_cameThen, .long f_drawX, .ref a_images, .ref a_imageForce, .ref a_imageX, .ref a_isMade])), (a_said, .inl (cy 0, 115, .inl fn_38)), (a_planned, .inl (cy 0, 5, .inl g_planned))] := hD
              have b_405 := NB.e5 hr_39
              obtain ⟨z_41, ez_41⟩ : ∃ y : Int32, y = v1_24 + Int32.ofInt 1 := ⟨_, rfl⟩
              have iz_41 : z_41.toInt = v1_24.toInt + 1 := k_addI ez_41 rfl (by decide) (by omega)
              refine lv_iinc (v := z_41) (lv' := [(1, .int z_41), (0, .ref m0)]) hx hb dX12_begins_48 hl (k := 0) rfl ez_41.symm (by decide) rfl (fun ls hl => ?_)
              refine lv_goto (tgt := 24) hx hb dX12_begins_51 (by decide) ?_
              exact ih24 z_41 fn_38 _ _ ls hr_39 (by first | omega | assumption) (by first | omega | assumption) (by omega) hP hD hS (lv_sub hl [0, 1] rfl)
        have lt_42 : (0 : Int32).toInt = 0 := by decide
        exact lp24 100000 0 ga_said_3 _ _ ls hga_said_3 (by first | omega | assumption) (by first | omega | assumption) (by omega) hP hD hS hl
      · have ic_3 : v1_3.toInt < 40 := k_nle c_3 (by decide) rfl
        refine lv_aload_n hx hb dX12_begins_9 rfl (lv_at hl 1 rfl) ?_
        refine va_get (D := D) (ci := 12) (v := .ref a_said) (C := RX12) (T := TX12) (N := 39) hx hb hG inG_X12 hown hE.1 hP 0 rfl rfl 20 (by decide) (hG _ q_f_X12_39) (fun _ h9 => h9) rfl dX12_begins_10 ?_
        refine lv_iload_n hx hb dX12_begins_13 rfl (lv_at hl 0 rfl) ?_
        refine lv_iconst (v := 0) hx hb dX12_begins_14 (by decide) ?_
        refine va_iast hx hb hE.1 hP hD hS 1 0 rfl rfl (k_in (by omega)) dX12_begins_15 (fun H locs hP hD hS => ?_)
        have hr_44 : NB g_said (upd ga_said_3 (Int32.toNatClampNeg v1_3) 0) := hga_said_3.put v1_3 (0 : Int32) (by omega)
        generalize upd ga_said_3 (Int32.toNatClampNeg v1_3) 0 = fn_43 at hP hD hr_44
        have hP : va_P D vwCl [(m0, .inr (12, [.ref a_tape, .int f_taped, .int f_rules, .ref a_sign, .ref a_length, .ref a_clause, .ref a_clauses, .ref a_read, .int f_next, .int f_wrong, .int f_number, .int f_text, .int f_made, .int f_deep, .int f_lines, .ref a_open, .int f_opened, .ref a_stack, .int f_top, .ref a_word, .ref a_said, .int f_force, .int f_x, .int f_windAlone, .ref a_planned, .ref a_cameOf, .ref a_wasSaid, .int f_undone, .ref a_kept, .ref a_rowNow, .ref a_rowBest, .ref a_hasBy, .ref a_isFit, .ref a_cameThen, .long f_drawX, .ref a_images, .ref a_imageForce, .ref a_imageX, .ref a_isMade])), (a_said, .inl (cy 0, 115, .inl fn_43)), (a_planned, .inl (cy 0, 5, .inl g_planned))] H := hP
        have hD : va_D A [(m0, .inr (12, [.ref a_tape, .int f_taped, .int f_rules, .ref a_sign, .ref a_length, .ref a_clause, .ref a_clauses, .ref a_read, .int f_next, .int f_wrong, .int f_number, .int f_text, .int f_made, .int f_deep, .int f_lines, .ref a_open, .int f_opened, .ref a_stack, .int f_top, .ref a_word, .ref a_said, .int f_force, .int f_x, .int f_windAlone, .ref a_planned, .ref a_cameOf, .ref a_wasSaid, .int f_undone, .ref a_kept, .ref a_rowNow, .ref a_rowBest, .ref a_hasBy, .ref a_isFit, .ref a_cameThen, .long f_drawX, .ref a_images, .ref a_imageForce, .ref a_imageX, .ref a_isMade])), (a_said, .inl (cy 0, 115, .inl fn_43)), (a_planned, .inl (cy 0, 5, .inl g_planned))] := hD
        have b_455 := NB.e5 hr_44
        obtain ⟨z_46, ez_46⟩ : ∃ y : Int32, y = v1_3 + Int32.ofInt 1 := ⟨_, rfl⟩
        have iz_46 : z_46.toInt = v1_3.toInt + 1 := k_addI ez_46 rfl (by decide) (by omega)
        refine lv_iinc (v := z_46) (lv' := [(1, .int z_46), (0, .ref m0)]) hx hb dX12_begins_16 hl (k := 0) rfl ez_46.symm (by decide) rfl (fun ls hl => ?_)
        refine lv_goto (tgt := 3) hx hb dX12_begins_19 (by decide) ?_
        exact ih3 z_46 fn_43 _ _ ls hr_44 (by first | omega | assumption) (by first | omega | assumption) (by omega) hP hD hS (lv_sub hl [0, 1] rfl)
  have lt_47 : (10 : Int32).toInt = 10 := by decide
  exact lp3 100000 10 g_said _ _ ls hr0_g_said (by first | omega | assumption) (by first | omega | assumption) (by omega) hP hD hS hl

theorem cm_begins (l : Launch) (D : va_G) (cy : Nat → ClassId) (m0 : Nat) (a_tape : Nat) (a_sign : Nat) (a_length : Nat) (a_clause : Nat) (a_clauses : Nat) (a_read : Nat) (a_open : Nat) (a_stack : Nat) (a_word : Nat) (a_said : Nat) (a_planned : Nat) (a_cameOf : Nat) (a_wasSaid : Nat) (a_kept : Nat) (a_rowNow : Nat) (a_rowBest : Nat) (a_hasBy : Nat) (a_isFit : Nat) (a_cameThen : Nat) (a_images : Nat) (a_imageForce : Nat) (a_imageX : Nat) (a_isMade : Nat) (f_taped : Int32) (f_rules : Int32) (f_next : Int32) (f_wrong : Int32) (f_number : Int32) (f_text : Int32) (f_made : Int32) (f_deep : Int32) (f_lines : Int32) (f_opened : Int32) (f_top : Int32) (f_force : Int32) (f_x : Int32) (f_windAlone : Int32) (f_undone : Int32) (f_drawX : Int64) (g_said : Nat → Int32) (g_planned : Nat → Int32) (h_g_said : SV g_said) (h_g_planned : PLV g_planned) : KV l yX12_begins cX12_begins 3 0 0 D (kTY cy) [.ref m0] [(m0, .inr (12, [.ref a_tape, .int f_taped, .int f_rules, .ref a_sign, .ref a_length, .ref a_clause, .ref a_clauses, .ref a_read, .int f_next, .int f_wrong, .int f_number, .int f_text, .int f_made, .int f_deep, .int f_lines, .ref a_open, .int f_opened, .ref a_stack, .int f_top, .ref a_word, .ref a_said, .int f_force, .int f_x, .int f_windAlone, .ref a_planned, .ref a_cameOf, .ref a_wasSaid, .int f_undone, .ref a_kept, .ref a_rowNow, .ref a_rowBest, .ref a_hasBy, .ref a_isFit, .ref a_cameThen, .long f_drawX, .ref a_images, .ref a_imageForce, .ref a_imageX, .ref a_isMade])), (a_said, .inl (cy 0, 115, .inl g_said)), (a_planned, .inl (cy 0, 5, .inl g_planned))] (S := (Nat → Int32) × (Nat → Int32)) (fun u => PR g_said (u.1) ∧ PLV (u.2)) (fun u => [(m0, .inr (12, [.ref a_tape, .int f_taped, .int f_rules, .ref a_sign, .ref a_length, .ref a_clause, .ref a_clauses, .ref a_read, .int f_next, .int f_wrong, .int f_number, .int f_text, .int f_made, .int f_deep, .int f_lines, .ref a_open, .int f_opened, .ref a_stack, .int f_top, .ref a_word, .ref a_said, .int f_force, .int f_x, .int f_windAlone, .ref a_planned, .ref a_cameOf, .ref a_wasSaid, .int f_undone, .ref a_kept, .ref a_rowNow, .ref a_rowBest, .ref a_hasBy, .ref a_isFit, .ref a_cameThen, .long f_drawX, .ref a_images, .ref a_imageForce, .ref a_imageX, .ref a_isMade])), (a_said, .inl (cy 0, 115, .inl (u.1))), (a_planned, .inl (cy 0, 5, .inl (u.2)))]) 0 0 := (cm_begins0 l D cy m0 a_tape a_sign a_length a_clause a_clauses a_read a_open a_stack a_word a_said a_planned a_cameOf a_wasSaid a_kept a_rowNow a_rowBest a_hasBy a_isFit a_cameThen a_images a_imageForce a_imageX a_isMade f_taped f_rules f_next f_wrong f_number f_text f_made f_deep f_lines f_opened f_top f_force f_x f_windAlone f_undone f_drawX g_said g_planned h_g_said h_g_planned).mono (fun u h => ⟨NB.pr h_g_said h.1 h.2.2, h.2.1⟩)
