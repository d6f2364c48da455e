set_option maxHeartbeats 4000000 in
set_option maxRecDepth 100000 in
theorem c_in (l : Launch) (D : va_G) (cy : Nat → ClassId) (v0 v1 v2 : Int64) : KP l yX12_in cX12_in 6 (some .boolean) 0 0 D (kTY cy) [.long v0, .long v1, .long v2] [] (fun r => r = if v0 < v1 ∨ v2 < v0 then 0 else 1) := by
  refine KP.of (by decide) (Nat.le_of_ble_eq_true rfl) (fun p e s m below meth c ls F hE hP hl => ?_)
  have F : kF p s m meth c cX12_in 6 (some .boolean) _ RX12 := F
  obtain ⟨hx, hb, hr, hml, hown, hG, hlk⟩ := id F
  have hl : lv_has ls 6 [(0, .long v0), (2, .long v1), (4, .long v2)] := hl
  refine lv_lload_n hx hb dX12_in_0 rfl (lv_at hl 0 rfl) ?_
  refine lv_lload_n hx hb dX12_in_1 rfl (lv_at hl 1 rfl) ?_
  refine W.lcmp hx hb dX12_in_2 ?_
  refine lv_if_lt (tgt := 17) hx hb dX12_in_3 (by decide) (fun c_1 => ?_) (fun c_1 => ?_)
  · refine lv_iconst (v := 0) hx hb dX12_in_17 (by decide) ?_
    exact KP.rt F rfl (by rw [if_pos (Or.inl ((lg_cmp_lt _ _).mp c_1))]) dX12_in_18
  · refine lv_lload_n hx hb dX12_in_6 rfl (lv_at hl 0 rfl) ?_
    refine lv_lload hx hb dX12_in_7 (lv_at hl 2 rfl) ?_
    refine W.lcmp hx hb dX12_in_9 ?_
    refine lv_if_gt (tgt := 17) hx hb dX12_in_10 (by decide) (fun c_2 => ?_) (fun c_2 => ?_)
    · refine lv_iconst (v := 0) hx hb dX12_in_17 (by decide) ?_
      exact KP.rt F rfl (by rw [if_pos (Or.inr ((lg_cmp_gt _ _).mp c_2))]) dX12_in_18
    · refine lv_iconst (v := 1) hx hb dX12_in_13 (by decide) ?_
      refine lv_goto (tgt := 18) hx hb dX12_in_14 (by decide) ?_
      exact KP.rt F rfl (by rw [if_neg (fun q => q.elim (fun q => c_1 ((lg_cmp_lt _ _).mpr q)) (fun q => c_2 ((lg_cmp_gt _ _).mpr q)))]) dX12_in_18


theorem cm_in (l : Launch) (D : va_G) (cy : Nat → ClassId) (x0 x1 x2 : Int64) : KP l yX12_in cX12_in 6 (some .boolean) 0 0 D (kTY cy) [.long x0, .long x1, .long x2] [] (fun r => (r.toInt = 0 ∨ r.toInt = 1) ∧ (r.toInt ≠ 0 → x1.toInt ≤ x0.toInt ∧ x0.toInt ≤ x2.toInt) ∧ (r.toInt = 0 → x0.toInt < x1.toInt ∨ x2.toInt < x0.toInt)) := (c_in l D cy x0 x1 x2).mono (fun r h => by
  have a0 : (0 : Int32).toInt = 0 := by decide
  have a1 : (1 : Int32).toInt = 1 := by decide
  simp only [Int64.lt_iff_toInt_lt] at h
  split at h <;> subst h
  · rw [a0]; exact ⟨Or.inl rfl, fun q => absurd rfl q, fun _ => by assumption⟩
  · rw [a1]; exact ⟨Or.inr rfl, fun _ => by omega, fun q => by omega⟩)

set_option maxHeartbeats 4000000 in
set_option maxRecDepth 100000 in
theorem cm_isGreen (l : Launch) (D : va_G) (cy : Nat → ClassId) (m0 : Nat) (a_tape : Nat) (a_sign : Nat) (a_length : Nat) (a_clause : Nat) (a_clauses : Nat) (a_read : Nat) (a_open : Nat) (a_stack : Nat) (a_word : Nat) (a_said : Nat) (a_planned : Nat) (a_cameOf : Nat) (a_wasSaid : Nat) (a_kept : Nat) (a_rowNow : Nat) (a_rowBest : Nat) (a_hasBy : Nat) (a_isFit : Nat) (a_cameThen : Nat) (a_images : Nat) (a_imageForce : Nat) (a_imageX : Nat) (a_isMade : Nat) (f_taped : Int32) (f_rules : Int32) (f_next : Int32) (f_wrong : Int32) (f_number : Int32) (f_text : Int32) (f_made : Int32) (f_deep : Int32) (f_lines : Int32) (f_opened : Int32) (f_top : Int32) (f_force : Int32) (f_x : Int32) (f_windAlone : Int32) (f_undone : Int32) (f_drawX : Int64) (g_said : Nat → Int32) (h_g_said : SV g_said) : KP l yX12_isGreen cX12_isGreen 1 (some .boolean) 0 0 D (kTY cy) [.ref m0] [(m0, .inr (12, [.ref a_tape, .int f_taped, .int f_rules, .ref a_sign, .ref a_length, .ref a_clause, .ref a_clauses, .ref a_read, .int f_next, .int f_wrong, .int f_number, .int f_text, .int f_made, .int f_deep, .int f_lines, .ref a_open, .int f_opened, .ref a_stack, .int f_top, .ref a_word, .ref a_said, .int f_force, .int f_x, .int f_windAlone, .ref a_planned, .ref a_cameOf, .ref a_wasSaid, .int f_undone, .ref a_kept, .ref a_rowNow, .ref a_rowBest, .ref a_hasBy, .ref a_isFit, .ref a_cameThen, .long f_drawX, .ref a_images, .ref a_imageForce, .ref a_imageX, .ref a_isMade])), (a_said, .inl (cy 0, 115, .inl g_said))] (fun r => (r.toInt = 0 ∨ r.toInt = 1)) := by
  refine KP.of (by decide) (Nat.le_of_ble_eq_true rfl) (fun p e s m below meth c ls F hE hP hl => ?_)
  have F : kF p s m meth c cX12_isGreen 1 (some .boolean) _ RX12 := F
  obtain ⟨hx, hb, hr, hml, hown, hG, hlk⟩ := id F
  have hl : lv_has ls 1 [(0, .ref m0)] := hl
  have hr0_g_said : PR g_said g_said := PR.refl h_g_said
  obtain ⟨⟨b_1a, b_1b⟩, ⟨b_1c, b_1d⟩, ⟨b_1e, b_1f⟩, ⟨b_1g, b_1h⟩⟩ := SV.bounds (PR.sv hr0_g_said)
  refine lv_aload_n hx hb dX12_isGreen_0 rfl (lv_at hl 0 rfl) ?_
  refine va_get (D := D) (ci := 12) (v := .ref a_said) (C := RX12) (T := TX12) (N := 39) hx hb hG inG_X12 hown hE.1 hP 0 rfl rfl 20 (by decide) (hG _ q_f_X12_39) (fun _ h9 => h9) rfl dX12_isGreen_1 ?_
  refine lv_iconst (v := 0) hx hb dX12_isGreen_4 (by decide) ?_
  refine va_iald hx hb hE.1 hP 1 0 rfl rfl (by unfold vp_in; decide) dX12_isGreen_5 ?_
  refine k_top (z := (g_said 0)) rfl ?_
  refine lv_iconst (v := 1) hx hb dX12_isGreen_6 (by decide) ?_
  refine lv_icmp_ne (tgt := 14) hx hb dX12_isGreen_7 (by decide) (fun c_2 => ?_) (fun c_2 => ?_)
  · have ic_2 : (g_said 0).toInt ≠ 1 := k_ne c_2 rfl (by decide)
    refine lv_iconst (v := 0) hx hb dX12_isGreen_14 (by decide) ?_
    have lit0 : (0 : Int32).toInt = 0 := by decide
    exact KP.rt F rfl (show ((0 : Int32).toInt = 0 ∨ (0 : Int32).toInt = 1) from (by first | omega | assumption)) dX12_isGreen_15
  · have ic_2 : (g_said 0).toInt = 1 := k_eq c_2 rfl (by decide)
    refine lv_iconst (v := 1) hx hb dX12_isGreen_10 (by decide) ?_
    refine lv_goto (tgt := 15) hx hb dX12_isGreen_11 (by decide) ?_
    have lit0 : (1 : Int32).toInt = 1 := by decide
    exact KP.rt F rfl (show ((1 : Int32).toInt = 0 ∨ (1 : Int32).toInt = 1) from (by first | omega | assumption)) dX12_isGreen_15

set_option maxHeartbeats 4000000 in
set_option maxRecDepth 100000 in
theorem cm_comingRound (l : Launch) (D : va_G) (cy : Nat → ClassId) (m0 : Nat) (a_tape : Nat) (a_sign : Nat) (a_length : Nat) (a_clause : Nat) (a_clauses : Nat) (a_read : Nat) (a_open : Nat) (a_stack : Nat) (a_word : Nat) (a_said : Nat) (a_planned : Nat) (a_cameOf : Nat) (a_wasSaid : Nat) (a_kept : Nat) (a_rowNow : Nat) (a_rowBest : Nat) (a_hasBy : Nat) (a_isFit : Nat) (a_cameThen : Nat) (a_images : Nat) (a_imageForce : Nat) (a_imageX : Nat) (a_isMade : Nat) (f_taped : Int32) (f_rules : Int32) (f_next : Int32) (f_wrong : Int32) (f_number : Int32) (f_text : Int32) (f_made : Int32) (f_deep : Int32) (f_lines : Int32) (f_opened : Int32) (f_top : Int32) (f_force : Int32) (f_x : Int32) (f_windAlone : Int32) (f_undone : Int32) (f_drawX : Int64) (g_said : Nat → Int32) (h_g_said : SV g_said) : KP l yX12_comingRound cX12_comingRound 1 (some .int) 1 20 D (kTY cy) [.ref m0] [(m0, .inr (12, [.ref a_tape, .int f_taped, .int f_rules, .ref a_sign, .ref a_length, .ref a_clause, .ref a_clauses, .ref a_read, .int f_next, .int f_wrong, .int f_number, .int f_text, .int f_made, .int f_deep, .int f_lines, .ref a_open, .int f_opened, .ref a_stack, .int f_top, .ref a_word, .ref a_said, .int f_force, .int f_x, .int f_windAlone, .ref a_planned, .ref a_cameOf, .ref a_wasSaid, .int f_undone, .ref a_kept, .ref a_rowNow, .ref a_rowBest, .ref a_hasBy, .ref a_isFit, .ref a_cameThen, .long f_drawX, .ref a_images, .ref a_imageForce, .ref a_imageX, .ref a_isMade])), (a_said, .inl (cy 0, 115, .inl g_said))] (fun r => (0 ≤ r.toInt) ∧ (r.toInt ≤ 12)) := by
  refine KP.of (by decide) (Nat.le_of_ble_eq_true rfl) (fun p e s m below meth c ls F hE hP hl => ?_)
  have F : kF p s m meth c cX12_comingRound 1 (some .int) _ RX12 := F
  obtain ⟨hx, hb, hr, hml, hown, hG, hlk⟩ := id F
  have hl : lv_has ls 1 [(0, .ref m0)] := hl
  have hr0_g_said : PR g_said g_said := PR.refl h_g_said
  obtain ⟨⟨b_1a, b_1b⟩, ⟨b_1c, b_1d⟩, ⟨b_1e, b_1f⟩, ⟨b_1g, b_1h⟩⟩ := SV.bounds (PR.sv hr0_g_said)
  refine lv_aload_n hx hb dX12_comingRound_0 rfl (lv_at hl 0 rfl) ?_
  refine kcV (As := []) (rest := []) F hE hP hl.1 (cm_isGreen l D cy (m0 := m0) (a_tape := a_tape) (f_taped := f_taped) (f_rules := f_rules) (a_sign := a_sign) (a_length := a_length) (a_clause := a_clause) (a_clauses := a_clauses) (a_read := a_read) (f_next := f_next) (f_wrong := f_wrong) (f_number := f_number) (f_text := f_text) (f_made := f_made) (f_deep := f_deep) (f_lines := f_lines) (a_open := a_open) (f_opened := f_opened) (a_stack := a_stack) (f_top := f_top) (a_word := a_word) (a_said := a_said) (f_force := f_force) (f_x := f_x) (f_windAlone := f_windAlone) (a_planned := a_planned) (a_cameOf := a_cameOf) (a_wasSaid := a_wasSaid) (f_undone := f_undone) (a_kept := a_kept) (a_rowNow := a_rowNow) (a_rowBest := a_rowBest) (a_hasBy := a_hasBy) (a_isFit := a_isFit) (a_cameThen := a_cameThen) (f_drawX := f_drawX) (a_images := a_images) (a_imageForce := a_imageForce) (a_imageX := a_imageX) (a_isMade := a_isMade) (g_said := g_said) (h_g_said := (PR.sv hr0_g_said))) q_m_X12_294 mv_X12_isGreen ⟨(Nat.le_of_ble_eq_true rfl), (Nat.le_of_ble_eq_true rfl)⟩ [0, 1] rfl rfl rfl rfl rfl rfl (Nat.le_of_ble_eq_true rfl) ⟨(Nat.le_of_ble_eq_true rfl), (Nat.le_of_ble_eq_true rfl)⟩ dX12_comingRound_1 (fun r_2 er_2 => ?_)
  have er_2 : (r_2.toInt = 0 ∨ r_2.toInt = 1) := er_2
  refine lv_if_ne (tgt := 11) hx hb dX12_comingRound_4 (by decide) (fun c_3 => ?_) (fun c_3 => ?_)
  · have ic_3 : r_2.toInt ≠ 0 := k_ne c_3 rfl (by decide)
    clear er_2
    refine lv_aload_n hx hb dX12_comingRound_11 rfl (lv_at hl 0 rfl) ?_
    refine va_get (D := D) (ci := 12) (v := .ref a_said) (C := RX12) (T := TX12) (N := 39) hx hb hG inG_X12 hown hE.1 hP 0 rfl rfl 20 (by decide) (hG _ q_f_X12_39) (fun _ h9 => h9) rfl dX12_comingRound_12 ?_
    refine lv_iconst (v := 3) hx hb dX12_comingRound_15 (by decide) ?_
    refine va_iald hx hb hE.1 hP 1 0 rfl rfl (by unfold vp_in; decide) dX12_comingRound_16 ?_
    refine k_top (z := (g_said 3)) rfl ?_
    refine lv_if_ne (tgt := 24) hx hb dX12_comingRound_17 (by decide) (fun c_4 => ?_) (fun c_4 => ?_)
    · have ic_4 : (g_said 3).toInt ≠ 0 := k_ne c_4 rfl (by decide)
      refine lv_aload_n hx hb dX12_comingRound_24 rfl (lv_at hl 0 rfl) ?_
      refine va_get (D := D) (ci := 12) (v := .ref a_said) (C := RX12) (T := TX12) (N := 39) hx hb hG inG_X12 hown hE.1 hP 0 rfl rfl 20 (by decide) (hG _ q_f_X12_39) (fun _ h9 => h9) rfl dX12_comingRound_25 ?_
      refine lv_iconst (v := 3) hx hb dX12_comingRound_28 (by decide) ?_
      refine va_iald hx hb hE.1 hP 1 0 rfl rfl (by unfold vp_in; decide) dX12_comingRound_29 ?_
      refine k_top (z := (g_said 3)) rfl ?_
      exact KP.rt F rfl (show (0 ≤ (g_said 3).toInt) ∧ ((g_said 3).toInt ≤ 12) from ⟨(by first | omega | assumption), (by first | omega | assumption)⟩) dX12_comingRound_30
    · have ic_4 : (g_said 3).toInt = 0 := k_eq c_4 rfl (by decide)
      refine lv_iconst (v := 1) hx hb dX12_comingRound_20 (by decide) ?_
      refine lv_goto (tgt := 30) hx hb dX12_comingRound_21 (by decide) ?_
      have lit0 : (1 : Int32).toInt = 1 := by decide
      exact KP.rt F rfl (show (0 ≤ (1 : Int32).toInt) ∧ ((1 : Int32).toInt ≤ 12) from ⟨(by first | omega | assumption), (by first | omega | assumption)⟩) dX12_comingRound_30
  · have ic_3 : r_2.toInt = 0 := k_eq c_3 rfl (by decide)
    clear er_2
    refine lv_iconst (v := 0) hx hb dX12_comingRound_7 (by decide) ?_
    refine lv_goto (tgt := 30) hx hb dX12_comingRound_8 (by decide) ?_
    have lit0 : (0 : Int32).toInt = 0 := by decide
    exact KP.rt F rfl (show (0 ≤ (0 : Int32).toInt) ∧ ((0 : Int32).toInt ≤ 12) from ⟨(by first | omega | assumption), (by first | omega | assumption)⟩) dX12_comingRound_30

set_option maxHeartbeats 4000000 in
set_option maxRecDepth 100000 in
theorem cm_isRing (l : Launch) (D : va_G) (cy : Nat → ClassId) (m0 : Nat) (a_tape : Nat) (a_sign : Nat) (a_length : Nat) (a_clause : Nat) (a_clauses : Nat) (a_read : Nat) (a_open : Nat) (a_stack : Nat) (a_word : Nat) (a_said : Nat) (a_planned : Nat) (a_cameOf : Nat) (a_wasSaid : Nat) (a_kept : Nat) (a_rowNow : Nat) (a_rowBest : Nat) (a_hasBy : Nat) (a_isFit : Nat) (a_cameThen : Nat) (a_images : Nat) (a_imageForce : Nat) (a_imageX : Nat) (a_isMade : Nat) (f_taped : Int32) (f_rules : Int32) (f_next : Int32) (f_wrong : Int32) (f_number : Int32) (f_text : Int32) (f_made : Int32) (f_deep : Int32) (f_lines : Int32) (f_opened : Int32) (f_top : Int32) (f_force : Int32) (f_x : Int32) (f_windAlone : Int32) (f_undone : Int32) (f_drawX : Int64) (g_said : Nat → Int32) (x0 : Int32) (h_g_said : SV g_said) : KP l yX12_isRing cX12_isRing 2 (some .boolean) 0 0 D (kTY cy) [.ref m0, .int x0] [(m0, .inr (12, [.ref a_tape, .int f_taped, .int f_rules, .ref a_sign, .ref a_length, .ref a_clause, .ref a_clauses, .ref a_read, .int f_next, .int f_wrong, .int f_number, .int f_text, .int f_made, .int f_deep, .int f_lines, .ref a_open, .int f_opened, .ref a_stack, .int f_top, .ref a_word, .ref a_said, .int f_force, .int f_x, .int f_windAlone, .ref a_planned, .ref a_cameOf, .ref a_wasSaid, .int f_undone, .ref a_kept, .ref a_rowNow, .ref a_rowBest, .ref a_hasBy, .ref a_isFit, .ref a_cameThen, .long f_drawX, .ref a_images, .ref a_imageForce, .ref a_imageX, .ref a_isMade])), (a_said, .inl (cy 0, 115, .inl g_said))] (fun r => (r.toInt = 0 ∨ r.toInt = 1) ∧ ((r.toInt ≠ 0 → 0 ≤ x0.toInt ∧ x0.toInt < (g_said 4).toInt))) := by
  refine KP.of (by decide) (Nat.le_of_ble_eq_true rfl) (fun p e s m below meth c ls F hE hP hl => ?_)
  have F : kF p s m meth c cX12_isRing 2 (some .boolean) _ RX12 := F
  obtain ⟨hx, hb, hr, hml, hown, hG, hlk⟩ := id F
  have hl : lv_has ls 2 [(0, .ref m0), (1, .int x0)] := hl
  have hr0_g_said : PR g_said g_said := PR.refl h_g_said
  obtain ⟨⟨b_1a, b_1b⟩, ⟨b_1c, b_1d⟩, ⟨b_1e, b_1f⟩, ⟨b_1g, b_1h⟩⟩ := SV.bounds (PR.sv hr0_g_said)
  refine lv_iload_n hx hb dX12_isRing_0 rfl (lv_at hl 1 rfl) ?_
  refine lv_if_lt (tgt := 18) hx hb dX12_isRing_1 (by decide) (fun c_2 => ?_) (fun c_2 => ?_)
  · have ic_2 : x0.toInt < 0 := k_lt c_2 rfl (by decide)
    refine lv_iconst (v := 0) hx hb dX12_isRing_18 (by decide) ?_
    have lit0 : (0 : Int32).toInt = 0 := by decide
    exact KP.rt F rfl (show ((0 : Int32).toInt = 0 ∨ (0 : Int32).toInt = 1) ∧ (((0 : Int32).toInt ≠ 0 → 0 ≤ x0.toInt ∧ x0.toInt < (g_said 4).toInt)) from ⟨(by first | omega | assumption), (by first | omega | (intro lq; refine ⟨?_, ?_⟩ <;> (first | omega | assumption | rfl | (exfalso; omega))))⟩) dX12_isRing_19
  · have ic_2 : 0 ≤ x0.toInt := k_nlt c_2 rfl (by decide)
    refine lv_iload_n hx hb dX12_isRing_4 rfl (lv_at hl 1 rfl) ?_
    refine lv_aload_n hx hb dX12_isRing_5 rfl (lv_at hl 0 rfl) ?_
    refine va_get (D := D) (ci := 12) (v := .ref a_said) (C := RX12) (T := TX12) (N := 39) hx hb hG inG_X12 hown hE.1 hP 0 rfl rfl 20 (by decide) (hG _ q_f_X12_39) (fun _ h9 => h9) rfl dX12_isRing_6 ?_
    refine lv_iconst (v := 4) hx hb dX12_isRing_9 (by decide) ?_
    refine va_iald hx hb hE.1 hP 1 0 rfl rfl (by unfold vp_in; decide) dX12_isRing_10 ?_
    refine k_top (z := (g_said 4)) rfl ?_
    refine lv_icmp_ge (tgt := 18) hx hb dX12_isRing_11 (by decide) (fun c_3 => ?_) (fun c_3 => ?_)
    · have ic_3 : (g_said 4).toInt ≤ x0.toInt := k_le c_3 rfl rfl
      refine lv_iconst (v := 0) hx hb dX12_isRing_18 (by decide) ?_
      have lit0 : (0 : Int32).toInt = 0 := by decide
      exact KP.rt F rfl (show ((0 : Int32).toInt = 0 ∨ (0 : Int32).toInt = 1) ∧ (((0 : Int32).toInt ≠ 0 → 0 ≤ x0.toInt ∧ x0.toInt < (g_said 4).toInt)) from ⟨(by first | omega | assumption), (by first | omega | (intro lq; refine ⟨?_, ?_⟩ <;> (first | omega | assumption | rfl | (exfalso; omega))))⟩) dX12_isRing_19
    · have ic_3 : x0.toInt < (g_said 4).toInt := k_nle c_3 rfl rfl
      refine lv_iconst (v := 1) hx hb dX12_isRing_14 (by decide) ?_
      refine lv_goto (tgt := 19) hx hb dX12_isRing_15 (by decide) ?_
      have lit0 : (1 : Int32).toInt = 1 := by decide
      exact KP.rt F rfl (show ((1 : Int32).toInt = 0 ∨ (1 : Int32).toInt = 1) ∧ (((1 : Int32).toInt ≠ 0 → 0 ≤ x0.toInt ∧ x0.toInt < (g_said 4).toInt)) from ⟨(by first | omega | assumption), (by first | omega | (intro lq; refine ⟨?_, ?_⟩ <;> (first | omega | assumption | rfl | (exfalso; omega))))⟩) dX12_isRing_19

set_option maxHeartbeats 4000000 in
set_option maxRecDepth 100000 in
theorem cm_isArcher (l : Launch) (D : va_G) (cy : Nat → ClassId) (m0 : Nat) (a_tape : Nat) (a_sign : Nat) (a_length : Nat) (a_clause : Nat) (a_clauses : Nat) (a_read : Nat) (a_open : Nat) (a_stack : Nat) (a_word : Nat) (a_said : Nat) (a_planned : Nat) (a_cameOf : Nat) (a_wasSaid : Nat) (a_kept : Nat) (a_rowNow : Nat) (a_rowBest : Nat) (a_hasBy : Nat) (a_isFit : Nat) (a_cameThen : Nat) (a_images : Nat) (a_imageForce : Nat) (a_imageX : Nat) (a_isMade : Nat) (f_taped : Int32) (f_rules : Int32) (f_next : Int32) (f_wrong : Int32) (f_number : Int32) (f_text : Int32) (f_made : Int32) (f_deep : Int32) (f_lines : Int32) (f_opened : Int32) (f_top : Int32) (f_force : Int32) (f_x : Int32) (f_windAlone : Int32) (f_undone : Int32) (f_drawX : Int64) (g_said : Nat → Int32) (x0 : Int32) (h_g_said : SV g_said) : KP l yX12_isArcher cX12_isArcher 2 (some .boolean) 0 0 D (kTY cy) [.ref m0, .int x0] [(m0, .inr (12, [.ref a_tape, .int f_taped, .int f_rules, .ref a_sign, .ref a_length, .ref a_clause, .ref a_clauses, .ref a_read, .int f_next, .int f_wrong, .int f_number, .int f_text, .int f_made, .int f_deep, .int f_lines, .ref a_open, .int f_opened, .ref a_stack, .int f_top, .ref a_word, .ref a_said, .int f_force, .int f_x, .int f_windAlone, .ref a_planned, .ref a_cameOf, .ref a_wasSaid, .int f_undone, .ref a_kept, .ref a_rowNow, .ref a_rowBest, .ref a_hasBy, .ref a_isFit, .ref a_cameThen, .long f_drawX, .ref a_images, .ref a_imageForce, .ref a_imageX, .ref a_isMade])), (a_said, .inl (cy 0, 115, .inl g_said))] (fun r => (r.toInt = 0 ∨ r.toInt = 1) ∧ ((r.toInt ≠ 0 → 0 ≤ x0.toInt ∧ x0.toInt < (g_said 5).toInt))) := by
  refine KP.of (by decide) (Nat.le_of_ble_eq_true rfl) (fun p e s m below meth c ls F hE hP hl => ?_)
  have F : kF p s m meth c cX12_isArcher 2 (some .boolean) _ RX12 := F
  obtain ⟨hx, hb, hr, hml, hown, hG, hlk⟩ := id F
  have hl : lv_has ls 2 [(0, .ref m0), (1, .int x0)] := hl
  have hr0_g_said : PR g_said g_said := PR.refl h_g_said
  obtain ⟨⟨b_1a, b_1b⟩, ⟨b_1c, b_1d⟩, ⟨b_1e, b_1f⟩, ⟨b_1g, b_1h⟩⟩ := SV.bounds (PR.sv hr0_g_said)
  refine lv_iload_n hx hb dX12_isArcher_0 rfl (lv_at hl 1 rfl) ?_
  refine lv_if_lt (tgt := 18) hx hb dX12_isArcher_1 (by decide) (fun c_2 => ?_) (fun c_2 => ?_)
  · have ic_2 : x0.toInt < 0 := k_lt c_2 rfl (by decide)
    refine lv_iconst (v := 0) hx hb dX12_isArcher_18 (by decide) ?_
    have lit0 : (0 : Int32).toInt = 0 := by decide
    exact KP.rt F rfl (show ((0 : Int32).toInt = 0 ∨ (0 : Int32).toInt = 1) ∧ (((0 : Int32).toInt ≠ 0 → 0 ≤ x0.toInt ∧ x0.toInt < (g_said 5).toInt)) from ⟨(by first | omega | assumption), (by first | omega | (intro lq; refine ⟨?_, ?_⟩ <;> (first | omega | assumption | rfl | (exfalso; omega))))⟩) dX12_isArcher_19
  · have ic_2 : 0 ≤ x0.toInt := k_nlt c_2 rfl (by decide)
    refine lv_iload_n hx hb dX12_isArcher_4 rfl (lv_at hl 1 rfl) ?_
    refine lv_aload_n hx hb dX12_isArcher_5 rfl (lv_at hl 0 rfl) ?_
    refine va_get (D := D) (ci := 12) (v := .ref a_said) (C := RX12) (T := TX12) (N := 39) hx hb hG inG_X12 hown hE.1 hP 0 rfl rfl 20 (by decide) (hG _ q_f_X12_39) (fun _ h9 => h9) rfl dX12_isArcher_6 ?_
    refine lv_iconst (v := 5) hx hb dX12_isArcher_9 (by decide) ?_
    refine va_iald hx hb hE.1 hP 1 0 rfl rfl (by unfold vp_in; decide) dX12_isArcher_10 ?_
    refine k_top (z := (g_said 5)) rfl ?_
    refine lv_icmp_ge (tgt := 18) hx hb dX12_isArcher_11 (by decide) (fun c_3 => ?_) (fun c_3 => ?_)
    · have ic_3 : (g_said 5).toInt ≤ x0.toInt := k_le c_3 rfl rfl
      refine lv_iconst (v := 0) hx hb dX12_isArcher_18 (by decide) ?_
      have lit0 : (0 : Int32).toInt = 0 := by decide
      exact KP.rt F rfl (show ((0 : Int32).toInt = 0 ∨ (0 : Int32).toInt = 1) ∧ (((0 : Int32).toInt ≠ 0 → 0 ≤ x0.toInt ∧ x0.toInt < (g_said 5).toInt)) from ⟨(by first | omega | assumption), (by first | omega | (intro lq; refine ⟨?_, ?_⟩ <;> (first | omega | assumption | rfl | (exfalso; omega))))⟩) dX12_isArcher_19
    · have ic_3 : x0.toInt < (g_said 5).toInt := k_nle c_3 rfl rfl
      refine lv_iconst (v := 1) hx hb dX12_isArcher_14 (by decide) ?_
      refine lv_goto (tgt := 19) hx hb dX12_isArcher_15 (by decide) ?_
      have lit0 : (1 : Int32).toInt = 1 := by decide
      exact KP.rt F rfl (show ((1 : Int32).toInt = 0 ∨ (1 : Int32).toInt = 1) ∧ (((1 : Int32).toInt ≠ 0 → 0 ≤ x0.toInt ∧ x0.toInt < (g_said 5).toInt)) from ⟨(by first | omega | assumption), (by first | omega | (intro lq; refine ⟨?_, ?_⟩ <;> (first | omega | assumption | rfl | (exfalso; omega))))⟩) dX12_isArcher_19

set_option maxHeartbeats 4000000 in
set_option maxRecDepth 100000 in
theorem cm_isRule (l : Launch) (D : va_G) (cy : Nat → ClassId) (m0 : Nat) (a_tape : Nat) (a_sign : Nat) (a_length : Nat) (a_clause : Nat) (a_clauses : Nat) (a_read : Nat) (a_open : Nat) (a_stack : Nat) (a_word : Nat) (a_said : Nat) (a_planned : Nat) (a_cameOf : Nat) (a_wasSaid : Nat) (a_kept : Nat) (a_rowNow : Nat) (a_rowBest : Nat) (a_hasBy : Nat) (a_isFit : Nat) (a_cameThen : Nat) (a_images : Nat) (a_imageForce : Nat) (a_imageX : Nat) (a_isMade : Nat) (f_taped : Int32) (f_rules : Int32) (f_next : Int32) (f_wrong : Int32) (f_number : Int32) (f_text : Int32) (f_made : Int32) (f_deep : Int32) (f_lines : Int32) (f_opened : Int32) (f_top : Int32) (f_force : Int32) (f_x : Int32) (f_windAlone : Int32) (f_undone : Int32) (f_drawX : Int64) (x0 : Int32)  : KP l yX12_isRule cX12_isRule 2 (some .boolean) 0 0 D (kTY cy) [.ref m0, .int x0] [(m0, .inr (12, [.ref a_tape, .int f_taped, .int f_rules, .ref a_sign, .ref a_length, .ref a_clause, .ref a_clauses, .ref a_read, .int f_next, .int f_wrong, .int f_number, .int f_text, .int f_made, .int f_deep, .int f_lines, .ref a_open, .int f_opened, .ref a_stack, .int f_top, .ref a_word, .ref a_said, .int f_force, .int f_x, .int f_windAlone, .ref a_planned, .ref a_cameOf, .ref a_wasSaid, .int f_undone, .ref a_kept, .ref a_rowNow, .ref a_rowBest, .ref a_hasBy, .ref a_isFit, .ref a_cameThen, .long f_drawX, .ref a_images, .ref a_imageForce, .ref a_imageX, .ref a_isMade]))] (fun r => (r.toInt = 0 ∨ r.toInt = 1) ∧ ((r.toInt ≠ 0 → 0 ≤ x0.toInt ∧ x0.toInt < f_rules.toInt))) := by
  refine KP.of (by decide) (Nat.le_of_ble_eq_true rfl) (fun p e s m below meth c ls F hE hP hl => ?_)
  have F : kF p s m meth c cX12_isRule 2 (some .boolean) _ RX12 := F
  obtain ⟨hx, hb, hr, hml, hown, hG, hlk⟩ := id F
  have hl : lv_has ls 2 [(0, .ref m0), (1, .int x0)] := hl
  refine lv_iload_n hx hb dX12_isRule_0 rfl (lv_at hl 1 rfl) ?_
  refine lv_if_lt (tgt := 16) hx hb dX12_isRule_1 (by decide) (fun c_1 => ?_) (fun c_1 => ?_)
  · have ic_1 : x0.toInt < 0 := k_lt c_1 rfl (by decide)
    refine lv_iconst (v := 0) hx hb dX12_isRule_16 (by decide) ?_
    have lit0 : (0 : Int32).toInt = 0 := by decide
    exact KP.rt F rfl (show ((0 : Int32).toInt = 0 ∨ (0 : Int32).toInt = 1) ∧ (((0 : Int32).toInt ≠ 0 → 0 ≤ x0.toInt ∧ x0.toInt < f_rules.toInt)) from ⟨(by first | omega | assumption), (by first | omega | (intro lq; refine ⟨?_, ?_⟩ <;> (first | omega | assumption | rfl | (exfalso; omega))))⟩) dX12_isRule_17
  · have ic_1 : 0 ≤ x0.toInt := k_nlt c_1 rfl (by decide)
    refine lv_iload_n hx hb dX12_isRule_4 rfl (lv_at hl 1 rfl) ?_
    refine lv_aload_n hx hb dX12_isRule_5 rfl (lv_at hl 0 rfl) ?_
    refine va_get (D := D) (ci := 12) (v := .int f_rules) (C := RX12) (T := TX12) (N := 39) hx hb hG inG_X12 hown hE.1 hP 0 rfl rfl 2 (by decide) (hG _ q_f_X12_267) (fun _ h9 => h9) rfl dX12_isRule_6 ?_
    refine lv_icmp_ge (tgt := 16) hx hb dX12_isRule_9 (by decide) (fun c_2 => ?_) (fun c_2 => ?_)
    · have ic_2 : f_rules.toInt ≤ x0.toInt := k_le c_2 rfl rfl
      refine lv_iconst (v := 0) hx hb dX12_isRule_16 (by decide) ?_
      have lit0 : (0 : Int32).toInt = 0 := by decide
      exact KP.rt F rfl (show ((0 : Int32).toInt = 0 ∨ (0 : Int32).toInt = 1) ∧ (((0 : Int32).toInt ≠ 0 → 0 ≤ x0.toInt ∧ x0.toInt < f_rules.toInt)) from ⟨(by first | omega | assumption), (by first | omega | (intro lq; refine ⟨?_, ?_⟩ <;> (first | omega | assumption | rfl | (exfalso; omega))))⟩) dX12_isRule_17
    · have ic_2 : x0.toInt < f_rules.toInt := k_nle c_2 rfl rfl
      refine lv_iconst (v := 1) hx hb dX12_isRule_12 (by decide) ?_
      refine lv_goto (tgt := 17) hx hb dX12_isRule_13 (by decide) ?_
      have lit0 : (1 : Int32).toInt = 1 := by decide
      exact KP.rt F rfl (show ((1 : Int32).toInt = 0 ∨ (1 : Int32).toInt = 1) ∧ (((1 : Int32).toInt ≠ 0 → 0 ≤ x0.toInt ∧ x0.toInt < f_rules.toInt)) from ⟨(by first | omega | assumption), (by first | omega | (intro lq; refine ⟨?_, ?_⟩ <;> (first | omega | assumption | rfl | (exfalso; omega))))⟩) dX12_isRule_17

set_option maxHeartbeats 4000000 in
set_option maxRecDepth 100000 in
theorem cm_windOn (l : Launch) (D : va_G) (cy : Nat → ClassId) (m0 : Nat) (a_tape : Nat) (a_sign : Nat) (a_length : Nat) (a_clause : Nat) (a_clauses : Nat) (a_read : Nat) (a_open : Nat) (a_stack : Nat) (a_word : Nat) (a_said : Nat) (a_planned : Nat) (a_cameOf : Nat) (a_wasSaid : Nat) (a_kept : Nat) (a_rowNow : Nat) (a_rowBest : Nat) (a_hasBy : Nat) (a_isFit : Nat) (a_cameThen : Nat) (a_images : Nat) (a_imageForce : Nat) (a_imageX : Nat) (a_isMade : Nat) (f_taped : Int32) (f_rules : Int32) (f_next : Int32) (f_wrong : Int32) (f_number : Int32) (f_text : Int32) (f_made : Int32) (f_deep : Int32) (f_lines : Int32) (f_opened : Int32) (f_top : Int32) (f_force : Int32) (f_x : Int32) (f_windAlone : Int32) (f_undone : Int32) (f_drawX : Int64) (g_said : Nat → Int32) (x0 : Int32) (h_g_said : SV g_said) : KP l yX12_windOn cX12_windOn 2 (some .int) 0 0 D (kTY cy) [.ref m0, .int x0] [(m0, .inr (12, [.ref a_tape, .int f_taped, .int f_rules, .ref a_sign, .ref a_length, .ref a_clause, .ref a_clauses, .ref a_read, .int f_next, .int f_wrong, .int f_number, .int f_text, .int f_made, .int f_deep, .int f_lines, .ref a_open, .int f_opened, .ref a_stack, .int f_top, .ref a_word, .ref a_said, .int f_force, .int f_x, .int f_windAlone, .ref a_planned, .ref a_cameOf, .ref a_wasSaid, .int f_undone, .ref a_kept, .ref a_rowNow, .ref a_rowBest, .ref a_hasBy, .ref a_isFit, .ref a_cameThen, .long f_drawX, .ref a_images, .ref a_imageForce, .ref a_imageX, .ref a_isMade])), (a_said, .inl (cy 0, 115, .inl g_said))] (fun r => True) := by
  refine KP.of (by decide) (Nat.le_of_ble_eq_true rfl) (fun p e s m below meth c ls F hE hP hl => ?_)
  have F : kF p s m meth c cX12_windOn 2 (some .int) _ RX12 := F
  obtain ⟨hx, hb, hr, hml, hown, hG, hlk⟩ := id F
  have hl : lv_has ls 2 [(0, .ref m0), (1, .int x0)] := hl
  have hr0_g_said : PR g_said g_said := PR.refl h_g_said
  obtain ⟨⟨b_1a, b_1b⟩, ⟨b_1c, b_1d⟩, ⟨b_1e, b_1f⟩, ⟨b_1g, b_1h⟩⟩ := SV.bounds (PR.sv hr0_g_said)
  refine lv_aload_n hx hb dX12_windOn_0 rfl (lv_at hl 0 rfl) ?_
  refine va_get (D := D) (ci := 12) (v := .ref a_said) (C := RX12) (T := TX12) (N := 39) hx hb hG inG_X12 hown hE.1 hP 0 rfl rfl 20 (by decide) (hG _ q_f_X12_39) (fun _ h9 => h9) rfl dX12_windOn_1 ?_
  refine lv_iconst (v := 3) hx hb dX12_windOn_4 (by decide) ?_
  refine va_iald hx hb hE.1 hP 1 0 rfl rfl (by unfold vp_in; decide) dX12_windOn_5 ?_
  refine k_top (z := (g_said 3)) rfl ?_
  refine lv_if_ne (tgt := 13) hx hb dX12_windOn_6 (by decide) (fun c_2 => ?_) (fun c_2 => ?_)
  · have ic_2 : (g_said 3).toInt ≠ 0 := k_ne c_2 rfl (by decide)
    refine lv_aload_n hx hb dX12_windOn_13 rfl (lv_at hl 0 rfl) ?_
    refine va_get (D := D) (ci := 12) (v := .ref a_said) (C := RX12) (T := TX12) (N := 39) hx hb hG inG_X12 hown hE.1 hP 0 rfl rfl 20 (by decide) (hG _ q_f_X12_39) (fun _ h9 => h9) rfl dX12_windOn_14 ?_
    refine lv_bipush (v := 56) hx hb dX12_windOn_17 (by decide) ?_
    refine lv_iload_n hx hb dX12_windOn_19 rfl (lv_at hl 1 rfl) ?_
    refine lv_aload_n hx hb dX12_windOn_20 rfl (lv_at hl 0 rfl) ?_
    refine va_get (D := D) (ci := 12) (v := .ref a_said) (C := RX12) (T := TX12) (N := 39) hx hb hG inG_X12 hown hE.1 hP 0 rfl rfl 20 (by decide) (hG _ q_f_X12_39) (fun _ h9 => h9) rfl dX12_windOn_21 ?_
    refine lv_iconst (v := 3) hx hb dX12_windOn_24 (by decide) ?_
    refine va_iald hx hb hE.1 hP 1 0 rfl rfl (by unfold vp_in; decide) dX12_windOn_25 ?_
    refine k_top (z := (g_said 3)) rfl ?_
    refine lv_irem hx hb dX12_windOn_26 (k_nz (by omega)) ?_
    refine lv_topi (fun z_3 ez_3 => ?_)
    have iz_3 := k_remI (b := (g_said 3).toInt) ez_3 rfl (by omega)
    obtain ⟨iz_3a, iz_3b, iz_3c⟩ := iz_3
    refine lv_iadd hx hb dX12_windOn_27 ?_
    refine lv_topi (fun z_4 ez_4 => ?_)
    have iz_4 : z_4.toInt = 56 + z_3.toInt := k_addI ez_4 (by decide) rfl (by omega)
    refine va_iald hx hb hE.1 hP 1 0 rfl rfl (k_in (by omega)) dX12_windOn_28 ?_
    refine k_top (z := (g_said (Int32.toNatClampNeg z_4))) rfl ?_
    exact KP.rt F rfl trivial dX12_windOn_29
  · have ic_2 : (g_said 3).toInt = 0 := k_eq c_2 rfl (by decide)
    refine lv_iconst (v := 4) hx hb dX12_windOn_9 (by decide) ?_
    refine lv_goto (tgt := 29) hx hb dX12_windOn_10 (by decide) ?_
    have lit0 : (4 : Int32).toInt = 4 := by decide
    exact KP.rt F rfl trivial dX12_windOn_29

set_option maxHeartbeats 4000000 in
set_option maxRecDepth 100000 in
theorem cm_windNow (l : Launch) (D : va_G) (cy : Nat → ClassId) (m0 : Nat) (a_tape : Nat) (a_sign : Nat) (a_length : Nat) (a_clause : Nat) (a_clauses : Nat) (a_read : Nat) (a_open : Nat) (a_stack : Nat) (a_word : Nat) (a_said : Nat) (a_planned : Nat) (a_cameOf : Nat) (a_wasSaid : Nat) (a_kept : Nat) (a_rowNow : Nat) (a_rowBest : Nat) (a_hasBy : Nat) (a_isFit : Nat) (a_cameThen : Nat) (a_images : Nat) (a_imageForce : Nat) (a_imageX : Nat) (a_isMade : Nat) (f_taped : Int32) (f_rules : Int32) (f_next : Int32) (f_wrong : Int32) (f_number : Int32) (f_text : Int32) (f_made : Int32) (f_deep : Int32) (f_lines : Int32) (f_opened : Int32) (f_top : Int32) (f_force : Int32) (f_x : Int32) (f_windAlone : Int32) (f_undone : Int32) (f_drawX : Int64) (g_said : Nat → Int32) (h_g_said : SV g_said) : KP l yX12_windNow cX12_windNow 1 (some .int) 1 21 D (kTY cy) [.ref m0] [(m0, .inr (12, [.ref a_tape, .int f_taped, .int f_rules, .ref a_sign, .ref a_length, .ref a_clause, .ref a_clauses, .ref a_read, .int f_next, .int f_wrong, .int f_number, .int f_text, .int f_made, .int f_deep, .int f_lines, .ref a_open, .int f_opened, .ref a_stack, .int f_top, .ref a_word, .ref a_said, .int f_force, .int f_x, .int f_windAlone, .ref a_planned, .ref a_cameOf, .ref a_wasSaid, .int f_undone, .ref a_kept, .ref a_rowNow, .ref a_rowBest, .ref a_hasBy, .ref a_isFit, .ref a_cameThen, .long f_drawX, .ref a_images, .ref a_imageForce, .ref a_imageX, .ref a_isMade])), (a_said, .inl (cy 0, 115, .inl g_said))] (fun r => True) := by
  refine KP.of (by decide) (Nat.le_of_ble_eq_true rfl) (fun p e s m below meth c ls F hE hP hl => ?_)
  have F : kF p s m meth c cX12_windNow 1 (some .int) _ RX12 := F
  obtain ⟨hx, hb, hr, hml, hown, hG, hlk⟩ := id F
  have hl : lv_has ls 1 [(0, .ref m0)] := hl
  have hr0_g_said : PR g_said g_said := PR.refl h_g_said
  obtain ⟨⟨b_1a, b_1b⟩, ⟨b_1c, b_1d⟩, ⟨b_1e, b_1f⟩, ⟨b_1g, b_1h⟩⟩ := SV.bounds (PR.sv hr0_g_said)
  refine lv_aload_n hx hb dX12_windNow_0 rfl (lv_at hl 0 rfl) ?_
  refine va_get (D := D) (ci := 12) (v := .int f_windAlone) (C := RX12) (T := TX12) (N := 39) hx hb hG inG_X12 hown hE.1 hP 0 rfl rfl 23 (by decide) (hG _ q_f_X12_46) (fun _ h9 => h9) rfl dX12_windNow_1 ?_
  refine lv_if_lt (tgt := 14) hx hb dX12_windNow_4 (by decide) (fun c_2 => ?_) (fun c_2 => ?_)
  · have ic_2 : f_windAlone.toInt < 0 := k_lt c_2 rfl (by decide)
    refine lv_aload_n hx hb dX12_windNow_14 rfl (lv_at hl 0 rfl) ?_
    refine lv_aload_n hx hb dX12_windNow_15 rfl (lv_at hl 0 rfl) ?_
    refine va_get (D := D) (ci := 12) (v := .ref a_said) (C := RX12) (T := TX12) (N := 39) hx hb hG inG_X12 hown hE.1 hP 0 rfl rfl 20 (by decide) (hG _ q_f_X12_39) (fun _ h9 => h9) rfl dX12_windNow_16 ?_
    refine lv_bipush (v := 11) hx hb dX12_windNow_19 (by decide) ?_
    refine va_iald hx hb hE.1 hP 1 0 rfl rfl (by unfold vp_in; decide) dX12_windNow_21 ?_
    refine k_top (z := (g_said 11)) rfl ?_
    refine kcV (As := [.int (g_said 11)]) (rest := []) F hE hP hl.1 (cm_windOn l D cy (m0 := m0) (x0 := (g_said 11)) (a_tape := a_tape) (f_taped := f_taped) (f_rules := f_rules) (a_sign := a_sign) (a_length := a_length) (a_clause := a_clause) (a_clauses := a_clauses) (a_read := a_read) (f_next := f_next) (f_wrong := f_wrong) (f_number := f_number) (f_text := f_text) (f_made := f_made) (f_deep := f_deep) (f_lines := f_lines) (a_open := a_open) (f_opened := f_opened) (a_stack := a_stack) (f_top := f_top) (a_word := a_word) (a_said := a_said) (f_force := f_force) (f_x := f_x) (f_windAlone := f_windAlone) (a_planned := a_planned) (a_cameOf := a_cameOf) (a_wasSaid := a_wasSaid) (f_undone := f_undone) (a_kept := a_kept) (a_rowNow := a_rowNow) (a_rowBest := a_rowBest) (a_hasBy := a_hasBy) (a_isFit := a_isFit) (a_cameThen := a_cameThen) (f_drawX := f_drawX) (a_images := a_images) (a_imageForce := a_imageForce) (a_imageX := a_imageX) (a_isMade := a_isMade) (g_said := g_said) (h_g_said := (PR.sv hr0_g_said))) q_m_X12_297 mv_X12_windOn ⟨(Nat.le_of_ble_eq_true rfl), (Nat.le_of_ble_eq_true rfl)⟩ [0, 1] rfl rfl rfl rfl rfl rfl (Nat.le_of_ble_eq_true rfl) ⟨(Nat.le_of_ble_eq_true rfl), (Nat.le_of_ble_eq_true rfl)⟩ dX12_windNow_22 (fun r_3 er_3 => ?_)
    exact KP.rt F rfl trivial dX12_windNow_25
  · have ic_2 : 0 ≤ f_windAlone.toInt := k_nlt c_2 rfl (by decide)
    refine lv_aload_n hx hb dX12_windNow_7 rfl (lv_at hl 0 rfl) ?_
    refine va_get (D := D) (ci := 12) (v := .int f_windAlone) (C := RX12) (T := TX12) (N := 39) hx hb hG inG_X12 hown hE.1 hP 0 rfl rfl 23 (by decide) (hG _ q_f_X12_46) (fun _ h9 => h9) rfl dX12_windNow_8 ?_
    refine lv_goto (tgt := 25) hx hb dX12_windNow_11 (by decide) ?_
    exact KP.rt F rfl trivial dX12_windNow_25

set_option maxHeartbeats 4000000 in
set_option maxRecDepth 100000 in
theorem cm_skillOf (l : Launch) (D : va_G) (cy : Nat → ClassId) (m0 : Nat) (a_tape : Nat) (a_sign : Nat) (a_length : Nat) (a_clause : Nat) (a_clauses : Nat) (a_read : Nat) (a_open : Nat) (a_stack : Nat) (a_word : Nat) (a_said : Nat) (a_planned : Nat) (a_cameOf : Nat) (a_wasSaid : Nat) (a_kept : Nat) (a_rowNow : Nat) (a_rowBest : Nat) (a_hasBy : Nat) (a_isFit : Nat) (a_cameThen : Nat) (a_images : Nat) (a_imageForce : Nat) (a_imageX : Nat) (a_isMade : Nat) (f_taped : Int32) (f_rules : Int32) (f_next : Int32) (f_wrong : Int32) (f_number : Int32) (f_text : Int32) (f_made : Int32) (f_deep : Int32) (f_lines : Int32) (f_opened : Int32) (f_top : Int32) (f_force : Int32) (f_x : Int32) (f_windAlone : Int32) (f_undone : Int32) (f_drawX : Int64) (g_said : Nat → Int32) (x0 : Int32) (h_g_said : SV g_said) (p0 : 0 ≤ x0.toInt) (p1 : x0.toInt ≤ 4) : KP l yX12_skillOf cX12_skillOf 2 (some .int) 0 0 D (kTY cy) [.ref m0, .int x0] [(m0, .inr (12, [.ref a_tape, .int f_taped, .int f_rules, .ref a_sign, .ref a_length, .ref a_clause, .ref a_clauses, .ref a_read, .int f_next, .int f_wrong, .int f_number, .int f_text, .int f_made, .int f_deep, .int f_lines, .ref a_open, .int f_opened, .ref a_stack, .int f_top, .ref a_word, .ref a_said, .int f_force, .int f_x, .int f_windAlone, .ref a_planned, .ref a_cameOf, .ref a_wasSaid, .int f_undone, .ref a_kept, .ref a_rowNow, .ref a_rowBest, .ref a_hasBy, .ref a_isFit, .ref a_cameThen, .long f_drawX, .ref a_images, .ref a_imageForce, .ref a_imageX, .ref a_isMade])), (a_said, .inl (cy 0, 115, .inl g_said))] (fun r => (x0.toInt < (g_said 5).toInt → 1 ≤ r.toInt)) := by
  refine KP.of (by decide) (Nat.le_of_ble_eq_true rfl) (fun p e s m below meth c ls F hE hP hl => ?_)
  have F : kF p s m meth c cX12_skillOf 2 (some .int) _ RX12 := F
  obtain ⟨hx, hb, hr, hml, hown, hG, hlk⟩ := id F
  have hl : lv_has ls 2 [(0, .ref m0), (1, .int x0)] := hl
  have hr0_g_said : PR g_said g_said := PR.refl h_g_said
  obtain ⟨⟨b_1a, b_1b⟩, ⟨b_1c, b_1d⟩, ⟨b_1e, b_1f⟩, ⟨b_1g, b_1h⟩⟩ := SV.bounds (PR.sv hr0_g_said)
  refine lv_aload_n hx hb dX12_skillOf_0 rfl (lv_at hl 0 rfl) ?_
  refine va_get (D := D) (ci := 12) (v := .ref a_said) (C := RX12) (T := TX12) (N := 39) hx hb hG inG_X12 hown hE.1 hP 0 rfl rfl 20 (by decide) (hG _ q_f_X12_39) (fun _ h9 => h9) rfl dX12_skillOf_1 ?_
  refine lv_bipush (v := 25) hx hb dX12_skillOf_4 (by decide) ?_
  refine lv_iconst (v := 3) hx hb dX12_skillOf_6 (by decide) ?_
  refine lv_iload_n hx hb dX12_skillOf_7 rfl (lv_at hl 1 rfl) ?_
  refine lv_imul hx hb dX12_skillOf_8 ?_
  refine lv_topi (fun z_2 ez_2 => ?_)
  have iz_2 : z_2.toInt = 3 * x0.toInt := k_mulI ez_2 (by decide) rfl (by omega)
  refine lv_iadd hx hb dX12_skillOf_9 ?_
  refine lv_topi (fun z_3 ez_3 => ?_)
  have iz_3 : z_3.toInt = 25 + z_2.toInt := k_addI ez_3 (by decide) rfl (by omega)
  have sk : x0.toInt < (g_said 5).toInt → 1 ≤ (g_said (Int32.toNatClampNeg z_3)).toInt := fun q => SV.skill h_g_said z_3 x0.toInt ⟨by omega, by omega, q⟩
  refine va_iald hx hb hE.1 hP 1 0 rfl rfl (k_in (by omega)) dX12_skillOf_10 ?_
  refine k_top (z := (g_said (Int32.toNatClampNeg z_3))) rfl ?_
  exact KP.rt F rfl (show (x0.toInt < (g_said 5).toInt → 1 ≤ (g_said (Int32.toNatClampNeg z_3)).toInt) from (by first | omega | assumption)) dX12_skillOf_11

set_option maxHeartbeats 4000000 in
set_option maxRecDepth 100000 in
theorem cm_illOf (l : Launch) (D : va_G) (cy : Nat → ClassId) (m0 : Nat) (a_tape : Nat) (a_sign : Nat) (a_length : Nat) (a_clause : Nat) (a_clauses : Nat) (a_read : Nat) (a_open : Nat) (a_stack : Nat) (a_word : Nat) (a_said : Nat) (a_planned : Nat) (a_cameOf : Nat) (a_wasSaid : Nat) (a_kept : Nat) (a_rowNow : Nat) (a_rowBest : Nat) (a_hasBy : Nat) (a_isFit : Nat) (a_cameThen : Nat) (a_images : Nat) (a_imageForce : Nat) (a_imageX : Nat) (a_isMade : Nat) (f_taped : Int32) (f_rules : Int32) (f_next : Int32) (f_wrong : Int32) (f_number : Int32) (f_text : Int32) (f_made : Int32) (f_deep : Int32) (f_lines : Int32) (f_opened : Int32) (f_top : Int32) (f_force : Int32) (f_x : Int32) (f_windAlone : Int32) (f_undone : Int32) (f_drawX : Int64) (g_said : Nat → Int32) (x0 : Int32) (h_g_said : SV g_said) (p0 : 0 ≤ x0.toInt) (p1 : x0.toInt ≤ 4) : KP l yX12_illOf cX12_illOf 2 (some .int) 0 0 D (kTY cy) [.ref m0, .int x0] [(m0, .inr (12, [.ref a_tape, .int f_taped, .int f_rules, .ref a_sign, .ref a_length, .ref a_clause, .ref a_clauses, .ref a_read, .int f_next, .int f_wrong, .int f_number, .int f_text, .int f_made, .int f_deep, .int f_lines, .ref a_open, .int f_opened, .ref a_stack, .int f_top, .ref a_word, .ref a_said, .int f_force, .int f_x, .int f_windAlone, .ref a_planned, .ref a_cameOf, .ref a_wasSaid, .int f_undone, .ref a_kept, .ref a_rowNow, .ref a_rowBest, .ref a_hasBy, .ref a_isFit, .ref a_cameThen, .long f_drawX, .ref a_images, .ref a_imageForce, .ref a_imageX, .ref a_isMade])), (a_said, .inl (cy 0, 115, .inl g_said))] (fun r => True) := by
  refine KP.of (by decide) (Nat.le_of_ble_eq_true rfl) (fun p e s m below meth c ls F hE hP hl => ?_)
  have F : kF p s m meth c cX12_illOf 2 (some .int) _ RX12 := F
  obtain ⟨hx, hb, hr, hml, hown, hG, hlk⟩ := id F
  have hl : lv_has ls 2 [(0, .ref m0), (1, .int x0)] := hl
  have hr0_g_said : PR g_said g_said := PR.refl h_g_said
  obtain ⟨⟨b_1a, b_1b⟩, ⟨b_1c, b_1d⟩, ⟨b_1e, b_1f⟩, ⟨b_1g, b_1h⟩⟩ := SV.bounds (PR.sv hr0_g_said)
  refine lv_aload_n hx hb dX12_illOf_0 rfl (lv_at hl 0 rfl) ?_
  refine va_get (D := D) (ci := 12) (v := .ref a_said) (C := RX12) (T := TX12) (N := 39) hx hb hG inG_X12 hown hE.1 hP 0 rfl rfl 20 (by decide) (hG _ q_f_X12_39) (fun _ h9 => h9) rfl dX12_illOf_1 ?_
  refine lv_bipush (v := 25) hx hb dX12_illOf_4 (by decide) ?_
  refine lv_iconst (v := 3) hx hb dX12_illOf_6 (by decide) ?_
  refine lv_iload_n hx hb dX12_illOf_7 rfl (lv_at hl 1 rfl) ?_
  refine lv_imul hx hb dX12_illOf_8 ?_
  refine lv_topi (fun z_2 ez_2 => ?_)
  have iz_2 : z_2.toInt = 3 * x0.toInt := k_mulI ez_2 (by decide) rfl (by omega)
  refine lv_iadd hx hb dX12_illOf_9 ?_
  refine lv_topi (fun z_3 ez_3 => ?_)
  have iz_3 : z_3.toInt = 25 + z_2.toInt := k_addI ez_3 (by decide) rfl (by omega)
  refine lv_iconst (v := 1) hx hb dX12_illOf_10 (by decide) ?_
  refine lv_iadd hx hb dX12_illOf_11 ?_
  refine lv_topi (fun z_4 ez_4 => ?_)
  have iz_4 : z_4.toInt = z_3.toInt + 1 := k_addI ez_4 rfl (by decide) (by omega)
  refine va_iald hx hb hE.1 hP 1 0 rfl rfl (k_in (by omega)) dX12_illOf_12 ?_
  refine k_top (z := (g_said (Int32.toNatClampNeg z_4))) rfl ?_
  exact KP.rt F rfl trivial dX12_illOf_13

set_option maxHeartbeats 4000000 in
set_option maxRecDepth 100000 in
theorem cm_arrowsOf (l : Launch) (D : va_G) (cy : Nat → ClassId) (m0 : Nat) (a_tape : Nat) (a_sign : Nat) (a_length : Nat) (a_clause : Nat) (a_clauses : Nat) (a_read : Nat) (a_open : Nat) (a_stack : Nat) (a_word : Nat) (a_said : Nat) (a_planned : Nat) (a_cameOf : Nat) (a_wasSaid : Nat) (a_kept : Nat) (a_rowNow : Nat) (a_rowBest : Nat) (a_hasBy : Nat) (a_isFit : Nat) (a_cameThen : Nat) (a_images : Nat) (a_imageForce : Nat) (a_imageX : Nat) (a_isMade : Nat) (f_taped : Int32) (f_rules : Int32) (f_next : Int32) (f_wrong : Int32) (f_number : Int32) (f_text : Int32) (f_made : Int32) (f_deep : Int32) (f_lines : Int32) (f_opened : Int32) (f_top : Int32) (f_force : Int32) (f_x : Int32) (f_windAlone : Int32) (f_undone : Int32) (f_drawX : Int64) (g_said : Nat → Int32) (x0 : Int32) (h_g_said : SV g_said) (p0 : 0 ≤ x0.toInt) (p1 : x0.toInt ≤ 4) : KP l yX12_arrowsOf cX12_arrowsOf 2 (some .int) 0 0 D (kTY cy) [.ref m0, .int x0] [(m0, .inr (12, [.ref a_tape, .int f_taped, .int f_rules, .ref a_sign, .ref a_length, .ref a_clause, .ref a_clauses, .ref a_read, .int f_next, .int f_wrong, .int f_number, .int f_text, .int f_made, .int f_deep, .int f_lines, .ref a_open, .int f_opened, .ref a_stack, .int f_top, .ref a_word, .ref a_said, .int f_force, .int f_x, .int f_windAlone, .ref a_planned, .ref a_cameOf, .ref a_wasSaid, .int f_undone, .ref a_kept, .ref a_rowNow, .ref a_rowBest, .ref a_hasBy, .ref a_isFit, .ref a_cameThen, .long f_drawX, .ref a_images, .ref a_imageForce, .ref a_imageX, .ref a_isMade])), (a_said, .inl (cy 0, 115, .inl g_said))] (fun r => True) := by
  refine KP.of (by decide) (Nat.le_of_ble_eq_true rfl) (fun p e s m below meth c ls F hE hP hl => ?_)
  have F : kF p s m meth c cX12_arrowsOf 2 (some .int) _ RX12 := F
  obtain ⟨hx, hb, hr, hml, hown, hG, hlk⟩ := id F
  have hl : lv_has ls 2 [(0, .ref m0), (1, .int x0)] := hl
  have hr0_g_said : PR g_said g_said := PR.refl h_g_said
  obtain ⟨⟨b_1a, b_1b⟩, ⟨b_1c, b_1d⟩, ⟨b_1e, b_1f⟩, ⟨b_1g, b_1h⟩⟩ := SV.bounds (PR.sv hr0_g_said)
  refine lv_aload_n hx hb dX12_arrowsOf_0 rfl (lv_at hl 0 rfl) ?_
  refine va_get (D := D) (ci := 12) (v := .ref a_said) (C := RX12) (T := TX12) (N := 39) hx hb hG inG_X12 hown hE.1 hP 0 rfl rfl 20 (by decide) (hG _ q_f_X12_39) (fun _ h9 => h9) rfl dX12_arrowsOf_1 ?_
  refine lv_bipush (v := 25) hx hb dX12_arrowsOf_4 (by decide) ?_
  refine lv_iconst (v := 3) hx hb dX12_arrowsOf_6 (by decide) ?_
  refine lv_iload_n hx hb dX12_arrowsOf_7 rfl (lv_at hl 1 rfl) ?_
  refine lv_imul hx hb dX12_arrowsOf_8 ?_
  refine lv_topi (fun z_2 ez_2 => ?_)
  have iz_2 : z_2.toInt = 3 * x0.toInt := k_mulI ez_2 (by decide) rfl (by omega)
  refine lv_iadd hx hb dX12_arrowsOf_9 ?_
  refine lv_topi (fun z_3 ez_3 => ?_)
  have iz_3 : z_3.toInt = 25 + z_2.toInt := k_addI ez_3 (by decide) rfl (by omega)
  refine lv_iconst (v := 2) hx hb dX12_arrowsOf_10 (by decide) ?_
  refine lv_iadd hx hb dX12_arrowsOf_11 ?_
  refine lv_topi (fun z_4 ez_4 => ?_)
  have iz_4 : z_4.toInt = z_3.toInt + 2 := k_addI ez_4 rfl (by decide) (by omega)
  refine va_iald hx hb hE.1 hP 1 0 rfl rfl (k_in (by omega)) dX12_arrowsOf_12 ?_
  refine k_top (z := (g_said (Int32.toNatClampNeg z_4))) rfl ?_
  exact KP.rt F rfl trivial dX12_arrowsOf_13

set_option maxHeartbeats 4000000 in
set_option maxRecDepth 100000 in
theorem cm_sumOver (l : Launch) (D : va_G) (cy : Nat → ClassId) (m0 : Nat) (a_tape : Nat) (a_sign : Nat) (a_length : Nat) (a_clause : Nat) (a_clauses : Nat) (a_read : Nat) (a_open : Nat) (a_stack : Nat) (a_word : Nat) (a_said : Nat) (a_planned : Nat) (a_cameOf : Nat) (a_wasSaid : Nat) (a_kept : Nat) (a_rowNow : Nat) (a_rowBest : Nat) (a_hasBy : Nat) (a_isFit : Nat) (a_cameThen : Nat) (a_images : Nat) (a_imageForce : Nat) (a_imageX : Nat) (a_isMade : Nat) (f_taped : Int32) (f_rules : Int32) (f_next : Int32) (f_wrong : Int32) (f_number : Int32) (f_text : Int32) (f_made : Int32) (f_deep : Int32) (f_lines : Int32) (f_opened : Int32) (f_top : Int32) (f_force : Int32) (f_x : Int32) (f_windAlone : Int32) (f_undone : Int32) (f_drawX : Int64) (g_said : Nat → Int32) (x0 : Int32) (h_g_said : SV g_said) (p0 : 0 ≤ x0.toInt) (p1 : x0.toInt ≤ 2) : KP l yX12_sumOver cX12_sumOver 4 (some .int) 0 0 D (kTY cy) [.ref m0, .int x0] [(m0, .inr (12, [.ref a_tape, .int f_taped, .int f_rules, .ref a_sign, .ref a_length, .ref a_clause, .ref a_clauses, .ref a_read, .int f_next, .int f_wrong, .int f_number, .int f_text, .int f_made, .int f_deep, .int f_lines, .ref a_open, .int f_opened, .ref a_stack, .int f_top, .ref a_word, .ref a_said, .int f_force, .int f_x, .int f_windAlone, .ref a_planned, .ref a_cameOf, .ref a_wasSaid, .int f_undone, .ref a_kept, .ref a_rowNow, .ref a_rowBest, .ref a_hasBy, .ref a_isFit, .ref a_cameThen, .long f_drawX, .ref a_images, .ref a_imageForce, .ref a_imageX, .ref a_isMade])), (a_said, .inl (cy 0, 115, .inl g_said))] (fun r => True) := by
  refine KP.of (by decide) (Nat.le_of_ble_eq_true rfl) (fun p e s m below meth c ls F hE hP hl => ?_)
  have F : kF p s m meth c cX12_sumOver 4 (some .int) _ RX12 := F
  obtain ⟨hx, hb, hr, hml, hown, hG, hlk⟩ := id F
  have hl : lv_has ls 4 [(0, .ref m0), (1, .int x0)] := hl
  have hr0_g_said : PR g_said g_said := PR.refl h_g_said
  obtain ⟨⟨b_1a, b_1b⟩, ⟨b_1c, b_1d⟩, ⟨b_1e, b_1f⟩, ⟨b_1g, b_1h⟩⟩ := SV.bounds (PR.sv hr0_g_said)
  refine lv_iconst (v := 0) hx hb dX12_sumOver_0 (by decide) ?_
  refine lv_istore_n (lv' := [(2, .int 0), (0, .ref m0), (1, .int x0)]) hx hb dX12_sumOver_1 rfl hl (by decide) rfl (fun ls hl => ?_)
  refine lv_iconst (v := 0) hx hb dX12_sumOver_2 (by decide) ?_
  refine lv_istore_n (lv' := [(3, .int 0), (2, .int 0), (0, .ref m0), (1, .int x0)]) hx hb dX12_sumOver_3 rfl hl (by decide) rfl (fun ls hl => ?_)
  have lp4 : ∀ (fu : Nat) (v3_4 : Int32) (v2_4 : Int32) (ls : Array Slot), (0 ≤ v3_4.toInt) → (v3_4.toInt ≤ 5) → 5 - v3_4.toInt < (fu : Int) → lv_has ls 4 [(3, .int v3_4), (2, .int v2_4), (0, .ref m0), (1, .int x0)] → W p l e (kR 0 0) s m ([.ref m0, .int x0] : List Value).toArray below meth c s.heap [] 0 0 (MQ below (kQ (fun r => True)) ([.ref m0, .int x0] : List Value).toArray s 0 0 (fun _ => False)) (F0 m 4 ls []) := by
    intro fu4
    induction fu4 with
    | zero =>
      intro v3_4 v2_4 ls j0_4 j1_4 hm4 hl
      exact absurd hm4 (by omega)
    | succ fu4 ih4 =>
      intro v3_4 v2_4 ls j0_4 j1_4 hm4 hl
      refine lv_iload_n hx hb dX12_sumOver_4 rfl (lv_at hl 0 rfl) ?_
      refine lv_aload_n hx hb dX12_sumOver_5 rfl (lv_at hl 2 rfl) ?_
      refine va_get (D := D) (ci := 12) (v := .ref a_said) (C := RX12) (T := TX12) (N := 39) hx hb hG inG_X12 hown hE.1 hP 0 rfl rfl 20 (by decide) (hG _ q_f_X12_39) (fun _ h9 => h9) rfl dX12_sumOver_6 ?_
      refine lv_iconst (v := 5) hx hb dX12_sumOver_9 (by decide) ?_
      refine va_iald hx hb hE.1 hP 1 0 rfl rfl (by unfold vp_in; decide) dX12_sumOver_10 ?_
      refine k_top (z := (g_said 5)) rfl ?_
      refine lv_icmp_ge (tgt := 36) hx hb dX12_sumOver_11 (by decide) (fun c_2 => ?_) (fun c_2 => ?_)
      · have ic_2 : (g_said 5).toInt ≤ v3_4.toInt := k_le c_2 rfl rfl
        refine lv_iload_n hx hb dX12_sumOver_36 rfl (lv_at hl 1 rfl) ?_
        exact KP.rt F rfl trivial dX12_sumOver_37
      · have ic_2 : v3_4.toInt < (g_said 5).toInt := k_nle c_2 rfl rfl
        refine lv_iload_n hx hb dX12_sumOver_14 rfl (lv_at hl 1 rfl) ?_
        refine lv_aload_n hx hb dX12_sumOver_15 rfl (lv_at hl 2 rfl) ?_
        refine va_get (D := D) (ci := 12) (v := .ref a_said) (C := RX12) (T := TX12) (N := 39) hx hb hG inG_X12 hown hE.1 hP 0 rfl rfl 20 (by decide) (hG _ q_f_X12_39) (fun _ h9 => h9) rfl dX12_sumOver_16 ?_
        refine lv_bipush (v := 25) hx hb dX12_sumOver_19 (by decide) ?_
        refine lv_iconst (v := 3) hx hb dX12_sumOver_21 (by decide) ?_
        refine lv_iload_n hx hb dX12_sumOver_22 rfl (lv_at hl 0 rfl) ?_
        refine lv_imul hx hb dX12_sumOver_23 ?_
        refine lv_topi (fun z_3 ez_3 => ?_)
        have iz_3 : z_3.toInt = 3 * v3_4.toInt := k_mulI ez_3 (by decide) rfl (by omega)
        refine lv_iadd hx hb dX12_sumOver_24 ?_
        refine lv_topi (fun z_4 ez_4 => ?_)
        have iz_4 : z_4.toInt = 25 + z_3.toInt := k_addI ez_4 (by decide) rfl (by omega)
        refine lv_iload_n hx hb dX12_sumOver_25 rfl (lv_at hl 3 rfl) ?_
        refine lv_iadd hx hb dX12_sumOver_26 ?_
        refine lv_topi (fun z_5 ez_5 => ?_)
        have iz_5 : z_5.toInt = z_4.toInt + x0.toInt := k_addI ez_5 rfl rfl (by omega)
        refine va_iald hx hb hE.1 hP 1 0 rfl rfl (k_in (by omega)) dX12_sumOver_27 ?_
        refine k_top (z := (g_said (Int32.toNatClampNeg z_5))) rfl ?_
        refine lv_iadd hx hb dX12_sumOver_28 ?_
        refine lv_topi (fun z_6 ez_6 => ?_)
        refine lv_istore_n (lv' := [(2, .int z_6), (3, .int v3_4), (0, .ref m0), (1, .int x0)]) hx hb dX12_sumOver_29 rfl hl (by decide) rfl (fun ls hl => ?_)
        obtain ⟨z_7, ez_7⟩ : ∃ y : Int32, y = v3_4 + Int32.ofInt 1 := ⟨_, rfl⟩
        have iz_7 : z_7.toInt = v3_4.toInt + 1 := k_addI ez_7 rfl (by decide) (by omega)
        refine lv_iinc (v := z_7) (lv' := [(3, .int z_7), (2, .int z_6), (0, .ref m0), (1, .int x0)]) hx hb dX12_sumOver_30 hl (k := 1) rfl ez_7.symm (by decide) rfl (fun ls hl => ?_)
        refine lv_goto (tgt := 4) hx hb dX12_sumOver_33 (by decide) ?_
        exact ih4 z_7 z_6 ls (by first | omega | assumption) (by first | omega | assumption) (by omega) (lv_sub hl [0, 1, 2, 3] rfl)
  have lt_8 : (0 : Int32).toInt = 0 := by decide
  exact lp4 100000 0 0 ls (by first | omega | assumption) (by first | omega | assumption) (by omega) hl

set_option maxHeartbeats 4000000 in
set_option maxRecDepth 100000 in
theorem cm_driftOf (l : Launch) (D : va_G) (cy : Nat → ClassId) (m0 : Nat) (a_tape : Nat) (a_sign : Nat) (a_length : Nat) (a_clause : Nat) (a_clauses : Nat) (a_read : Nat) (a_open : Nat) (a_stack : Nat) (a_word : Nat) (a_said : Nat) (a_planned : Nat) (a_cameOf : Nat) (a_wasSaid : Nat) (a_kept : Nat) (a_rowNow : Nat) (a_rowBest : Nat) (a_hasBy : Nat) (a_isFit : Nat) (a_cameThen : Nat) (a_images : Nat) (a_imageForce : Nat) (a_imageX : Nat) (a_isMade : Nat) (f_taped : Int32) (f_rules : Int32) (f_next : Int32) (f_wrong : Int32) (f_number : Int32) (f_text : Int32) (f_made : Int32) (f_deep : Int32) (f_lines : Int32) (f_opened : Int32) (f_top : Int32) (f_force : Int32) (f_x : Int32) (f_windAlone : Int32) (f_undone : Int32) (f_drawX : Int64) (g_said : Nat → Int32) (x0 : Int32) (h_g_said : SV g_said) (p0 : 0 ≤ x0.toInt) (p1 : x0.toInt < (g_said 5).toInt) : KP l yX12_driftOf cX12_driftOf 2 (some .int) 2 41 D (kTY cy) [.ref m0, .int x0] [(m0, .inr (12, [.ref a_tape, .int f_taped, .int f_rules, .ref a_sign, .ref a_length, .ref a_clause, .ref a_clauses, .ref a_read, .int f_next, .int f_wrong, .int f_number, .int f_text, .int f_made, .int f_deep, .int f_lines, .ref a_open, .int f_opened, .ref a_stack, .int f_top, .ref a_word, .ref a_said, .int f_force, .int f_x, .int f_windAlone, .ref a_planned, .ref a_cameOf, .ref a_wasSaid, .int f_undone, .ref a_kept, .ref a_rowNow, .ref a_rowBest, .ref a_hasBy, .ref a_isFit, .ref a_cameThen, .long f_drawX, .ref a_images, .ref a_imageForce, .ref a_imageX, .ref a_isMade])), (a_said, .inl (cy 0, 115, .inl g_said))] (fun r => True) := by
  refine KP.of (by decide) (Nat.le_of_ble_eq_true rfl) (fun p e s m below meth c ls F hE hP hl => ?_)
  have F : kF p s m meth c cX12_driftOf 2 (some .int) _ RX12 := F
  obtain ⟨hx, hb, hr, hml, hown, hG, hlk⟩ := id F
  have hl : lv_has ls 2 [(0, .ref m0), (1, .int x0)] := hl
  have hr0_g_said : PR g_said g_said := PR.refl h_g_said
  obtain ⟨⟨b_1a, b_1b⟩, ⟨b_1c, b_1d⟩, ⟨b_1e, b_1f⟩, ⟨b_1g, b_1h⟩⟩ := SV.bounds (PR.sv hr0_g_said)
  refine lv_aload_n hx hb dX12_driftOf_0 rfl (lv_at hl 0 rfl) ?_
  refine kcV (As := []) (rest := []) F hE hP hl.1 (cm_windNow l D cy (m0 := m0) (a_tape := a_tape) (f_taped := f_taped) (f_rules := f_rules) (a_sign := a_sign) (a_length := a_length) (a_clause := a_clause) (a_clauses := a_clauses) (a_read := a_read) (f_next := f_next) (f_wrong := f_wrong) (f_number := f_number) (f_text := f_text) (f_made := f_made) (f_deep := f_deep) (f_lines := f_lines) (a_open := a_open) (f_opened := f_opened) (a_stack := a_stack) (f_top := f_top) (a_word := a_word) (a_said := a_said) (f_force := f_force) (f_x := f_x) (f_windAlone := f_windAlone) (a_planned := a_planned) (a_cameOf := a_cameOf) (a_wasSaid := a_wasSaid) (f_undone := f_undone) (a_kept := a_kept) (a_rowNow := a_rowNow) (a_rowBest := a_rowBest) (a_hasBy := a_hasBy) (a_isFit := a_isFit) (a_cameThen := a_cameThen) (f_drawX := f_drawX) (a_images := a_images) (a_imageForce := a_imageForce) (a_imageX := a_imageX) (a_isMade := a_isMade) (g_said := g_said) (h_g_said := (PR.sv hr0_g_said))) q_m_X12_300 mv_X12_windNow ⟨(Nat.le_of_ble_eq_true rfl), (Nat.le_of_ble_eq_true rfl)⟩ [0, 1] rfl rfl rfl rfl rfl rfl (Nat.le_of_ble_eq_true rfl) ⟨(Nat.le_of_ble_eq_true rfl), (Nat.le_of_ble_eq_true rfl)⟩ dX12_driftOf_1 (fun r_2 er_2 => ?_)
  refine lv_iconst (v := 4) hx hb dX12_driftOf_4 (by decide) ?_
  refine lv_isub hx hb dX12_driftOf_5 ?_
  refine lv_topi (fun z_3 ez_3 => ?_)
  refine lv_aload_n hx hb dX12_driftOf_6 rfl (lv_at hl 0 rfl) ?_
  refine va_get (D := D) (ci := 12) (v := .ref a_said) (C := RX12) (T := TX12) (N := 39) hx hb hG inG_X12 hown hE.1 hP 0 rfl rfl 20 (by decide) (hG _ q_f_X12_39) (fun _ h9 => h9) rfl dX12_driftOf_7 ?_
  refine lv_bipush (v := 51) hx hb dX12_driftOf_10 (by decide) ?_
  refine lv_iload_n hx hb dX12_driftOf_12 rfl (lv_at hl 1 rfl) ?_
  refine lv_iadd hx hb dX12_driftOf_13 ?_
  refine lv_topi (fun z_4 ez_4 => ?_)
  have iz_4 : z_4.toInt = 51 + x0.toInt := k_addI ez_4 (by decide) rfl (by omega)
  refine va_iald hx hb hE.1 hP 1 0 rfl rfl (k_in (by omega)) dX12_driftOf_14 ?_
  refine k_top (z := (g_said (Int32.toNatClampNeg z_4))) rfl ?_
  refine lv_imul hx hb dX12_driftOf_15 ?_
  refine lv_topi (fun z_5 ez_5 => ?_)
  refine lv_aload_n hx hb dX12_driftOf_16 rfl (lv_at hl 0 rfl) ?_
  refine lv_iload_n hx hb dX12_driftOf_17 rfl (lv_at hl 1 rfl) ?_
  refine kcV (As := [.int x0]) (rest := [.int z_5]) F hE hP hl.1 (cm_skillOf l D cy (m0 := m0) (x0 := x0) (a_tape := a_tape) (f_taped := f_taped) (f_rules := f_rules) (a_sign := a_sign) (a_length := a_length) (a_clause := a_clause) (a_clauses := a_clauses) (a_read := a_read) (f_next := f_next) (f_wrong := f_wrong) (f_number := f_number) (f_text := f_text) (f_made := f_made) (f_deep := f_deep) (f_lines := f_lines) (a_open := a_open) (f_opened := f_opened) (a_stack := a_stack) (f_top := f_top) (a_word := a_word) (a_said := a_said) (f_force := f_force) (f_x := f_x) (f_windAlone := f_windAlone) (a_planned := a_planned) (a_cameOf := a_cameOf) (a_wasSaid := a_wasSaid) (f_undone := f_undone) (a_kept := a_kept) (a_rowNow := a_rowNow) (a_rowBest := a_rowBest) (a_hasBy := a_hasBy) (a_isFit := a_isFit) (a_cameThen := a_cameThen) (f_drawX := f_drawX) (a_images := a_images) (a_imageForce := a_imageForce) (a_imageX := a_imageX) (a_isMade := a_isMade) (g_said := g_said) (h_g_said := (PR.sv hr0_g_said)) (p0 := (by first | omega | assumption)) (p1 := (by first | omega | assumption))) q_m_X12_303 mv_X12_skillOf ⟨(Nat.le_of_ble_eq_true rfl), (Nat.le_of_ble_eq_true rfl)⟩ [0, 1] rfl rfl rfl rfl rfl rfl (Nat.le_of_ble_eq_true rfl) ⟨(Nat.le_of_ble_eq_true rfl), (Nat.le_of_ble_eq_true rfl)⟩ dX12_driftOf_18 (fun r_6 er_6 => ?_)
  have er_6 : (x0.toInt < (g_said 5).toInt → 1 ≤ r_6.toInt) := er_6
  refine lv_idiv hx hb dX12_driftOf_21 (k_nz (by omega)) ?_
  refine lv_topi (fun z_7 ez_7 => ?_)
  exact KP.rt F rfl trivial dX12_driftOf_22

set_option maxHeartbeats 4000000 in
set_option maxRecDepth 100000 in
theorem cm_ringAt (l : Launch) (D : va_G) (cy : Nat → ClassId) (m0 : Nat) (a_tape : Nat) (a_sign : Nat) (a_length : Nat) (a_clause : Nat) (a_clauses : Nat) (a_read : Nat) (a_open : Nat) (a_stack : Nat) (a_word : Nat) (a_said : Nat) (a_planned : Nat) (a_cameOf : Nat) (a_wasSaid : Nat) (a_kept : Nat) (a_rowNow : Nat) (a_rowBest : Nat) (a_hasBy : Nat) (a_isFit : Nat) (a_cameThen : Nat) (a_images : Nat) (a_imageForce : Nat) (a_imageX : Nat) (a_isMade : Nat) (f_taped : Int32) (f_rules : Int32) (f_next : Int32) (f_wrong : Int32) (f_number : Int32) (f_text : Int32) (f_made : Int32) (f_deep : Int32) (f_lines : Int32) (f_opened : Int32) (f_top : Int32) (f_force : Int32) (f_x : Int32) (f_windAlone : Int32) (f_undone : Int32) (f_drawX : Int64) (g_said : Nat → Int32) (x0 : Int32) (h_g_said : SV g_said) : KP l yX12_ringAt cX12_ringAt 3 (some .int) 0 0 D (kTY cy) [.ref m0, .int x0] [(m0, .inr (12, [.ref a_tape, .int f_taped, .int f_rules, .ref a_sign, .ref a_length, .ref a_clause, .ref a_clauses, .ref a_read, .int f_next, .int f_wrong, .int f_number, .int f_text, .int f_made, .int f_deep, .int f_lines, .ref a_open, .int f_opened, .ref a_stack, .int f_top, .ref a_word, .ref a_said, .int f_force, .int f_x, .int f_windAlone, .ref a_planned, .ref a_cameOf, .ref a_wasSaid, .int f_undone, .ref a_kept, .ref a_rowNow, .ref a_rowBest, .ref a_hasBy, .ref a_isFit, .ref a_cameThen, .long f_drawX, .ref a_images, .ref a_imageForce, .ref a_imageX, .ref a_isMade])), (a_said, .inl (cy 0, 115, .inl g_said))] (fun r => (-1 ≤ r.toInt) ∧ (r.toInt ≤ 5)) := by
  refine KP.of (by decide) (Nat.le_of_ble_eq_true rfl) (fun p e s m below meth c ls F hE hP hl => ?_)
  have F : kF p s m meth c cX12_ringAt 3 (some .int) _ RX12 := F
  obtain ⟨hx, hb, hr, hml, hown, hG, hlk⟩ := id F
  have hl : lv_has ls 3 [(0, .ref m0), (1, .int x0)] := hl
  have hr0_g_said : PR g_said g_said := PR.refl h_g_said
  obtain ⟨⟨b_1a, b_1b⟩, ⟨b_1c, b_1d⟩, ⟨b_1e, b_1f⟩, ⟨b_1g, b_1h⟩⟩ := SV.bounds (PR.sv hr0_g_said)
  refine lv_iconst (v := 0) hx hb dX12_ringAt_0 (by decide) ?_
  refine lv_istore_n (lv' := [(2, .int 0), (0, .ref m0), (1, .int x0)]) hx hb dX12_ringAt_1 rfl hl (by decide) rfl (fun ls hl => ?_)
  have lp2 : ∀ (fu : Nat) (v2_2 : Int32) (ls : Array Slot), (0 ≤ v2_2.toInt) → (v2_2.toInt ≤ 6) → 6 - v2_2.toInt < (fu : Int) → lv_has ls 3 [(2, .int v2_2), (0, .ref m0), (1, .int x0)] → W p l e (kR 0 0) s m ([.ref m0, .int x0] : List Value).toArray below meth c s.heap [] 0 0 (MQ below (kQ (fun r => (-1 ≤ r.toInt) ∧ (r.toInt ≤ 5))) ([.ref m0, .int x0] : List Value).toArray s 0 0 (fun _ => False)) (F0 m 2 ls []) := by
    intro fu2
    induction fu2 with
    | zero =>
      intro v2_2 ls j0_2 j1_2 hm2 hl
      exact absurd hm2 (by omega)
    | succ fu2 ih2 =>
      intro v2_2 ls j0_2 j1_2 hm2 hl
      refine lv_iload_n hx hb dX12_ringAt_2 rfl (lv_at hl 0 rfl) ?_
      refine lv_aload_n hx hb dX12_ringAt_3 rfl (lv_at hl 1 rfl) ?_
      refine va_get (D := D) (ci := 12) (v := .ref a_said) (C := RX12) (T := TX12) (N := 39) hx hb hG inG_X12 hown hE.1 hP 0 rfl rfl 20 (by decide) (hG _ q_f_X12_39) (fun _ h9 => h9) rfl dX12_ringAt_4 ?_
      refine lv_iconst (v := 4) hx hb dX12_ringAt_7 (by decide) ?_
      refine va_iald hx hb hE.1 hP 1 0 rfl rfl (by unfold vp_in; decide) dX12_ringAt_8 ?_
      refine k_top (z := (g_said 4)) rfl ?_
      refine lv_icmp_ge (tgt := 33) hx hb dX12_ringAt_9 (by decide) (fun c_2 => ?_) (fun c_2 => ?_)
      · have ic_2 : (g_said 4).toInt ≤ v2_2.toInt := k_le c_2 rfl rfl
        refine lv_iconst (v := (-1)) hx hb dX12_ringAt_33 (by decide) ?_
        have lit0 : ((-1) : Int32).toInt = (-1) := by decide
        exact KP.rt F rfl (show (-1 ≤ ((-1) : Int32).toInt) ∧ (((-1) : Int32).toInt ≤ 5) from ⟨(by first | omega | assumption), (by first | omega | assumption)⟩) dX12_ringAt_34
      · have ic_2 : v2_2.toInt < (g_said 4).toInt := k_nle c_2 rfl rfl
        refine lv_aload_n hx hb dX12_ringAt_12 rfl (lv_at hl 1 rfl) ?_
        refine va_get (D := D) (ci := 12) (v := .ref a_said) (C := RX12) (T := TX12) (N := 39) hx hb hG inG_X12 hown hE.1 hP 0 rfl rfl 20 (by decide) (hG _ q_f_X12_39) (fun _ h9 => h9) rfl dX12_ringAt_13 ?_
        refine lv_bipush (v := 13) hx hb dX12_ringAt_16 (by decide) ?_
        refine lv_iload_n hx hb dX12_ringAt_18 rfl (lv_at hl 0 rfl) ?_
        refine lv_iadd hx hb dX12_ringAt_19 ?_
        refine lv_topi (fun z_3 ez_3 => ?_)
        have iz_3 : z_3.toInt = 13 + v2_2.toInt := k_addI ez_3 (by decide) rfl (by omega)
        refine va_iald hx hb hE.1 hP 1 0 rfl rfl (k_in (by omega)) dX12_ringAt_20 ?_
        refine k_top (z := (g_said (Int32.toNatClampNeg z_3))) rfl ?_
        refine lv_iload_n hx hb dX12_ringAt_21 rfl (lv_at hl 2 rfl) ?_
        refine lv_icmp_ne (tgt := 27) hx hb dX12_ringAt_22 (by decide) (fun c_4 => ?_) (fun c_4 => ?_)
        · have ic_4 : (g_said (Int32.toNatClampNeg z_3)).toInt ≠ x0.toInt := k_ne c_4 rfl rfl
          obtain ⟨z_5, ez_5⟩ : ∃ y : Int32, y = v2_2 + Int32.ofInt 1 := ⟨_, rfl⟩
          have iz_5 : z_5.toInt = v2_2.toInt + 1 := k_addI ez_5 rfl (by decide) (by omega)
          refine lv_iinc (v := z_5) (lv' := [(2, .int z_5), (0, .ref m0), (1, .int x0)]) hx hb dX12_ringAt_27 hl (k := 0) rfl ez_5.symm (by decide) rfl (fun ls hl => ?_)
          refine lv_goto (tgt := 2) hx hb dX12_ringAt_30 (by decide) ?_
          exact ih2 z_5 ls (by first | omega | assumption) (by first | omega | assumption) (by omega) (lv_sub hl [0, 1, 2] rfl)
        · have ic_4 : (g_said (Int32.toNatClampNeg z_3)).toInt = x0.toInt := k_eq c_4 rfl rfl
          refine lv_iload_n hx hb dX12_ringAt_25 rfl (lv_at hl 0 rfl) ?_
          exact KP.rt F rfl (show (-1 ≤ v2_2.toInt) ∧ (v2_2.toInt ≤ 5) from ⟨(by first | omega | assumption), (by first | omega | assumption)⟩) dX12_ringAt_26
  have lt_6 : (0 : Int32).toInt = 0 := by decide
  exact lp2 100000 0 ls (by first | omega | assumption) (by first | omega | assumption) (by omega) hl
