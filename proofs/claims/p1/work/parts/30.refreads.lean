set_option maxHeartbeats 4000000 in
set_option maxRecDepth 100000 in
theorem c_in (l : Launch) (D : va_G) (cy : Nat → ClassId) (v0 v1 v2 : Int64) : KP l yX12_in cX12_in 6 (some .boolean) 0 0 D (kTY cy) [.long v0, .long v1, .long v2] [] (fun r => r = if v0 < v1 ∨ v2 < v0 then 0 else 1) := by
  refine KP.of (by decide) (Nat.le_of_ble_eq_true rfl) (fun p e s m below meth c ls F hE hP hl => ?_)
  have F : kF p s m meth c cX12_in 6 (some .boolean) _ RX12 := F
  obtain ⟨hx, hb, hr, hml, hown, hG, hlk⟩ := id F
  have hl : lv_has ls 6 [(0, .long v0), (2, .long v1), (4, .long v2)] := hl
  refine lv_lload_n hx hb dX12_in_0 rfl (lv_at hl 0 rfl) ?_
  refine lv_lload_n hx hb dX12_in_1 rfl (lv_at hl 1 rfl) ?_
  refine W.lcmp hx hb dX12_in_2 ?_
  refine lv_if_lt (tgt := 17) hx hb dX12_in_3 (by decide) (fun c_1 => ?_) (fun c_1 => ?_)
  · refine lv_iconst (v := 0) hx hb dX12_in_17 (by decide) ?_
    exact KP.rt F rfl (by rw [if_pos (Or.inl ((lg_cmp_lt _ _).mp c_1))]) dX12_in_18
  · refine lv_lload_n hx hb dX12_in_6 rfl (lv_at hl 0 rfl) ?_
    refine lv_lload hx hb dX12_in_7 (lv_at hl 2 rfl) ?_
    refine W.lcmp hx hb dX12_in_9 ?_
    refine lv_if_gt (tgt := 17) hx hb dX12_in_10 (by decide) (fun c_2 => ?_) (fun c_2 => ?_)
    · refine lv_iconst (v := 0) hx hb dX12_in_17 (by decide) ?_
      exact KP.rt F rfl (by rw [if_pos (Or.inr ((lg_cmp_gt _ _).mp c_2))]) dX12_in_18
    · refine lv_iconst (v := 1) hx hb dX12_in_13 (by decide) ?_
      refine lv_goto (tgt := 18) hx hb dX12_in_14 (by decide) ?_
      exact KP.rt F rfl (by rw [if_neg (fun q => q.elim (fun q => c_1 ((lg_cmp_lt _ _).mpr q)) (fun q => c_2 ((lg_cmp_gt _ _).mpr q)))]) dX12_in_18

set_option maxHeartbeats 4000000 in
set_option maxRecDepth 100000 in
theorem c_isGreen (l : Launch) (D : va_G) (cy : Nat → ClassId) (m0 a_tape a_sign a_length a_clause a_clauses a_read a_open a_stack a_word a_said a_planned a_cameOf a_wasSaid a_kept a_rowNow a_rowBest a_hasBy a_isFit a_cameThen a_images a_imageForce a_imageX a_isMade : Nat) : KP l yX12_isGreen cX12_isGreen 1 (some .boolean) 0 0 D (kTY cy) [.ref m0] [(m0, .inr (12, [.ref a_tape, .int 0, .int 0, .ref a_sign, .ref a_length, .ref a_clause, .ref a_clauses, .ref a_read, .int 0, .int 0, .int 0, .int 0, .int 0, .int 0, .int 0, .ref a_open, .int 0, .ref a_stack, .int 0, .ref a_word, .ref a_said, .int (-1), .int 0, .int (-1), .ref a_planned, .ref a_cameOf, .ref a_wasSaid, .int 0, .ref a_kept, .ref a_rowNow, .ref a_rowBest, .ref a_hasBy, .ref a_isFit, .ref a_cameThen, .long 0, .ref a_images, .ref a_imageForce, .ref a_imageX, .ref a_isMade])), (a_said, .inl (cy 0, 115, .inl (fun _ => 0)))] (fun r => r = 0) := by
  refine KP.of (by decide) (Nat.le_of_ble_eq_true rfl) (fun p e s m below meth c ls F hE hP hl => ?_)
  have F : kF p s m meth c cX12_isGreen 1 (some .boolean) _ RX12 := F
  obtain ⟨hx, hb, hr, hml, hown, hG, hlk⟩ := id F
  have hl : lv_has ls 1 [(0, .ref m0)] := hl
  refine lv_aload_n hx hb dX12_isGreen_0 rfl (lv_at hl 0 rfl) ?_
  refine va_get (D := D) (ci := 12) (v := .ref a_said) (C := RX12) (T := TX12) (N := 39) hx hb hG inG_X12 hown hE.1 hP 0 rfl rfl 20 (by decide) (hG _ q_f_X12_39) (fun _ h9 => h9) rfl dX12_isGreen_1 ?_
  refine lv_iconst (v := 0) hx hb dX12_isGreen_4 (by decide) ?_
  refine va_iald hx hb hE.1 hP 1 0 rfl rfl (by unfold vp_in; decide) dX12_isGreen_5 ?_
  refine k_top (z := 0) rfl ?_
  refine lv_iconst (v := 1) hx hb dX12_isGreen_6 (by decide) ?_
  refine lv_icmp_ne (tgt := 14) hx hb dX12_isGreen_7 (by decide) (fun _ => ?_) (fun q => absurd q (by decide))
  refine lv_iconst (v := 0) hx hb dX12_isGreen_14 (by decide) ?_
  exact KP.rt F rfl (rfl) dX12_isGreen_15

set_option maxHeartbeats 4000000 in
set_option maxRecDepth 100000 in
theorem c_isRing (l : Launch) (D : va_G) (cy : Nat → ClassId) (m0 a_tape a_sign a_length a_clause a_clauses a_read a_open a_stack a_word a_said a_planned a_cameOf a_wasSaid a_kept a_rowNow a_rowBest a_hasBy a_isFit a_cameThen a_images a_imageForce a_imageX a_isMade : Nat) (x0 : Int32) : KP l yX12_isRing cX12_isRing 2 (some .boolean) 0 0 D (kTY cy) [.ref m0, .int x0] [(m0, .inr (12, [.ref a_tape, .int 0, .int 0, .ref a_sign, .ref a_length, .ref a_clause, .ref a_clauses, .ref a_read, .int 0, .int 0, .int 0, .int 0, .int 0, .int 0, .int 0, .ref a_open, .int 0, .ref a_stack, .int 0, .ref a_word, .ref a_said, .int (-1), .int 0, .int (-1), .ref a_planned, .ref a_cameOf, .ref a_wasSaid, .int 0, .ref a_kept, .ref a_rowNow, .ref a_rowBest, .ref a_hasBy, .ref a_isFit, .ref a_cameThen, .long 0, .ref a_images, .ref a_imageForce, .ref a_imageX, .ref a_isMade])), (a_said, .inl (cy 0, 115, .inl (fun _ => 0)))] (fun r => r = 0) := by
  refine KP.of (by decide) (Nat.le_of_ble_eq_true rfl) (fun p e s m below meth c ls F hE hP hl => ?_)
  have F : kF p s m meth c cX12_isRing 2 (some .boolean) _ RX12 := F
  obtain ⟨hx, hb, hr, hml, hown, hG, hlk⟩ := id F
  have hl : lv_has ls 2 [(0, .ref m0), (1, .int x0)] := hl
  refine lv_iload_n hx hb dX12_isRing_0 rfl (lv_at hl 1 rfl) ?_
  refine lv_if_lt (tgt := 18) hx hb dX12_isRing_1 (by decide) (fun c_1 => ?_) (fun c_1 => ?_)
  · refine lv_iconst (v := 0) hx hb dX12_isRing_18 (by decide) ?_
    exact KP.rt F rfl rfl dX12_isRing_19
  · refine lv_iload_n hx hb dX12_isRing_4 rfl (lv_at hl 1 rfl) ?_
    refine lv_aload_n hx hb dX12_isRing_5 rfl (lv_at hl 0 rfl) ?_
    refine va_get (D := D) (ci := 12) (v := .ref a_said) (C := RX12) (T := TX12) (N := 39) hx hb hG inG_X12 hown hE.1 hP 0 rfl rfl 20 (by decide) (hG _ q_f_X12_39) (fun _ h9 => h9) rfl dX12_isRing_6 ?_
    refine lv_iconst (v := 4) hx hb dX12_isRing_9 (by decide) ?_
    refine va_iald hx hb hE.1 hP 1 0 rfl rfl (by unfold vp_in; decide) dX12_isRing_10 ?_
    refine k_top (z := 0) rfl ?_
    refine lv_icmp_ge (tgt := 18) hx hb dX12_isRing_11 (by decide) (fun c_2 => ?_) (fun c_2 => ?_)
    · refine lv_iconst (v := 0) hx hb dX12_isRing_18 (by decide) ?_
      exact KP.rt F rfl rfl dX12_isRing_19
    · refine lv_iconst (v := 1) hx hb dX12_isRing_14 (by decide) ?_
      refine lv_goto (tgt := 19) hx hb dX12_isRing_15 (by decide) ?_
      exact absurd (show _ < _ from Int32.not_le.mp c_2) c_1

set_option maxHeartbeats 4000000 in
set_option maxRecDepth 100000 in
theorem c_isArcher (l : Launch) (D : va_G) (cy : Nat → ClassId) (m0 a_tape a_sign a_length a_clause a_clauses a_read a_open a_stack a_word a_said a_planned a_cameOf a_wasSaid a_kept a_rowNow a_rowBest a_hasBy a_isFit a_cameThen a_images a_imageForce a_imageX a_isMade : Nat) (x0 : Int32) : KP l yX12_isArcher cX12_isArcher 2 (some .boolean) 0 0 D (kTY cy) [.ref m0, .int x0] [(m0, .inr (12, [.ref a_tape, .int 0, .int 0, .ref a_sign, .ref a_length, .ref a_clause, .ref a_clauses, .ref a_read, .int 0, .int 0, .int 0, .int 0, .int 0, .int 0, .int 0, .ref a_open, .int 0, .ref a_stack, .int 0, .ref a_word, .ref a_said, .int (-1), .int 0, .int (-1), .ref a_planned, .ref a_cameOf, .ref a_wasSaid, .int 0, .ref a_kept, .ref a_rowNow, .ref a_rowBest, .ref a_hasBy, .ref a_isFit, .ref a_cameThen, .long 0, .ref a_images, .ref a_imageForce, .ref a_imageX, .ref a_isMade])), (a_said, .inl (cy 0, 115, .inl (fun _ => 0)))] (fun r => r = 0) := by
  refine KP.of (by decide) (Nat.le_of_ble_eq_true rfl) (fun p e s m below meth c ls F hE hP hl => ?_)
  have F : kF p s m meth c cX12_isArcher 2 (some .boolean) _ RX12 := F
  obtain ⟨hx, hb, hr, hml, hown, hG, hlk⟩ := id F
  have hl : lv_has ls 2 [(0, .ref m0), (1, .int x0)] := hl
  refine lv_iload_n hx hb dX12_isArcher_0 rfl (lv_at hl 1 rfl) ?_
  refine lv_if_lt (tgt := 18) hx hb dX12_isArcher_1 (by decide) (fun c_1 => ?_) (fun c_1 => ?_)
  · refine lv_iconst (v := 0) hx hb dX12_isArcher_18 (by decide) ?_
    exact KP.rt F rfl rfl dX12_isArcher_19
  · refine lv_iload_n hx hb dX12_isArcher_4 rfl (lv_at hl 1 rfl) ?_
    refine lv_aload_n hx hb dX12_isArcher_5 rfl (lv_at hl 0 rfl) ?_
    refine va_get (D := D) (ci := 12) (v := .ref a_said) (C := RX12) (T := TX12) (N := 39) hx hb hG inG_X12 hown hE.1 hP 0 rfl rfl 20 (by decide) (hG _ q_f_X12_39) (fun _ h9 => h9) rfl dX12_isArcher_6 ?_
    refine lv_iconst (v := 5) hx hb dX12_isArcher_9 (by decide) ?_
    refine va_iald hx hb hE.1 hP 1 0 rfl rfl (by unfold vp_in; decide) dX12_isArcher_10 ?_
    refine k_top (z := 0) rfl ?_
    refine lv_icmp_ge (tgt := 18) hx hb dX12_isArcher_11 (by decide) (fun c_2 => ?_) (fun c_2 => ?_)
    · refine lv_iconst (v := 0) hx hb dX12_isArcher_18 (by decide) ?_
      exact KP.rt F rfl rfl dX12_isArcher_19
    · refine lv_iconst (v := 1) hx hb dX12_isArcher_14 (by decide) ?_
      refine lv_goto (tgt := 19) hx hb dX12_isArcher_15 (by decide) ?_
      exact absurd (show _ < _ from Int32.not_le.mp c_2) c_1

set_option maxHeartbeats 4000000 in
set_option maxRecDepth 100000 in
theorem c_isRule (l : Launch) (D : va_G) (cy : Nat → ClassId) (m0 a_tape a_sign a_length a_clause a_clauses a_read a_open a_stack a_word a_said a_planned a_cameOf a_wasSaid a_kept a_rowNow a_rowBest a_hasBy a_isFit a_cameThen a_images a_imageForce a_imageX a_isMade : Nat) (x0 : Int32) : KP l yX12_isRule cX12_isRule 2 (some .boolean) 0 0 D (kTY cy) [.ref m0, .int x0] [(m0, .inr (12, [.ref a_tape, .int 0, .int 0, .ref a_sign, .ref a_length, .ref a_clause, .ref a_clauses, .ref a_read, .int 0, .int 0, .int 0, .int 0, .int 0, .int 0, .int 0, .ref a_open, .int 0, .ref a_stack, .int 0, .ref a_word, .ref a_said, .int (-1), .int 0, .int (-1), .ref a_planned, .ref a_cameOf, .ref a_wasSaid, .int 0, .ref a_kept, .ref a_rowNow, .ref a_rowBest, .ref a_hasBy, .ref a_isFit, .ref a_cameThen, .long 0, .ref a_images, .ref a_imageForce, .ref a_imageX, .ref a_isMade]))] (fun r => r = 0) := by
  refine KP.of (by decide) (Nat.le_of_ble_eq_true rfl) (fun p e s m below meth c ls F hE hP hl => ?_)
  have F : kF p s m meth c cX12_isRule 2 (some .boolean) _ RX12 := F
  obtain ⟨hx, hb, hr, hml, hown, hG, hlk⟩ := id F
  have hl : lv_has ls 2 [(0, .ref m0), (1, .int x0)] := hl
  refine lv_iload_n hx hb dX12_isRule_0 rfl (lv_at hl 1 rfl) ?_
  refine lv_if_lt (tgt := 16) hx hb dX12_isRule_1 (by decide) (fun c_1 => ?_) (fun c_1 => ?_)
  · refine lv_iconst (v := 0) hx hb dX12_isRule_16 (by decide) ?_
    exact KP.rt F rfl rfl dX12_isRule_17
  · refine lv_iload_n hx hb dX12_isRule_4 rfl (lv_at hl 1 rfl) ?_
    refine lv_aload_n hx hb dX12_isRule_5 rfl (lv_at hl 0 rfl) ?_
    refine va_get (D := D) (ci := 12) (v := .int 0) (C := RX12) (T := TX12) (N := 39) hx hb hG inG_X12 hown hE.1 hP 0 rfl rfl 2 (by decide) (hG _ q_f_X12_267) (fun _ h9 => h9) rfl dX12_isRule_6 ?_
    refine lv_icmp_ge (tgt := 16) hx hb dX12_isRule_9 (by decide) (fun c_2 => ?_) (fun c_2 => ?_)
    · refine lv_iconst (v := 0) hx hb dX12_isRule_16 (by decide) ?_
      exact KP.rt F rfl rfl dX12_isRule_17
    · refine lv_iconst (v := 1) hx hb dX12_isRule_12 (by decide) ?_
      refine lv_goto (tgt := 17) hx hb dX12_isRule_13 (by decide) ?_
      exact absurd (show _ < _ from Int32.not_le.mp c_2) c_1

set_option maxHeartbeats 4000000 in
set_option maxRecDepth 100000 in
theorem c_comingRound (l : Launch) (D : va_G) (cy : Nat → ClassId) (m0 a_tape a_sign a_length a_clause a_clauses a_read a_open a_stack a_word a_said a_planned a_cameOf a_wasSaid a_kept a_rowNow a_rowBest a_hasBy a_isFit a_cameThen a_images a_imageForce a_imageX a_isMade : Nat) : KP l yX12_comingRound cX12_comingRound 1 (some .int) 1 20 D (kTY cy) [.ref m0] [(m0, .inr (12, [.ref a_tape, .int 0, .int 0, .ref a_sign, .ref a_length, .ref a_clause, .ref a_clauses, .ref a_read, .int 0, .int 0, .int 0, .int 0, .int 0, .int 0, .int 0, .ref a_open, .int 0, .ref a_stack, .int 0, .ref a_word, .ref a_said, .int (-1), .int 0, .int (-1), .ref a_planned, .ref a_cameOf, .ref a_wasSaid, .int 0, .ref a_kept, .ref a_rowNow, .ref a_rowBest, .ref a_hasBy, .ref a_isFit, .ref a_cameThen, .long 0, .ref a_images, .ref a_imageForce, .ref a_imageX, .ref a_isMade])), (a_said, .inl (cy 0, 115, .inl (fun _ => 0)))] (fun r => r = 0) := by
  refine KP.of (by decide) (Nat.le_of_ble_eq_true rfl) (fun p e s m below meth c ls F hE hP hl => ?_)
  have F : kF p s m meth c cX12_comingRound 1 (some .int) _ RX12 := F
  obtain ⟨hx, hb, hr, hml, hown, hG, hlk⟩ := id F
  have hl : lv_has ls 1 [(0, .ref m0)] := hl
  refine lv_aload_n hx hb dX12_comingRound_0 rfl (lv_at hl 0 rfl) ?_
  refine kcV (As := []) (rest := []) F hE hP hl.1 (c_isGreen l D cy (m0 := m0) (a_tape := a_tape) (a_sign := a_sign) (a_length := a_length) (a_clause := a_clause) (a_clauses := a_clauses) (a_read := a_read) (a_open := a_open) (a_stack := a_stack) (a_word := a_word) (a_said := a_said) (a_planned := a_planned) (a_cameOf := a_cameOf) (a_wasSaid := a_wasSaid) (a_kept := a_kept) (a_rowNow := a_rowNow) (a_rowBest := a_rowBest) (a_hasBy := a_hasBy) (a_isFit := a_isFit) (a_cameThen := a_cameThen) (a_images := a_images) (a_imageForce := a_imageForce) (a_imageX := a_imageX) (a_isMade := a_isMade)) q_m_X12_294 mv_X12_isGreen ⟨(Nat.le_of_ble_eq_true rfl), (Nat.le_of_ble_eq_true rfl)⟩ [0, 1] rfl rfl rfl rfl rfl rfl (Nat.le_of_ble_eq_true rfl) ⟨(Nat.le_of_ble_eq_true rfl), (Nat.le_of_ble_eq_true rfl)⟩ dX12_comingRound_1 (fun r_1 er_1 => ?_)
  subst er_1
  refine lv_if_ne (tgt := 11) hx hb dX12_comingRound_4 (by decide) (fun q => absurd q (by decide)) (fun _ => ?_)
  refine lv_iconst (v := 0) hx hb dX12_comingRound_7 (by decide) ?_
  refine lv_goto (tgt := 30) hx hb dX12_comingRound_8 (by decide) ?_
  exact KP.rt F rfl (rfl) dX12_comingRound_30

set_option maxHeartbeats 4000000 in
set_option maxRecDepth 100000 in
theorem c_sumOver (l : Launch) (D : va_G) (cy : Nat → ClassId) (m0 a_tape a_sign a_length a_clause a_clauses a_read a_open a_stack a_word a_said a_planned a_cameOf a_wasSaid a_kept a_rowNow a_rowBest a_hasBy a_isFit a_cameThen a_images a_imageForce a_imageX a_isMade : Nat) (x0 : Int32) : KP l yX12_sumOver cX12_sumOver 4 (some .int) 0 0 D (kTY cy) [.ref m0, .int x0] [(m0, .inr (12, [.ref a_tape, .int 0, .int 0, .ref a_sign, .ref a_length, .ref a_clause, .ref a_clauses, .ref a_read, .int 0, .int 0, .int 0, .int 0, .int 0, .int 0, .int 0, .ref a_open, .int 0, .ref a_stack, .int 0, .ref a_word, .ref a_said, .int (-1), .int 0, .int (-1), .ref a_planned, .ref a_cameOf, .ref a_wasSaid, .int 0, .ref a_kept, .ref a_rowNow, .ref a_rowBest, .ref a_hasBy, .ref a_isFit, .ref a_cameThen, .long 0, .ref a_images, .ref a_imageForce, .ref a_imageX, .ref a_isMade])), (a_said, .inl (cy 0, 115, .inl (fun _ => 0)))] (fun r => r = 0) := by
  refine KP.of (by decide) (Nat.le_of_ble_eq_true rfl) (fun p e s m below meth c ls F hE hP hl => ?_)
  have F : kF p s m meth c cX12_sumOver 4 (some .int) _ RX12 := F
  obtain ⟨hx, hb, hr, hml, hown, hG, hlk⟩ := id F
  have hl : lv_has ls 4 [(0, .ref m0), (1, .int x0)] := hl
  refine lv_iconst (v := 0) hx hb dX12_sumOver_0 (by decide) ?_
  refine lv_istore_n (lv' := [(2, .int 0), (0, .ref m0), (1, .int x0)]) hx hb dX12_sumOver_1 rfl hl (by decide) rfl (fun ls hl => ?_)
  refine lv_iconst (v := 0) hx hb dX12_sumOver_2 (by decide) ?_
  refine lv_istore_n (lv' := [(3, .int 0), (2, .int 0), (0, .ref m0), (1, .int x0)]) hx hb dX12_sumOver_3 rfl hl (by decide) rfl (fun ls hl => ?_)
  refine lv_iload_n hx hb dX12_sumOver_4 rfl (lv_at hl 0 rfl) ?_
  refine lv_aload_n hx hb dX12_sumOver_5 rfl (lv_at hl 2 rfl) ?_
  refine va_get (D := D) (ci := 12) (v := .ref a_said) (C := RX12) (T := TX12) (N := 39) hx hb hG inG_X12 hown hE.1 hP 0 rfl rfl 20 (by decide) (hG _ q_f_X12_39) (fun _ h9 => h9) rfl dX12_sumOver_6 ?_
  refine lv_iconst (v := 5) hx hb dX12_sumOver_9 (by decide) ?_
  refine va_iald hx hb hE.1 hP 1 0 rfl rfl (by unfold vp_in; decide) dX12_sumOver_10 ?_
  refine k_top (z := 0) rfl ?_
  refine lv_icmp_ge (tgt := 36) hx hb dX12_sumOver_11 (by decide) (fun _ => ?_) (fun q => absurd q (by decide))
  refine lv_iload_n hx hb dX12_sumOver_36 rfl (lv_at hl 1 rfl) ?_
  exact KP.rt F rfl (rfl) dX12_sumOver_37

set_option maxHeartbeats 4000000 in
set_option maxRecDepth 100000 in
theorem m_ring (l : Launch) (D : va_G) (cy : Nat → ClassId) (m0 a_tape a_sign a_length a_clause a_clauses a_read a_open a_stack a_word a_said a_planned a_cameOf a_wasSaid a_kept a_rowNow a_rowBest a_hasBy a_isFit a_cameThen a_images a_imageForce a_imageX a_isMade : Nat) (x0 : Int32) (x1 : Int32) : KP l yX12_ring cX12_ring 3 (some .int) 1 21 D (kTY cy) [.ref m0, .int x0, .int x1] [(m0, .inr (12, [.ref a_tape, .int 0, .int 0, .ref a_sign, .ref a_length, .ref a_clause, .ref a_clauses, .ref a_read, .int 0, .int 0, .int 0, .int 0, .int 0, .int 0, .int 0, .ref a_open, .int 0, .ref a_stack, .int 0, .ref a_word, .ref a_said, .int (-1), .int 0, .int (-1), .ref a_planned, .ref a_cameOf, .ref a_wasSaid, .int 0, .ref a_kept, .ref a_rowNow, .ref a_rowBest, .ref a_hasBy, .ref a_isFit, .ref a_cameThen, .long 0, .ref a_images, .ref a_imageForce, .ref a_imageX, .ref a_isMade])), (a_said, .inl (cy 0, 115, .inl (fun _ => 0)))] (fun r => r = (-1)) := by
  refine KP.of (by decide) (Nat.le_of_ble_eq_true rfl) (fun p e s m below meth c ls F hE hP hl => ?_)
  have F : kF p s m meth c cX12_ring 3 (some .int) _ RX12 := F
  obtain ⟨hx, hb, hr, hml, hown, hG, hlk⟩ := id F
  have hl : lv_has ls 3 [(0, .ref m0), (1, .int x0), (2, .int x1)] := hl
  refine lv_aload_n hx hb dX12_ring_0 rfl (lv_at hl 0 rfl) ?_
  refine lv_iload_n hx hb dX12_ring_1 rfl (lv_at hl 1 rfl) ?_
  refine kcV (As := [.int x0]) (rest := []) F hE hP hl.1 (c_isRing l D cy (m0 := m0) (x0 := x0) (a_tape := a_tape) (a_sign := a_sign) (a_length := a_length) (a_clause := a_clause) (a_clauses := a_clauses) (a_read := a_read) (a_open := a_open) (a_stack := a_stack) (a_word := a_word) (a_said := a_said) (a_planned := a_planned) (a_cameOf := a_cameOf) (a_wasSaid := a_wasSaid) (a_kept := a_kept) (a_rowNow := a_rowNow) (a_rowBest := a_rowBest) (a_hasBy := a_hasBy) (a_isFit := a_isFit) (a_cameThen := a_cameThen) (a_images := a_images) (a_imageForce := a_imageForce) (a_imageX := a_imageX) (a_isMade := a_isMade)) q_m_X12_309 mv_X12_isRing ⟨(Nat.le_of_ble_eq_true rfl), (Nat.le_of_ble_eq_true rfl)⟩ [0, 1] rfl rfl rfl rfl rfl rfl (Nat.le_of_ble_eq_true rfl) ⟨(Nat.le_of_ble_eq_true rfl), (Nat.le_of_ble_eq_true rfl)⟩ dX12_ring_2 (fun r_1 er_1 => ?_)
  subst er_1
  refine lv_if_eq (tgt := 20) hx hb dX12_ring_5 (by decide) (fun _ => ?_) (fun q => absurd q (by decide))
  refine lv_iconst (v := (-1)) hx hb dX12_ring_20 (by decide) ?_
  exact KP.rt F rfl rfl dX12_ring_21

set_option maxHeartbeats 4000000 in
set_option maxRecDepth 100000 in
theorem m_archer (l : Launch) (D : va_G) (cy : Nat → ClassId) (m0 a_tape a_sign a_length a_clause a_clauses a_read a_open a_stack a_word a_said a_planned a_cameOf a_wasSaid a_kept a_rowNow a_rowBest a_hasBy a_isFit a_cameThen a_images a_imageForce a_imageX a_isMade : Nat) (x0 : Int32) (x1 : Int32) : KP l yX12_archer cX12_archer 3 (some .int) 1 21 D (kTY cy) [.ref m0, .int x0, .int x1] [(m0, .inr (12, [.ref a_tape, .int 0, .int 0, .ref a_sign, .ref a_length, .ref a_clause, .ref a_clauses, .ref a_read, .int 0, .int 0, .int 0, .int 0, .int 0, .int 0, .int 0, .ref a_open, .int 0, .ref a_stack, .int 0, .ref a_word, .ref a_said, .int (-1), .int 0, .int (-1), .ref a_planned, .ref a_cameOf, .ref a_wasSaid, .int 0, .ref a_kept, .ref a_rowNow, .ref a_rowBest, .ref a_hasBy, .ref a_isFit, .ref a_cameThen, .long 0, .ref a_images, .ref a_imageForce, .ref a_imageX, .ref a_isMade])), (a_said, .inl (cy 0, 115, .inl (fun _ => 0)))] (fun r => r = (-1)) := by
  refine KP.of (by decide) (Nat.le_of_ble_eq_true rfl) (fun p e s m below meth c ls F hE hP hl => ?_)
  have F : kF p s m meth c cX12_archer 3 (some .int) _ RX12 := F
  obtain ⟨hx, hb, hr, hml, hown, hG, hlk⟩ := id F
  have hl : lv_has ls 3 [(0, .ref m0), (1, .int x0), (2, .int x1)] := hl
  refine lv_aload_n hx hb dX12_archer_0 rfl (lv_at hl 0 rfl) ?_
  refine lv_iload_n hx hb dX12_archer_1 rfl (lv_at hl 1 rfl) ?_
  refine kcV (As := [.int x0]) (rest := []) F hE hP hl.1 (c_isArcher l D cy (m0 := m0) (x0 := x0) (a_tape := a_tape) (a_sign := a_sign) (a_length := a_length) (a_clause := a_clause) (a_clauses := a_clauses) (a_read := a_read) (a_open := a_open) (a_stack := a_stack) (a_word := a_word) (a_said := a_said) (a_planned := a_planned) (a_cameOf := a_cameOf) (a_wasSaid := a_wasSaid) (a_kept := a_kept) (a_rowNow := a_rowNow) (a_rowBest := a_rowBest) (a_hasBy := a_hasBy) (a_isFit := a_isFit) (a_cameThen := a_cameThen) (a_images := a_images) (a_imageForce := a_imageForce) (a_imageX := a_imageX) (a_isMade := a_isMade)) q_m_X12_314 mv_X12_isArcher ⟨(Nat.le_of_ble_eq_true rfl), (Nat.le_of_ble_eq_true rfl)⟩ [0, 1] rfl rfl rfl rfl rfl rfl (Nat.le_of_ble_eq_true rfl) ⟨(Nat.le_of_ble_eq_true rfl), (Nat.le_of_ble_eq_true rfl)⟩ dX12_archer_2 (fun r_1 er_1 => ?_)
  subst er_1
  refine lv_if_ne (tgt := 10) hx hb dX12_archer_5 (by decide) (fun q => absurd q (by decide)) (fun _ => ?_)
  refine lv_iconst (v := (-1)) hx hb dX12_archer_8 (by decide) ?_
  exact KP.rt F rfl rfl dX12_archer_9

set_option maxHeartbeats 4000000 in
set_option maxRecDepth 100000 in
theorem m_round (l : Launch) (D : va_G) (cy : Nat → ClassId) (m0 a_tape a_sign a_length a_clause a_clauses a_read a_open a_stack a_word a_said a_planned a_cameOf a_wasSaid a_kept a_rowNow a_rowBest a_hasBy a_isFit a_cameThen a_images a_imageForce a_imageX a_isMade : Nat) : KP l yX12_round cX12_round 1 (some .int) 1 20 D (kTY cy) [.ref m0] [(m0, .inr (12, [.ref a_tape, .int 0, .int 0, .ref a_sign, .ref a_length, .ref a_clause, .ref a_clauses, .ref a_read, .int 0, .int 0, .int 0, .int 0, .int 0, .int 0, .int 0, .ref a_open, .int 0, .ref a_stack, .int 0, .ref a_word, .ref a_said, .int (-1), .int 0, .int (-1), .ref a_planned, .ref a_cameOf, .ref a_wasSaid, .int 0, .ref a_kept, .ref a_rowNow, .ref a_rowBest, .ref a_hasBy, .ref a_isFit, .ref a_cameThen, .long 0, .ref a_images, .ref a_imageForce, .ref a_imageX, .ref a_isMade])), (a_said, .inl (cy 0, 115, .inl (fun _ => 0)))] (fun r => r = (-1)) := by
  refine KP.of (by decide) (Nat.le_of_ble_eq_true rfl) (fun p e s m below meth c ls F hE hP hl => ?_)
  have F : kF p s m meth c cX12_round 1 (some .int) _ RX12 := F
  obtain ⟨hx, hb, hr, hml, hown, hG, hlk⟩ := id F
  have hl : lv_has ls 1 [(0, .ref m0)] := hl
  refine lv_aload_n hx hb dX12_round_0 rfl (lv_at hl 0 rfl) ?_
  refine kcV (As := []) (rest := []) F hE hP hl.1 (c_isGreen l D cy (m0 := m0) (a_tape := a_tape) (a_sign := a_sign) (a_length := a_length) (a_clause := a_clause) (a_clauses := a_clauses) (a_read := a_read) (a_open := a_open) (a_stack := a_stack) (a_word := a_word) (a_said := a_said) (a_planned := a_planned) (a_cameOf := a_cameOf) (a_wasSaid := a_wasSaid) (a_kept := a_kept) (a_rowNow := a_rowNow) (a_rowBest := a_rowBest) (a_hasBy := a_hasBy) (a_isFit := a_isFit) (a_cameThen := a_cameThen) (a_images := a_images) (a_imageForce := a_imageForce) (a_imageX := a_imageX) (a_isMade := a_isMade)) q_m_X12_294 mv_X12_isGreen ⟨(Nat.le_of_ble_eq_true rfl), (Nat.le_of_ble_eq_true rfl)⟩ [0, 1] rfl rfl rfl rfl rfl rfl (Nat.le_of_ble_eq_true rfl) ⟨(Nat.le_of_ble_eq_true rfl), (Nat.le_of_ble_eq_true rfl)⟩ dX12_round_1 (fun r_1 er_1 => ?_)
  subst er_1
  refine lv_if_eq (tgt := 20) hx hb dX12_round_4 (by decide) (fun _ => ?_) (fun q => absurd q (by decide))
  refine lv_iconst (v := (-1)) hx hb dX12_round_20 (by decide) ?_
  exact KP.rt F rfl rfl dX12_round_21

set_option maxHeartbeats 4000000 in
set_option maxRecDepth 100000 in
theorem m_shoot (l : Launch) (D : va_G) (cy : Nat → ClassId) (m0 a_tape a_sign a_length a_clause a_clauses a_read a_open a_stack a_word a_said a_planned a_cameOf a_wasSaid a_kept a_rowNow a_rowBest a_hasBy a_isFit a_cameThen a_images a_imageForce a_imageX a_isMade : Nat) (x0 : Int32) (x1 : Int32) : KP l yX12_shoot cX12_shoot 4 (some .int) 1 21 D (kTY cy) [.ref m0, .int x0, .int x1] [(m0, .inr (12, [.ref a_tape, .int 0, .int 0, .ref a_sign, .ref a_length, .ref a_clause, .ref a_clauses, .ref a_read, .int 0, .int 0, .int 0, .int 0, .int 0, .int 0, .int 0, .ref a_open, .int 0, .ref a_stack, .int 0, .ref a_word, .ref a_said, .int (-1), .int 0, .int (-1), .ref a_planned, .ref a_cameOf, .ref a_wasSaid, .int 0, .ref a_kept, .ref a_rowNow, .ref a_rowBest, .ref a_hasBy, .ref a_isFit, .ref a_cameThen, .long 0, .ref a_images, .ref a_imageForce, .ref a_imageX, .ref a_isMade])), (a_said, .inl (cy 0, 115, .inl (fun _ => 0)))] (fun r => r = (-1)) := by
  refine KP.of (by decide) (Nat.le_of_ble_eq_true rfl) (fun p e s m below meth c ls F hE hP hl => ?_)
  have F : kF p s m meth c cX12_shoot 4 (some .int) _ RX12 := F
  obtain ⟨hx, hb, hr, hml, hown, hG, hlk⟩ := id F
  have hl : lv_has ls 4 [(0, .ref m0), (1, .int x0), (2, .int x1)] := hl
  refine lv_aload_n hx hb dX12_shoot_0 rfl (lv_at hl 0 rfl) ?_
  refine lv_iload_n hx hb dX12_shoot_1 rfl (lv_at hl 1 rfl) ?_
  refine kcV (As := [.int x0]) (rest := []) F hE hP hl.1 (c_isArcher l D cy (m0 := m0) (x0 := x0) (a_tape := a_tape) (a_sign := a_sign) (a_length := a_length) (a_clause := a_clause) (a_clauses := a_clauses) (a_read := a_read) (a_open := a_open) (a_stack := a_stack) (a_word := a_word) (a_said := a_said) (a_planned := a_planned) (a_cameOf := a_cameOf) (a_wasSaid := a_wasSaid) (a_kept := a_kept) (a_rowNow := a_rowNow) (a_rowBest := a_rowBest) (a_hasBy := a_hasBy) (a_isFit := a_isFit) (a_cameThen := a_cameThen) (a_images := a_images) (a_imageForce := a_imageForce) (a_imageX := a_imageX) (a_isMade := a_isMade)) q_m_X12_314 mv_X12_isArcher ⟨(Nat.le_of_ble_eq_true rfl), (Nat.le_of_ble_eq_true rfl)⟩ [0, 1] rfl rfl rfl rfl rfl rfl (Nat.le_of_ble_eq_true rfl) ⟨(Nat.le_of_ble_eq_true rfl), (Nat.le_of_ble_eq_true rfl)⟩ dX12_shoot_2 (fun r_1 er_1 => ?_)
  subst er_1
  refine lv_if_eq (tgt := 24) hx hb dX12_shoot_5 (by decide) (fun _ => ?_) (fun q => absurd q (by decide))
  refine lv_iconst (v := (-1)) hx hb dX12_shoot_24 (by decide) ?_
  exact KP.rt F rfl rfl dX12_shoot_25

set_option maxHeartbeats 4000000 in
set_option maxRecDepth 100000 in
theorem m_pull (l : Launch) (D : va_G) (cy : Nat → ClassId) (m0 a_tape a_sign a_length a_clause a_clauses a_read a_open a_stack a_word a_said a_planned a_cameOf a_wasSaid a_kept a_rowNow a_rowBest a_hasBy a_isFit a_cameThen a_images a_imageForce a_imageX a_isMade : Nat) (x0 : Int32) (x1 : Int32) : KP l yX12_pull cX12_pull 4 (some .int) 1 21 D (kTY cy) [.ref m0, .int x0, .int x1] [(m0, .inr (12, [.ref a_tape, .int 0, .int 0, .ref a_sign, .ref a_length, .ref a_clause, .ref a_clauses, .ref a_read, .int 0, .int 0, .int 0, .int 0, .int 0, .int 0, .int 0, .ref a_open, .int 0, .ref a_stack, .int 0, .ref a_word, .ref a_said, .int (-1), .int 0, .int (-1), .ref a_planned, .ref a_cameOf, .ref a_wasSaid, .int 0, .ref a_kept, .ref a_rowNow, .ref a_rowBest, .ref a_hasBy, .ref a_isFit, .ref a_cameThen, .long 0, .ref a_images, .ref a_imageForce, .ref a_imageX, .ref a_isMade])), (a_said, .inl (cy 0, 115, .inl (fun _ => 0)))] (fun r => r = (-1)) := by
  refine KP.of (by decide) (Nat.le_of_ble_eq_true rfl) (fun p e s m below meth c ls F hE hP hl => ?_)
  have F : kF p s m meth c cX12_pull 4 (some .int) _ RX12 := F
  obtain ⟨hx, hb, hr, hml, hown, hG, hlk⟩ := id F
  have hl : lv_has ls 4 [(0, .ref m0), (1, .int x0), (2, .int x1)] := hl
  refine lv_aload_n hx hb dX12_pull_0 rfl (lv_at hl 0 rfl) ?_
  refine lv_iload_n hx hb dX12_pull_1 rfl (lv_at hl 1 rfl) ?_
  refine kcV (As := [.int x0]) (rest := []) F hE hP hl.1 (c_isRing l D cy (m0 := m0) (x0 := x0) (a_tape := a_tape) (a_sign := a_sign) (a_length := a_length) (a_clause := a_clause) (a_clauses := a_clauses) (a_read := a_read) (a_open := a_open) (a_stack := a_stack) (a_word := a_word) (a_said := a_said) (a_planned := a_planned) (a_cameOf := a_cameOf) (a_wasSaid := a_wasSaid) (a_kept := a_kept) (a_rowNow := a_rowNow) (a_rowBest := a_rowBest) (a_hasBy := a_hasBy) (a_isFit := a_isFit) (a_cameThen := a_cameThen) (a_images := a_images) (a_imageForce := a_imageForce) (a_imageX := a_imageX) (a_isMade := a_isMade)) q_m_X12_309 mv_X12_isRing ⟨(Nat.le_of_ble_eq_true rfl), (Nat.le_of_ble_eq_true rfl)⟩ [0, 1] rfl rfl rfl rfl rfl rfl (Nat.le_of_ble_eq_true rfl) ⟨(Nat.le_of_ble_eq_true rfl), (Nat.le_of_ble_eq_true rfl)⟩ dX12_pull_2 (fun r_1 er_1 => ?_)
  subst er_1
  refine lv_if_eq (tgt := 28) hx hb dX12_pull_5 (by decide) (fun _ => ?_) (fun q => absurd q (by decide))
  refine lv_iconst (v := (-1)) hx hb dX12_pull_28 (by decide) ?_
  exact KP.rt F rfl rfl dX12_pull_29

set_option maxHeartbeats 4000000 in
set_option maxRecDepth 100000 in
theorem m_breath (l : Launch) (D : va_G) (cy : Nat → ClassId) (m0 a_tape a_sign a_length a_clause a_clauses a_read a_open a_stack a_word a_said a_planned a_cameOf a_wasSaid a_kept a_rowNow a_rowBest a_hasBy a_isFit a_cameThen a_images a_imageForce a_imageX a_isMade : Nat) (x0 : Int32) : KP l yX12_breath cX12_breath 2 (some .int) 1 20 D (kTY cy) [.ref m0, .int x0] [(m0, .inr (12, [.ref a_tape, .int 0, .int 0, .ref a_sign, .ref a_length, .ref a_clause, .ref a_clauses, .ref a_read, .int 0, .int 0, .int 0, .int 0, .int 0, .int 0, .int 0, .ref a_open, .int 0, .ref a_stack, .int 0, .ref a_word, .ref a_said, .int (-1), .int 0, .int (-1), .ref a_planned, .ref a_cameOf, .ref a_wasSaid, .int 0, .ref a_kept, .ref a_rowNow, .ref a_rowBest, .ref a_hasBy, .ref a_isFit, .ref a_cameThen, .long 0, .ref a_images, .ref a_imageForce, .ref a_imageX, .ref a_isMade])), (a_said, .inl (cy 0, 115, .inl (fun _ => 0)))] (fun r => r = (-1)) := by
  refine KP.of (by decide) (Nat.le_of_ble_eq_true rfl) (fun p e s m below meth c ls F hE hP hl => ?_)
  have F : kF p s m meth c cX12_breath 2 (some .int) _ RX12 := F
  obtain ⟨hx, hb, hr, hml, hown, hG, hlk⟩ := id F
  have hl : lv_has ls 2 [(0, .ref m0), (1, .int x0)] := hl
  refine lv_aload_n hx hb dX12_breath_0 rfl (lv_at hl 0 rfl) ?_
  refine kcV (As := []) (rest := []) F hE hP hl.1 (c_isGreen l D cy (m0 := m0) (a_tape := a_tape) (a_sign := a_sign) (a_length := a_length) (a_clause := a_clause) (a_clauses := a_clauses) (a_read := a_read) (a_open := a_open) (a_stack := a_stack) (a_word := a_word) (a_said := a_said) (a_planned := a_planned) (a_cameOf := a_cameOf) (a_wasSaid := a_wasSaid) (a_kept := a_kept) (a_rowNow := a_rowNow) (a_rowBest := a_rowBest) (a_hasBy := a_hasBy) (a_isFit := a_isFit) (a_cameThen := a_cameThen) (a_images := a_images) (a_imageForce := a_imageForce) (a_imageX := a_imageX) (a_isMade := a_isMade)) q_m_X12_294 mv_X12_isGreen ⟨(Nat.le_of_ble_eq_true rfl), (Nat.le_of_ble_eq_true rfl)⟩ [0, 1] rfl rfl rfl rfl rfl rfl (Nat.le_of_ble_eq_true rfl) ⟨(Nat.le_of_ble_eq_true rfl), (Nat.le_of_ble_eq_true rfl)⟩ dX12_breath_1 (fun r_1 er_1 => ?_)
  subst er_1
  refine lv_if_eq (tgt := 19) hx hb dX12_breath_4 (by decide) (fun _ => ?_) (fun q => absurd q (by decide))
  refine lv_iconst (v := (-1)) hx hb dX12_breath_19 (by decide) ?_
  exact KP.rt F rfl rfl dX12_breath_20

set_option maxHeartbeats 4000000 in
set_option maxRecDepth 100000 in
theorem m_teach (l : Launch) (D : va_G) (cy : Nat → ClassId) (m0 a_tape a_sign a_length a_clause a_clauses a_read a_open a_stack a_word a_said a_planned a_cameOf a_wasSaid a_kept a_rowNow a_rowBest a_hasBy a_isFit a_cameThen a_images a_imageForce a_imageX a_isMade : Nat) (x0 : Int32) (x1 : Int32) : KP l yX12_teach cX12_teach 4 (some .int) 1 21 D (kTY cy) [.ref m0, .int x0, .int x1] [(m0, .inr (12, [.ref a_tape, .int 0, .int 0, .ref a_sign, .ref a_length, .ref a_clause, .ref a_clauses, .ref a_read, .int 0, .int 0, .int 0, .int 0, .int 0, .int 0, .int 0, .ref a_open, .int 0, .ref a_stack, .int 0, .ref a_word, .ref a_said, .int (-1), .int 0, .int (-1), .ref a_planned, .ref a_cameOf, .ref a_wasSaid, .int 0, .ref a_kept, .ref a_rowNow, .ref a_rowBest, .ref a_hasBy, .ref a_isFit, .ref a_cameThen, .long 0, .ref a_images, .ref a_imageForce, .ref a_imageX, .ref a_isMade])), (a_said, .inl (cy 0, 115, .inl (fun _ => 0)))] (fun r => r = (-1)) := by
  refine KP.of (by decide) (Nat.le_of_ble_eq_true rfl) (fun p e s m below meth c ls F hE hP hl => ?_)
  have F : kF p s m meth c cX12_teach 4 (some .int) _ RX12 := F
  obtain ⟨hx, hb, hr, hml, hown, hG, hlk⟩ := id F
  have hl : lv_has ls 4 [(0, .ref m0), (1, .int x0), (2, .int x1)] := hl
  refine lv_aload_n hx hb dX12_teach_0 rfl (lv_at hl 0 rfl) ?_
  refine lv_iload_n hx hb dX12_teach_1 rfl (lv_at hl 1 rfl) ?_
  refine kcV (As := [.int x0]) (rest := []) F hE hP hl.1 (c_isArcher l D cy (m0 := m0) (x0 := x0) (a_tape := a_tape) (a_sign := a_sign) (a_length := a_length) (a_clause := a_clause) (a_clauses := a_clauses) (a_read := a_read) (a_open := a_open) (a_stack := a_stack) (a_word := a_word) (a_said := a_said) (a_planned := a_planned) (a_cameOf := a_cameOf) (a_wasSaid := a_wasSaid) (a_kept := a_kept) (a_rowNow := a_rowNow) (a_rowBest := a_rowBest) (a_hasBy := a_hasBy) (a_isFit := a_isFit) (a_cameThen := a_cameThen) (a_images := a_images) (a_imageForce := a_imageForce) (a_imageX := a_imageX) (a_isMade := a_isMade)) q_m_X12_314 mv_X12_isArcher ⟨(Nat.le_of_ble_eq_true rfl), (Nat.le_of_ble_eq_true rfl)⟩ [0, 1] rfl rfl rfl rfl rfl rfl (Nat.le_of_ble_eq_true rfl) ⟨(Nat.le_of_ble_eq_true rfl), (Nat.le_of_ble_eq_true rfl)⟩ dX12_teach_2 (fun r_1 er_1 => ?_)
  subst er_1
  refine lv_if_eq (tgt := 29) hx hb dX12_teach_5 (by decide) (fun _ => ?_) (fun q => absurd q (by decide))
  refine lv_iconst (v := (-1)) hx hb dX12_teach_29 (by decide) ?_
  exact KP.rt F rfl rfl dX12_teach_30

set_option maxHeartbeats 4000000 in
set_option maxRecDepth 100000 in
theorem m_ahead (l : Launch) (D : va_G) (cy : Nat → ClassId) (m0 a_tape a_sign a_length a_clause a_clauses a_read a_open a_stack a_word a_said a_planned a_cameOf a_wasSaid a_kept a_rowNow a_rowBest a_hasBy a_isFit a_cameThen a_images a_imageForce a_imageX a_isMade : Nat) (x0 : Int32) (x1 : Int32) (x2 : Int32) : KP l yX12_ahead cX12_ahead 5 (some .int) 1 20 D (kTY cy) [.ref m0, .int x0, .int x1, .int x2] [(m0, .inr (12, [.ref a_tape, .int 0, .int 0, .ref a_sign, .ref a_length, .ref a_clause, .ref a_clauses, .ref a_read, .int 0, .int 0, .int 0, .int 0, .int 0, .int 0, .int 0, .ref a_open, .int 0, .ref a_stack, .int 0, .ref a_word, .ref a_said, .int (-1), .int 0, .int (-1), .ref a_planned, .ref a_cameOf, .ref a_wasSaid, .int 0, .ref a_kept, .ref a_rowNow, .ref a_rowBest, .ref a_hasBy, .ref a_isFit, .ref a_cameThen, .long 0, .ref a_images, .ref a_imageForce, .ref a_imageX, .ref a_isMade])), (a_said, .inl (cy 0, 115, .inl (fun _ => 0)))] (fun r => r = (-1)) := by
  refine KP.of (by decide) (Nat.le_of_ble_eq_true rfl) (fun p e s m below meth c ls F hE hP hl => ?_)
  have F : kF p s m meth c cX12_ahead 5 (some .int) _ RX12 := F
  obtain ⟨hx, hb, hr, hml, hown, hG, hlk⟩ := id F
  have hl : lv_has ls 5 [(0, .ref m0), (1, .int x0), (2, .int x1), (3, .int x2)] := hl
  refine lv_aload_n hx hb dX12_ahead_0 rfl (lv_at hl 0 rfl) ?_
  refine kcV (As := []) (rest := []) F hE hP hl.1 (c_isGreen l D cy (m0 := m0) (a_tape := a_tape) (a_sign := a_sign) (a_length := a_length) (a_clause := a_clause) (a_clauses := a_clauses) (a_read := a_read) (a_open := a_open) (a_stack := a_stack) (a_word := a_word) (a_said := a_said) (a_planned := a_planned) (a_cameOf := a_cameOf) (a_wasSaid := a_wasSaid) (a_kept := a_kept) (a_rowNow := a_rowNow) (a_rowBest := a_rowBest) (a_hasBy := a_hasBy) (a_isFit := a_isFit) (a_cameThen := a_cameThen) (a_images := a_images) (a_imageForce := a_imageForce) (a_imageX := a_imageX) (a_isMade := a_isMade)) q_m_X12_294 mv_X12_isGreen ⟨(Nat.le_of_ble_eq_true rfl), (Nat.le_of_ble_eq_true rfl)⟩ [0, 1] rfl rfl rfl rfl rfl rfl (Nat.le_of_ble_eq_true rfl) ⟨(Nat.le_of_ble_eq_true rfl), (Nat.le_of_ble_eq_true rfl)⟩ dX12_ahead_1 (fun r_1 er_1 => ?_)
  subst er_1
  refine lv_if_eq (tgt := 44) hx hb dX12_ahead_4 (by decide) (fun _ => ?_) (fun q => absurd q (by decide))
  refine lv_iconst (v := (-1)) hx hb dX12_ahead_44 (by decide) ?_
  exact KP.rt F rfl rfl dX12_ahead_45

set_option maxHeartbeats 4000000 in
set_option maxRecDepth 100000 in
theorem m_eased (l : Launch) (D : va_G) (cy : Nat → ClassId) (m0 a_tape a_sign a_length a_clause a_clauses a_read a_open a_stack a_word a_said a_planned a_cameOf a_wasSaid a_kept a_rowNow a_rowBest a_hasBy a_isFit a_cameThen a_images a_imageForce a_imageX a_isMade : Nat) (x0 : Int32) : KP l yX12_eased cX12_eased 2 (some .int) 1 21 D (kTY cy) [.ref m0, .int x0] [(m0, .inr (12, [.ref a_tape, .int 0, .int 0, .ref a_sign, .ref a_length, .ref a_clause, .ref a_clauses, .ref a_read, .int 0, .int 0, .int 0, .int 0, .int 0, .int 0, .int 0, .ref a_open, .int 0, .ref a_stack, .int 0, .ref a_word, .ref a_said, .int (-1), .int 0, .int (-1), .ref a_planned, .ref a_cameOf, .ref a_wasSaid, .int 0, .ref a_kept, .ref a_rowNow, .ref a_rowBest, .ref a_hasBy, .ref a_isFit, .ref a_cameThen, .long 0, .ref a_images, .ref a_imageForce, .ref a_imageX, .ref a_isMade])), (a_said, .inl (cy 0, 115, .inl (fun _ => 0)))] (fun r => r = (-1)) := by
  refine KP.of (by decide) (Nat.le_of_ble_eq_true rfl) (fun p e s m below meth c ls F hE hP hl => ?_)
  have F : kF p s m meth c cX12_eased 2 (some .int) _ RX12 := F
  obtain ⟨hx, hb, hr, hml, hown, hG, hlk⟩ := id F
  have hl : lv_has ls 2 [(0, .ref m0), (1, .int x0)] := hl
  refine lv_aload_n hx hb dX12_eased_0 rfl (lv_at hl 0 rfl) ?_
  refine lv_iload_n hx hb dX12_eased_1 rfl (lv_at hl 1 rfl) ?_
  refine kcV (As := [.int x0]) (rest := []) F hE hP hl.1 (c_isArcher l D cy (m0 := m0) (x0 := x0) (a_tape := a_tape) (a_sign := a_sign) (a_length := a_length) (a_clause := a_clause) (a_clauses := a_clauses) (a_read := a_read) (a_open := a_open) (a_stack := a_stack) (a_word := a_word) (a_said := a_said) (a_planned := a_planned) (a_cameOf := a_cameOf) (a_wasSaid := a_wasSaid) (a_kept := a_kept) (a_rowNow := a_rowNow) (a_rowBest := a_rowBest) (a_hasBy := a_hasBy) (a_isFit := a_isFit) (a_cameThen := a_cameThen) (a_images := a_images) (a_imageForce := a_imageForce) (a_imageX := a_imageX) (a_isMade := a_isMade)) q_m_X12_314 mv_X12_isArcher ⟨(Nat.le_of_ble_eq_true rfl), (Nat.le_of_ble_eq_true rfl)⟩ [0, 1] rfl rfl rfl rfl rfl rfl (Nat.le_of_ble_eq_true rfl) ⟨(Nat.le_of_ble_eq_true rfl), (Nat.le_of_ble_eq_true rfl)⟩ dX12_eased_2 (fun r_1 er_1 => ?_)
  subst er_1
  refine lv_if_eq (tgt := 16) hx hb dX12_eased_5 (by decide) (fun _ => ?_) (fun q => absurd q (by decide))
  refine lv_iconst (v := (-1)) hx hb dX12_eased_16 (by decide) ?_
  exact KP.rt F rfl rfl dX12_eased_17

set_option maxHeartbeats 4000000 in
set_option maxRecDepth 100000 in
theorem m_allEased (l : Launch) (D : va_G) (cy : Nat → ClassId) (m0 a_tape a_sign a_length a_clause a_clauses a_read a_open a_stack a_word a_said a_planned a_cameOf a_wasSaid a_kept a_rowNow a_rowBest a_hasBy a_isFit a_cameThen a_images a_imageForce a_imageX a_isMade : Nat) : KP l yX12_allEased cX12_allEased 1 (some .int) 1 20 D (kTY cy) [.ref m0] [(m0, .inr (12, [.ref a_tape, .int 0, .int 0, .ref a_sign, .ref a_length, .ref a_clause, .ref a_clauses, .ref a_read, .int 0, .int 0, .int 0, .int 0, .int 0, .int 0, .int 0, .ref a_open, .int 0, .ref a_stack, .int 0, .ref a_word, .ref a_said, .int (-1), .int 0, .int (-1), .ref a_planned, .ref a_cameOf, .ref a_wasSaid, .int 0, .ref a_kept, .ref a_rowNow, .ref a_rowBest, .ref a_hasBy, .ref a_isFit, .ref a_cameThen, .long 0, .ref a_images, .ref a_imageForce, .ref a_imageX, .ref a_isMade])), (a_said, .inl (cy 0, 115, .inl (fun _ => 0)))] (fun r => r = (-1)) := by
  refine KP.of (by decide) (Nat.le_of_ble_eq_true rfl) (fun p e s m below meth c ls F hE hP hl => ?_)
  have F : kF p s m meth c cX12_allEased 1 (some .int) _ RX12 := F
  obtain ⟨hx, hb, hr, hml, hown, hG, hlk⟩ := id F
  have hl : lv_has ls 1 [(0, .ref m0)] := hl
  refine lv_aload_n hx hb dX12_allEased_0 rfl (lv_at hl 0 rfl) ?_
  refine kcV (As := []) (rest := []) F hE hP hl.1 (c_isGreen l D cy (m0 := m0) (a_tape := a_tape) (a_sign := a_sign) (a_length := a_length) (a_clause := a_clause) (a_clauses := a_clauses) (a_read := a_read) (a_open := a_open) (a_stack := a_stack) (a_word := a_word) (a_said := a_said) (a_planned := a_planned) (a_cameOf := a_cameOf) (a_wasSaid := a_wasSaid) (a_kept := a_kept) (a_rowNow := a_rowNow) (a_rowBest := a_rowBest) (a_hasBy := a_hasBy) (a_isFit := a_isFit) (a_cameThen := a_cameThen) (a_images := a_images) (a_imageForce := a_imageForce) (a_imageX := a_imageX) (a_isMade := a_isMade)) q_m_X12_294 mv_X12_isGreen ⟨(Nat.le_of_ble_eq_true rfl), (Nat.le_of_ble_eq_true rfl)⟩ [0, 1] rfl rfl rfl rfl rfl rfl (Nat.le_of_ble_eq_true rfl) ⟨(Nat.le_of_ble_eq_true rfl), (Nat.le_of_ble_eq_true rfl)⟩ dX12_allEased_1 (fun r_1 er_1 => ?_)
  subst er_1
  refine lv_if_eq (tgt := 15) hx hb dX12_allEased_4 (by decide) (fun _ => ?_) (fun q => absurd q (by decide))
  refine lv_iconst (v := (-1)) hx hb dX12_allEased_15 (by decide) ?_
  exact KP.rt F rfl rfl dX12_allEased_16

set_option maxHeartbeats 4000000 in
set_option maxRecDepth 100000 in
theorem m_down (l : Launch) (D : va_G) (cy : Nat → ClassId) (m0 a_tape a_sign a_length a_clause a_clauses a_read a_open a_stack a_word a_said a_planned a_cameOf a_wasSaid a_kept a_rowNow a_rowBest a_hasBy a_isFit a_cameThen a_images a_imageForce a_imageX a_isMade : Nat) (x0 : Int32) (x1 : Int32) : KP l yX12_down cX12_down 4 (some .int) 1 21 D (kTY cy) [.ref m0, .int x0, .int x1] [(m0, .inr (12, [.ref a_tape, .int 0, .int 0, .ref a_sign, .ref a_length, .ref a_clause, .ref a_clauses, .ref a_read, .int 0, .int 0, .int 0, .int 0, .int 0, .int 0, .int 0, .ref a_open, .int 0, .ref a_stack, .int 0, .ref a_word, .ref a_said, .int (-1), .int 0, .int (-1), .ref a_planned, .ref a_cameOf, .ref a_wasSaid, .int 0, .ref a_kept, .ref a_rowNow, .ref a_rowBest, .ref a_hasBy, .ref a_isFit, .ref a_cameThen, .long 0, .ref a_images, .ref a_imageForce, .ref a_imageX, .ref a_isMade])), (a_said, .inl (cy 0, 115, .inl (fun _ => 0)))] (fun r => r = (-1)) := by
  refine KP.of (by decide) (Nat.le_of_ble_eq_true rfl) (fun p e s m below meth c ls F hE hP hl => ?_)
  have F : kF p s m meth c cX12_down 4 (some .int) _ RX12 := F
  obtain ⟨hx, hb, hr, hml, hown, hG, hlk⟩ := id F
  have hl : lv_has ls 4 [(0, .ref m0), (1, .int x0), (2, .int x1)] := hl
  refine lv_aload_n hx hb dX12_down_0 rfl (lv_at hl 0 rfl) ?_
  refine lv_iload_n hx hb dX12_down_1 rfl (lv_at hl 1 rfl) ?_
  refine kcV (As := [.int x0]) (rest := []) F hE hP hl.1 (c_isArcher l D cy (m0 := m0) (x0 := x0) (a_tape := a_tape) (a_sign := a_sign) (a_length := a_length) (a_clause := a_clause) (a_clauses := a_clauses) (a_read := a_read) (a_open := a_open) (a_stack := a_stack) (a_word := a_word) (a_said := a_said) (a_planned := a_planned) (a_cameOf := a_cameOf) (a_wasSaid := a_wasSaid) (a_kept := a_kept) (a_rowNow := a_rowNow) (a_rowBest := a_rowBest) (a_hasBy := a_hasBy) (a_isFit := a_isFit) (a_cameThen := a_cameThen) (a_images := a_images) (a_imageForce := a_imageForce) (a_imageX := a_imageX) (a_isMade := a_isMade)) q_m_X12_314 mv_X12_isArcher ⟨(Nat.le_of_ble_eq_true rfl), (Nat.le_of_ble_eq_true rfl)⟩ [0, 1] rfl rfl rfl rfl rfl rfl (Nat.le_of_ble_eq_true rfl) ⟨(Nat.le_of_ble_eq_true rfl), (Nat.le_of_ble_eq_true rfl)⟩ dX12_down_2 (fun r_1 er_1 => ?_)
  subst er_1
  refine lv_if_eq (tgt := 16) hx hb dX12_down_5 (by decide) (fun _ => ?_) (fun q => absurd q (by decide))
  refine lv_iconst (v := (-1)) hx hb dX12_down_16 (by decide) ?_
  exact KP.rt F rfl rfl dX12_down_17

set_option maxHeartbeats 4000000 in
set_option maxRecDepth 100000 in
theorem m_bestAim (l : Launch) (D : va_G) (cy : Nat → ClassId) (m0 a_tape a_sign a_length a_clause a_clauses a_read a_open a_stack a_word a_said a_planned a_cameOf a_wasSaid a_kept a_rowNow a_rowBest a_hasBy a_isFit a_cameThen a_images a_imageForce a_imageX a_isMade : Nat) (x0 : Int32) (x1 : Int32) : KP l yX12_bestAim cX12_bestAim 6 (some .int) 1 21 D (kTY cy) [.ref m0, .int x0, .int x1] [(m0, .inr (12, [.ref a_tape, .int 0, .int 0, .ref a_sign, .ref a_length, .ref a_clause, .ref a_clauses, .ref a_read, .int 0, .int 0, .int 0, .int 0, .int 0, .int 0, .int 0, .ref a_open, .int 0, .ref a_stack, .int 0, .ref a_word, .ref a_said, .int (-1), .int 0, .int (-1), .ref a_planned, .ref a_cameOf, .ref a_wasSaid, .int 0, .ref a_kept, .ref a_rowNow, .ref a_rowBest, .ref a_hasBy, .ref a_isFit, .ref a_cameThen, .long 0, .ref a_images, .ref a_imageForce, .ref a_imageX, .ref a_isMade])), (a_said, .inl (cy 0, 115, .inl (fun _ => 0)))] (fun r => r = (-2)) := by
  refine KP.of (by decide) (Nat.le_of_ble_eq_true rfl) (fun p e s m below meth c ls F hE hP hl => ?_)
  have F : kF p s m meth c cX12_bestAim 6 (some .int) _ RX12 := F
  obtain ⟨hx, hb, hr, hml, hown, hG, hlk⟩ := id F
  have hl : lv_has ls 6 [(0, .ref m0), (1, .int x0), (2, .int x1)] := hl
  refine lv_aload_n hx hb dX12_bestAim_0 rfl (lv_at hl 0 rfl) ?_
  refine lv_iload_n hx hb dX12_bestAim_1 rfl (lv_at hl 1 rfl) ?_
  refine kcV (As := [.int x0]) (rest := []) F hE hP hl.1 (c_isArcher l D cy (m0 := m0) (x0 := x0) (a_tape := a_tape) (a_sign := a_sign) (a_length := a_length) (a_clause := a_clause) (a_clauses := a_clauses) (a_read := a_read) (a_open := a_open) (a_stack := a_stack) (a_word := a_word) (a_said := a_said) (a_planned := a_planned) (a_cameOf := a_cameOf) (a_wasSaid := a_wasSaid) (a_kept := a_kept) (a_rowNow := a_rowNow) (a_rowBest := a_rowBest) (a_hasBy := a_hasBy) (a_isFit := a_isFit) (a_cameThen := a_cameThen) (a_images := a_images) (a_imageForce := a_imageForce) (a_imageX := a_imageX) (a_isMade := a_isMade)) q_m_X12_314 mv_X12_isArcher ⟨(Nat.le_of_ble_eq_true rfl), (Nat.le_of_ble_eq_true rfl)⟩ [0, 1] rfl rfl rfl rfl rfl rfl (Nat.le_of_ble_eq_true rfl) ⟨(Nat.le_of_ble_eq_true rfl), (Nat.le_of_ble_eq_true rfl)⟩ dX12_bestAim_2 (fun r_1 er_1 => ?_)
  subst er_1
  refine lv_if_eq (tgt := 18) hx hb dX12_bestAim_5 (by decide) (fun _ => ?_) (fun q => absurd q (by decide))
  refine lv_bipush (v := (-2)) hx hb dX12_bestAim_18 (by decide) ?_
  exact KP.rt F rfl rfl dX12_bestAim_20

set_option maxHeartbeats 4000000 in
set_option maxRecDepth 100000 in
theorem m_row (l : Launch) (D : va_G) (cy : Nat → ClassId) (m0 a_tape a_sign a_length a_clause a_clauses a_read a_open a_stack a_word a_said a_planned a_cameOf a_wasSaid a_kept a_rowNow a_rowBest a_hasBy a_isFit a_cameThen a_images a_imageForce a_imageX a_isMade : Nat) (x0 : Int32) (x1 : Int32) (x2 : Int32) : KP l yX12_row cX12_row 5 (some .int) 1 21 D (kTY cy) [.ref m0, .int x0, .int x1, .int x2] [(m0, .inr (12, [.ref a_tape, .int 0, .int 0, .ref a_sign, .ref a_length, .ref a_clause, .ref a_clauses, .ref a_read, .int 0, .int 0, .int 0, .int 0, .int 0, .int 0, .int 0, .ref a_open, .int 0, .ref a_stack, .int 0, .ref a_word, .ref a_said, .int (-1), .int 0, .int (-1), .ref a_planned, .ref a_cameOf, .ref a_wasSaid, .int 0, .ref a_kept, .ref a_rowNow, .ref a_rowBest, .ref a_hasBy, .ref a_isFit, .ref a_cameThen, .long 0, .ref a_images, .ref a_imageForce, .ref a_imageX, .ref a_isMade])), (a_said, .inl (cy 0, 115, .inl (fun _ => 0)))] (fun r => r = (-3)) := by
  refine KP.of (by decide) (Nat.le_of_ble_eq_true rfl) (fun p e s m below meth c ls F hE hP hl => ?_)
  have F : kF p s m meth c cX12_row 5 (some .int) _ RX12 := F
  obtain ⟨hx, hb, hr, hml, hown, hG, hlk⟩ := id F
  have hl : lv_has ls 5 [(0, .ref m0), (1, .int x0), (2, .int x1), (3, .int x2)] := hl
  refine lv_aload_n hx hb dX12_row_0 rfl (lv_at hl 0 rfl) ?_
  refine lv_iload_n hx hb dX12_row_1 rfl (lv_at hl 1 rfl) ?_
  refine kcV (As := [.int x0]) (rest := []) F hE hP hl.1 (c_isArcher l D cy (m0 := m0) (x0 := x0) (a_tape := a_tape) (a_sign := a_sign) (a_length := a_length) (a_clause := a_clause) (a_clauses := a_clauses) (a_read := a_read) (a_open := a_open) (a_stack := a_stack) (a_word := a_word) (a_said := a_said) (a_planned := a_planned) (a_cameOf := a_cameOf) (a_wasSaid := a_wasSaid) (a_kept := a_kept) (a_rowNow := a_rowNow) (a_rowBest := a_rowBest) (a_hasBy := a_hasBy) (a_isFit := a_isFit) (a_cameThen := a_cameThen) (a_images := a_images) (a_imageForce := a_imageForce) (a_imageX := a_imageX) (a_isMade := a_isMade)) q_m_X12_314 mv_X12_isArcher ⟨(Nat.le_of_ble_eq_true rfl), (Nat.le_of_ble_eq_true rfl)⟩ [0, 1] rfl rfl rfl rfl rfl rfl (Nat.le_of_ble_eq_true rfl) ⟨(Nat.le_of_ble_eq_true rfl), (Nat.le_of_ble_eq_true rfl)⟩ dX12_row_2 (fun r_1 er_1 => ?_)
  subst er_1
  refine lv_if_eq (tgt := 40) hx hb dX12_row_5 (by decide) (fun _ => ?_) (fun q => absurd q (by decide))
  refine lv_bipush (v := (-3)) hx hb dX12_row_40 (by decide) ?_
  exact KP.rt F rfl rfl dX12_row_42

set_option maxHeartbeats 4000000 in
set_option maxRecDepth 100000 in
theorem m_hold (l : Launch) (D : va_G) (cy : Nat → ClassId) (m0 a_tape a_sign a_length a_clause a_clauses a_read a_open a_stack a_word a_said a_planned a_cameOf a_wasSaid a_kept a_rowNow a_rowBest a_hasBy a_isFit a_cameThen a_images a_imageForce a_imageX a_isMade : Nat) (x0 : Int32) : KP l yX12_hold cX12_hold 4 (some .int) 1 21 D (kTY cy) [.ref m0, .int x0] [(m0, .inr (12, [.ref a_tape, .int 0, .int 0, .ref a_sign, .ref a_length, .ref a_clause, .ref a_clauses, .ref a_read, .int 0, .int 0, .int 0, .int 0, .int 0, .int 0, .int 0, .ref a_open, .int 0, .ref a_stack, .int 0, .ref a_word, .ref a_said, .int (-1), .int 0, .int (-1), .ref a_planned, .ref a_cameOf, .ref a_wasSaid, .int 0, .ref a_kept, .ref a_rowNow, .ref a_rowBest, .ref a_hasBy, .ref a_isFit, .ref a_cameThen, .long 0, .ref a_images, .ref a_imageForce, .ref a_imageX, .ref a_isMade])), (a_said, .inl (cy 0, 115, .inl (fun _ => 0)))] (fun r => r = (-1)) := by
  refine KP.of (by decide) (Nat.le_of_ble_eq_true rfl) (fun p e s m below meth c ls F hE hP hl => ?_)
  have F : kF p s m meth c cX12_hold 4 (some .int) _ RX12 := F
  obtain ⟨hx, hb, hr, hml, hown, hG, hlk⟩ := id F
  have hl : lv_has ls 4 [(0, .ref m0), (1, .int x0)] := hl
  refine lv_aload_n hx hb dX12_hold_0 rfl (lv_at hl 0 rfl) ?_
  refine lv_iload_n hx hb dX12_hold_1 rfl (lv_at hl 1 rfl) ?_
  refine kcV (As := [.int x0]) (rest := []) F hE hP hl.1 (c_isArcher l D cy (m0 := m0) (x0 := x0) (a_tape := a_tape) (a_sign := a_sign) (a_length := a_length) (a_clause := a_clause) (a_clauses := a_clauses) (a_read := a_read) (a_open := a_open) (a_stack := a_stack) (a_word := a_word) (a_said := a_said) (a_planned := a_planned) (a_cameOf := a_cameOf) (a_wasSaid := a_wasSaid) (a_kept := a_kept) (a_rowNow := a_rowNow) (a_rowBest := a_rowBest) (a_hasBy := a_hasBy) (a_isFit := a_isFit) (a_cameThen := a_cameThen) (a_images := a_images) (a_imageForce := a_imageForce) (a_imageX := a_imageX) (a_isMade := a_isMade)) q_m_X12_314 mv_X12_isArcher ⟨(Nat.le_of_ble_eq_true rfl), (Nat.le_of_ble_eq_true rfl)⟩ [0, 1] rfl rfl rfl rfl rfl rfl (Nat.le_of_ble_eq_true rfl) ⟨(Nat.le_of_ble_eq_true rfl), (Nat.le_of_ble_eq_true rfl)⟩ dX12_hold_2 (fun r_1 er_1 => ?_)
  subst er_1
  refine lv_if_ne (tgt := 10) hx hb dX12_hold_5 (by decide) (fun q => absurd q (by decide)) (fun _ => ?_)
  refine lv_iconst (v := (-1)) hx hb dX12_hold_8 (by decide) ?_
  exact KP.rt F rfl rfl dX12_hold_9

set_option maxHeartbeats 4000000 in
set_option maxRecDepth 100000 in
theorem m_leastSkill (l : Launch) (D : va_G) (cy : Nat → ClassId) (m0 a_tape a_sign a_length a_clause a_clauses a_read a_open a_stack a_word a_said a_planned a_cameOf a_wasSaid a_kept a_rowNow a_rowBest a_hasBy a_isFit a_cameThen a_images a_imageForce a_imageX a_isMade : Nat) (x0 : Int32) (x1 : Int32) : KP l yX12_leastSkill cX12_leastSkill 5 (some .int) 1 21 D (kTY cy) [.ref m0, .int x0, .int x1] [(m0, .inr (12, [.ref a_tape, .int 0, .int 0, .ref a_sign, .ref a_length, .ref a_clause, .ref a_clauses, .ref a_read, .int 0, .int 0, .int 0, .int 0, .int 0, .int 0, .int 0, .ref a_open, .int 0, .ref a_stack, .int 0, .ref a_word, .ref a_said, .int (-1), .int 0, .int (-1), .ref a_planned, .ref a_cameOf, .ref a_wasSaid, .int 0, .ref a_kept, .ref a_rowNow, .ref a_rowBest, .ref a_hasBy, .ref a_isFit, .ref a_cameThen, .long 0, .ref a_images, .ref a_imageForce, .ref a_imageX, .ref a_isMade])), (a_said, .inl (cy 0, 115, .inl (fun _ => 0)))] (fun r => r = (-1)) := by
  refine KP.of (by decide) (Nat.le_of_ble_eq_true rfl) (fun p e s m below meth c ls F hE hP hl => ?_)
  have F : kF p s m meth c cX12_leastSkill 5 (some .int) _ RX12 := F
  obtain ⟨hx, hb, hr, hml, hown, hG, hlk⟩ := id F
  have hl : lv_has ls 5 [(0, .ref m0), (1, .int x0), (2, .int x1)] := hl
  refine lv_aload_n hx hb dX12_leastSkill_0 rfl (lv_at hl 0 rfl) ?_
  refine lv_iload_n hx hb dX12_leastSkill_1 rfl (lv_at hl 1 rfl) ?_
  refine kcV (As := [.int x0]) (rest := []) F hE hP hl.1 (c_isArcher l D cy (m0 := m0) (x0 := x0) (a_tape := a_tape) (a_sign := a_sign) (a_length := a_length) (a_clause := a_clause) (a_clauses := a_clauses) (a_read := a_read) (a_open := a_open) (a_stack := a_stack) (a_word := a_word) (a_said := a_said) (a_planned := a_planned) (a_cameOf := a_cameOf) (a_wasSaid := a_wasSaid) (a_kept := a_kept) (a_rowNow := a_rowNow) (a_rowBest := a_rowBest) (a_hasBy := a_hasBy) (a_isFit := a_isFit) (a_cameThen := a_cameThen) (a_images := a_images) (a_imageForce := a_imageForce) (a_imageX := a_imageX) (a_isMade := a_isMade)) q_m_X12_314 mv_X12_isArcher ⟨(Nat.le_of_ble_eq_true rfl), (Nat.le_of_ble_eq_true rfl)⟩ [0, 1] rfl rfl rfl rfl rfl rfl (Nat.le_of_ble_eq_true rfl) ⟨(Nat.le_of_ble_eq_true rfl), (Nat.le_of_ble_eq_true rfl)⟩ dX12_leastSkill_2 (fun r_1 er_1 => ?_)
  subst er_1
  refine lv_if_eq (tgt := 20) hx hb dX12_leastSkill_5 (by decide) (fun _ => ?_) (fun q => absurd q (by decide))
  refine lv_iconst (v := (-1)) hx hb dX12_leastSkill_20 (by decide) ?_
  exact KP.rt F rfl rfl dX12_leastSkill_21

set_option maxHeartbeats 4000000 in
set_option maxRecDepth 100000 in
theorem m_set (l : Launch) (D : va_G) (cy : Nat → ClassId) (m0 a_tape a_sign a_length a_clause a_clauses a_read a_open a_stack a_word a_said a_planned a_cameOf a_wasSaid a_kept a_rowNow a_rowBest a_hasBy a_isFit a_cameThen a_images a_imageForce a_imageX a_isMade : Nat) (x0 : Int32) (x1 : Int32) (x2 : Int32) : KP l yX12_set cX12_set 8 (some .int) 1 21 D (kTY cy) [.ref m0, .int x0, .int x1, .int x2] [(m0, .inr (12, [.ref a_tape, .int 0, .int 0, .ref a_sign, .ref a_length, .ref a_clause, .ref a_clauses, .ref a_read, .int 0, .int 0, .int 0, .int 0, .int 0, .int 0, .int 0, .ref a_open, .int 0, .ref a_stack, .int 0, .ref a_word, .ref a_said, .int (-1), .int 0, .int (-1), .ref a_planned, .ref a_cameOf, .ref a_wasSaid, .int 0, .ref a_kept, .ref a_rowNow, .ref a_rowBest, .ref a_hasBy, .ref a_isFit, .ref a_cameThen, .long 0, .ref a_images, .ref a_imageForce, .ref a_imageX, .ref a_isMade])), (a_said, .inl (cy 0, 115, .inl (fun _ => 0)))] (fun r => r = (-1)) := by
  refine KP.of (by decide) (Nat.le_of_ble_eq_true rfl) (fun p e s m below meth c ls F hE hP hl => ?_)
  have F : kF p s m meth c cX12_set 8 (some .int) _ RX12 := F
  obtain ⟨hx, hb, hr, hml, hown, hG, hlk⟩ := id F
  have hl : lv_has ls 8 [(0, .ref m0), (1, .int x0), (2, .int x1), (3, .int x2)] := hl
  refine lv_aload_n hx hb dX12_set_0 rfl (lv_at hl 0 rfl) ?_
  refine lv_iload_n hx hb dX12_set_1 rfl (lv_at hl 1 rfl) ?_
  refine kcV (As := [.int x0]) (rest := []) F hE hP hl.1 (c_isRing l D cy (m0 := m0) (x0 := x0) (a_tape := a_tape) (a_sign := a_sign) (a_length := a_length) (a_clause := a_clause) (a_clauses := a_clauses) (a_read := a_read) (a_open := a_open) (a_stack := a_stack) (a_word := a_word) (a_said := a_said) (a_planned := a_planned) (a_cameOf := a_cameOf) (a_wasSaid := a_wasSaid) (a_kept := a_kept) (a_rowNow := a_rowNow) (a_rowBest := a_rowBest) (a_hasBy := a_hasBy) (a_isFit := a_isFit) (a_cameThen := a_cameThen) (a_images := a_images) (a_imageForce := a_imageForce) (a_imageX := a_imageX) (a_isMade := a_isMade)) q_m_X12_309 mv_X12_isRing ⟨(Nat.le_of_ble_eq_true rfl), (Nat.le_of_ble_eq_true rfl)⟩ [0, 1] rfl rfl rfl rfl rfl rfl (Nat.le_of_ble_eq_true rfl) ⟨(Nat.le_of_ble_eq_true rfl), (Nat.le_of_ble_eq_true rfl)⟩ dX12_set_2 (fun r_1 er_1 => ?_)
  subst er_1
  refine lv_if_eq (tgt := 30) hx hb dX12_set_5 (by decide) (fun _ => ?_) (fun q => absurd q (by decide))
  refine lv_iconst (v := (-1)) hx hb dX12_set_30 (by decide) ?_
  exact KP.rt F rfl rfl dX12_set_31

set_option maxHeartbeats 4000000 in
set_option maxRecDepth 100000 in
theorem m_given (l : Launch) (D : va_G) (cy : Nat → ClassId) (m0 a_tape a_sign a_length a_clause a_clauses a_read a_open a_stack a_word a_said a_planned a_cameOf a_wasSaid a_kept a_rowNow a_rowBest a_hasBy a_isFit a_cameThen a_images a_imageForce a_imageX a_isMade : Nat) (x0 : Int32) (x1 : Int32) : KP l yX12_given cX12_given 7 (some .int) 1 20 D (kTY cy) [.ref m0, .int x0, .int x1] [(m0, .inr (12, [.ref a_tape, .int 0, .int 0, .ref a_sign, .ref a_length, .ref a_clause, .ref a_clauses, .ref a_read, .int 0, .int 0, .int 0, .int 0, .int 0, .int 0, .int 0, .ref a_open, .int 0, .ref a_stack, .int 0, .ref a_word, .ref a_said, .int (-1), .int 0, .int (-1), .ref a_planned, .ref a_cameOf, .ref a_wasSaid, .int 0, .ref a_kept, .ref a_rowNow, .ref a_rowBest, .ref a_hasBy, .ref a_isFit, .ref a_cameThen, .long 0, .ref a_images, .ref a_imageForce, .ref a_imageX, .ref a_isMade])), (a_said, .inl (cy 0, 115, .inl (fun _ => 0)))] (fun r => r = (-2)) := by
  refine KP.of (by decide) (Nat.le_of_ble_eq_true rfl) (fun p e s m below meth c ls F hE hP hl => ?_)
  have F : kF p s m meth c cX12_given 7 (some .int) _ RX12 := F
  obtain ⟨hx, hb, hr, hml, hown, hG, hlk⟩ := id F
  have hl : lv_has ls 7 [(0, .ref m0), (1, .int x0), (2, .int x1)] := hl
  refine lv_aload_n hx hb dX12_given_0 rfl (lv_at hl 0 rfl) ?_
  refine kcV (As := []) (rest := []) F hE hP hl.1 (c_isGreen l D cy (m0 := m0) (a_tape := a_tape) (a_sign := a_sign) (a_length := a_length) (a_clause := a_clause) (a_clauses := a_clauses) (a_read := a_read) (a_open := a_open) (a_stack := a_stack) (a_word := a_word) (a_said := a_said) (a_planned := a_planned) (a_cameOf := a_cameOf) (a_wasSaid := a_wasSaid) (a_kept := a_kept) (a_rowNow := a_rowNow) (a_rowBest := a_rowBest) (a_hasBy := a_hasBy) (a_isFit := a_isFit) (a_cameThen := a_cameThen) (a_images := a_images) (a_imageForce := a_imageForce) (a_imageX := a_imageX) (a_isMade := a_isMade)) q_m_X12_294 mv_X12_isGreen ⟨(Nat.le_of_ble_eq_true rfl), (Nat.le_of_ble_eq_true rfl)⟩ [0, 1] rfl rfl rfl rfl rfl rfl (Nat.le_of_ble_eq_true rfl) ⟨(Nat.le_of_ble_eq_true rfl), (Nat.le_of_ble_eq_true rfl)⟩ dX12_given_1 (fun r_1 er_1 => ?_)
  subst er_1
  refine lv_if_eq (tgt := 29) hx hb dX12_given_4 (by decide) (fun _ => ?_) (fun q => absurd q (by decide))
  refine lv_bipush (v := (-2)) hx hb dX12_given_29 (by decide) ?_
  exact KP.rt F rfl rfl dX12_given_31

set_option maxHeartbeats 4000000 in
set_option maxRecDepth 100000 in
theorem m_rests (l : Launch) (D : va_G) (cy : Nat → ClassId) (m0 a_tape a_sign a_length a_clause a_clauses a_read a_open a_stack a_word a_said a_planned a_cameOf a_wasSaid a_kept a_rowNow a_rowBest a_hasBy a_isFit a_cameThen a_images a_imageForce a_imageX a_isMade : Nat) (x0 : Int32) (x1 : Int32) (x2 : Int32) (x3 : Int32) : KP l yX12_rests cX12_rests 9 (some .int) 1 21 D (kTY cy) [.ref m0, .int x0, .int x1, .int x2, .int x3] [(m0, .inr (12, [.ref a_tape, .int 0, .int 0, .ref a_sign, .ref a_length, .ref a_clause, .ref a_clauses, .ref a_read, .int 0, .int 0, .int 0, .int 0, .int 0, .int 0, .int 0, .ref a_open, .int 0, .ref a_stack, .int 0, .ref a_word, .ref a_said, .int (-1), .int 0, .int (-1), .ref a_planned, .ref a_cameOf, .ref a_wasSaid, .int 0, .ref a_kept, .ref a_rowNow, .ref a_rowBest, .ref a_hasBy, .ref a_isFit, .ref a_cameThen, .long 0, .ref a_images, .ref a_imageForce, .ref a_imageX, .ref a_isMade])), (a_said, .inl (cy 0, 115, .inl (fun _ => 0)))] (fun r => r = (-1)) := by
  refine KP.of (by decide) (Nat.le_of_ble_eq_true rfl) (fun p e s m below meth c ls F hE hP hl => ?_)
  have F : kF p s m meth c cX12_rests 9 (some .int) _ RX12 := F
  obtain ⟨hx, hb, hr, hml, hown, hG, hlk⟩ := id F
  have hl : lv_has ls 9 [(0, .ref m0), (1, .int x0), (2, .int x1), (3, .int x2), (4, .int x3)] := hl
  refine lv_aload_n hx hb dX12_rests_0 rfl (lv_at hl 0 rfl) ?_
  refine lv_iload_n hx hb dX12_rests_1 rfl (lv_at hl 1 rfl) ?_
  refine kcV (As := [.int x0]) (rest := []) F hE hP hl.1 (c_isArcher l D cy (m0 := m0) (x0 := x0) (a_tape := a_tape) (a_sign := a_sign) (a_length := a_length) (a_clause := a_clause) (a_clauses := a_clauses) (a_read := a_read) (a_open := a_open) (a_stack := a_stack) (a_word := a_word) (a_said := a_said) (a_planned := a_planned) (a_cameOf := a_cameOf) (a_wasSaid := a_wasSaid) (a_kept := a_kept) (a_rowNow := a_rowNow) (a_rowBest := a_rowBest) (a_hasBy := a_hasBy) (a_isFit := a_isFit) (a_cameThen := a_cameThen) (a_images := a_images) (a_imageForce := a_imageForce) (a_imageX := a_imageX) (a_isMade := a_isMade)) q_m_X12_314 mv_X12_isArcher ⟨(Nat.le_of_ble_eq_true rfl), (Nat.le_of_ble_eq_true rfl)⟩ [0, 1] rfl rfl rfl rfl rfl rfl (Nat.le_of_ble_eq_true rfl) ⟨(Nat.le_of_ble_eq_true rfl), (Nat.le_of_ble_eq_true rfl)⟩ dX12_rests_2 (fun r_1 er_1 => ?_)
  subst er_1
  refine lv_if_eq (tgt := 46) hx hb dX12_rests_5 (by decide) (fun _ => ?_) (fun q => absurd q (by decide))
  refine lv_iconst (v := (-1)) hx hb dX12_rests_46 (by decide) ?_
  exact KP.rt F rfl rfl dX12_rests_47

set_option maxHeartbeats 4000000 in
set_option maxRecDepth 100000 in
theorem m_pence (l : Launch) (D : va_G) (cy : Nat → ClassId) (m0 a_tape a_sign a_length a_clause a_clauses a_read a_open a_stack a_word a_said a_planned a_cameOf a_wasSaid a_kept a_rowNow a_rowBest a_hasBy a_isFit a_cameThen a_images a_imageForce a_imageX a_isMade : Nat) (x0 : Int32) (x1 : Int32) : KP l yX12_pence cX12_pence 13 (some .int) 1 21 D (kTY cy) [.ref m0, .int x0, .int x1] [(m0, .inr (12, [.ref a_tape, .int 0, .int 0, .ref a_sign, .ref a_length, .ref a_clause, .ref a_clauses, .ref a_read, .int 0, .int 0, .int 0, .int 0, .int 0, .int 0, .int 0, .ref a_open, .int 0, .ref a_stack, .int 0, .ref a_word, .ref a_said, .int (-1), .int 0, .int (-1), .ref a_planned, .ref a_cameOf, .ref a_wasSaid, .int 0, .ref a_kept, .ref a_rowNow, .ref a_rowBest, .ref a_hasBy, .ref a_isFit, .ref a_cameThen, .long 0, .ref a_images, .ref a_imageForce, .ref a_imageX, .ref a_isMade])), (a_said, .inl (cy 0, 115, .inl (fun _ => 0)))] (fun r => r = (-1)) := by
  refine KP.of (by decide) (Nat.le_of_ble_eq_true rfl) (fun p e s m below meth c ls F hE hP hl => ?_)
  have F : kF p s m meth c cX12_pence 13 (some .int) _ RX12 := F
  obtain ⟨hx, hb, hr, hml, hown, hG, hlk⟩ := id F
  have hl : lv_has ls 13 [(0, .ref m0), (1, .int x0), (2, .int x1)] := hl
  refine lv_aload_n hx hb dX12_pence_0 rfl (lv_at hl 0 rfl) ?_
  refine lv_iload_n hx hb dX12_pence_1 rfl (lv_at hl 2 rfl) ?_
  refine kcV (As := [.int x1]) (rest := []) F hE hP hl.1 (c_isRing l D cy (m0 := m0) (x0 := x1) (a_tape := a_tape) (a_sign := a_sign) (a_length := a_length) (a_clause := a_clause) (a_clauses := a_clauses) (a_read := a_read) (a_open := a_open) (a_stack := a_stack) (a_word := a_word) (a_said := a_said) (a_planned := a_planned) (a_cameOf := a_cameOf) (a_wasSaid := a_wasSaid) (a_kept := a_kept) (a_rowNow := a_rowNow) (a_rowBest := a_rowBest) (a_hasBy := a_hasBy) (a_isFit := a_isFit) (a_cameThen := a_cameThen) (a_images := a_images) (a_imageForce := a_imageForce) (a_imageX := a_imageX) (a_isMade := a_isMade)) q_m_X12_309 mv_X12_isRing ⟨(Nat.le_of_ble_eq_true rfl), (Nat.le_of_ble_eq_true rfl)⟩ [0, 1] rfl rfl rfl rfl rfl rfl (Nat.le_of_ble_eq_true rfl) ⟨(Nat.le_of_ble_eq_true rfl), (Nat.le_of_ble_eq_true rfl)⟩ dX12_pence_2 (fun r_1 er_1 => ?_)
  subst er_1
  refine lv_if_eq (tgt := 20) hx hb dX12_pence_5 (by decide) (fun _ => ?_) (fun q => absurd q (by decide))
  refine lv_iconst (v := (-1)) hx hb dX12_pence_20 (by decide) ?_
  exact KP.rt F rfl rfl dX12_pence_21

set_option maxHeartbeats 4000000 in
set_option maxRecDepth 100000 in
theorem m_skilled (l : Launch) (D : va_G) (cy : Nat → ClassId) (m0 a_tape a_sign a_length a_clause a_clauses a_read a_open a_stack a_word a_said a_planned a_cameOf a_wasSaid a_kept a_rowNow a_rowBest a_hasBy a_isFit a_cameThen a_images a_imageForce a_imageX a_isMade : Nat) (x0 : Int32) : KP l yX12_skilled cX12_skilled 2 (some .int) 1 21 D (kTY cy) [.ref m0, .int x0] [(m0, .inr (12, [.ref a_tape, .int 0, .int 0, .ref a_sign, .ref a_length, .ref a_clause, .ref a_clauses, .ref a_read, .int 0, .int 0, .int 0, .int 0, .int 0, .int 0, .int 0, .ref a_open, .int 0, .ref a_stack, .int 0, .ref a_word, .ref a_said, .int (-1), .int 0, .int (-1), .ref a_planned, .ref a_cameOf, .ref a_wasSaid, .int 0, .ref a_kept, .ref a_rowNow, .ref a_rowBest, .ref a_hasBy, .ref a_isFit, .ref a_cameThen, .long 0, .ref a_images, .ref a_imageForce, .ref a_imageX, .ref a_isMade])), (a_said, .inl (cy 0, 115, .inl (fun _ => 0)))] (fun r => r = (-1)) := by
  refine KP.of (by decide) (Nat.le_of_ble_eq_true rfl) (fun p e s m below meth c ls F hE hP hl => ?_)
  have F : kF p s m meth c cX12_skilled 2 (some .int) _ RX12 := F
  obtain ⟨hx, hb, hr, hml, hown, hG, hlk⟩ := id F
  have hl : lv_has ls 2 [(0, .ref m0), (1, .int x0)] := hl
  refine lv_aload_n hx hb dX12_skilled_0 rfl (lv_at hl 0 rfl) ?_
  refine lv_iload_n hx hb dX12_skilled_1 rfl (lv_at hl 1 rfl) ?_
  refine kcV (As := [.int x0]) (rest := []) F hE hP hl.1 (c_isArcher l D cy (m0 := m0) (x0 := x0) (a_tape := a_tape) (a_sign := a_sign) (a_length := a_length) (a_clause := a_clause) (a_clauses := a_clauses) (a_read := a_read) (a_open := a_open) (a_stack := a_stack) (a_word := a_word) (a_said := a_said) (a_planned := a_planned) (a_cameOf := a_cameOf) (a_wasSaid := a_wasSaid) (a_kept := a_kept) (a_rowNow := a_rowNow) (a_rowBest := a_rowBest) (a_hasBy := a_hasBy) (a_isFit := a_isFit) (a_cameThen := a_cameThen) (a_images := a_images) (a_imageForce := a_imageForce) (a_imageX := a_imageX) (a_isMade := a_isMade)) q_m_X12_314 mv_X12_isArcher ⟨(Nat.le_of_ble_eq_true rfl), (Nat.le_of_ble_eq_true rfl)⟩ [0, 1] rfl rfl rfl rfl rfl rfl (Nat.le_of_ble_eq_true rfl) ⟨(Nat.le_of_ble_eq_true rfl), (Nat.le_of_ble_eq_true rfl)⟩ dX12_skilled_2 (fun r_1 er_1 => ?_)
  subst er_1
  refine lv_if_eq (tgt := 24) hx hb dX12_skilled_5 (by decide) (fun _ => ?_) (fun q => absurd q (by decide))
  refine lv_iconst (v := (-1)) hx hb dX12_skilled_24 (by decide) ?_
  exact KP.rt F rfl rfl dX12_skilled_25

set_option maxHeartbeats 4000000 in
set_option maxRecDepth 100000 in
theorem m_ails (l : Launch) (D : va_G) (cy : Nat → ClassId) (m0 a_tape a_sign a_length a_clause a_clauses a_read a_open a_stack a_word a_said a_planned a_cameOf a_wasSaid a_kept a_rowNow a_rowBest a_hasBy a_isFit a_cameThen a_images a_imageForce a_imageX a_isMade : Nat) (x0 : Int32) : KP l yX12_ails cX12_ails 2 (some .int) 1 21 D (kTY cy) [.ref m0, .int x0] [(m0, .inr (12, [.ref a_tape, .int 0, .int 0, .ref a_sign, .ref a_length, .ref a_clause, .ref a_clauses, .ref a_read, .int 0, .int 0, .int 0, .int 0, .int 0, .int 0, .int 0, .ref a_open, .int 0, .ref a_stack, .int 0, .ref a_word, .ref a_said, .int (-1), .int 0, .int (-1), .ref a_planned, .ref a_cameOf, .ref a_wasSaid, .int 0, .ref a_kept, .ref a_rowNow, .ref a_rowBest, .ref a_hasBy, .ref a_isFit, .ref a_cameThen, .long 0, .ref a_images, .ref a_imageForce, .ref a_imageX, .ref a_isMade])), (a_said, .inl (cy 0, 115, .inl (fun _ => 0)))] (fun r => r = (-1)) := by
  refine KP.of (by decide) (Nat.le_of_ble_eq_true rfl) (fun p e s m below meth c ls F hE hP hl => ?_)
  have F : kF p s m meth c cX12_ails 2 (some .int) _ RX12 := F
  obtain ⟨hx, hb, hr, hml, hown, hG, hlk⟩ := id F
  have hl : lv_has ls 2 [(0, .ref m0), (1, .int x0)] := hl
  refine lv_aload_n hx hb dX12_ails_0 rfl (lv_at hl 0 rfl) ?_
  refine lv_iload_n hx hb dX12_ails_1 rfl (lv_at hl 1 rfl) ?_
  refine kcV (As := [.int x0]) (rest := []) F hE hP hl.1 (c_isArcher l D cy (m0 := m0) (x0 := x0) (a_tape := a_tape) (a_sign := a_sign) (a_length := a_length) (a_clause := a_clause) (a_clauses := a_clauses) (a_read := a_read) (a_open := a_open) (a_stack := a_stack) (a_word := a_word) (a_said := a_said) (a_planned := a_planned) (a_cameOf := a_cameOf) (a_wasSaid := a_wasSaid) (a_kept := a_kept) (a_rowNow := a_rowNow) (a_rowBest := a_rowBest) (a_hasBy := a_hasBy) (a_isFit := a_isFit) (a_cameThen := a_cameThen) (a_images := a_images) (a_imageForce := a_imageForce) (a_imageX := a_imageX) (a_isMade := a_isMade)) q_m_X12_314 mv_X12_isArcher ⟨(Nat.le_of_ble_eq_true rfl), (Nat.le_of_ble_eq_true rfl)⟩ [0, 1] rfl rfl rfl rfl rfl rfl (Nat.le_of_ble_eq_true rfl) ⟨(Nat.le_of_ble_eq_true rfl), (Nat.le_of_ble_eq_true rfl)⟩ dX12_ails_2 (fun r_1 er_1 => ?_)
  subst er_1
  refine lv_if_eq (tgt := 28) hx hb dX12_ails_5 (by decide) (fun _ => ?_) (fun q => absurd q (by decide))
  refine lv_iconst (v := (-1)) hx hb dX12_ails_28 (by decide) ?_
  exact KP.rt F rfl rfl dX12_ails_29

set_option maxHeartbeats 4000000 in
set_option maxRecDepth 100000 in
theorem m_ruled (l : Launch) (D : va_G) (cy : Nat → ClassId) (m0 a_tape a_sign a_length a_clause a_clauses a_read a_open a_stack a_word a_said a_planned a_cameOf a_wasSaid a_kept a_rowNow a_rowBest a_hasBy a_isFit a_cameThen a_images a_imageForce a_imageX a_isMade : Nat) (x0 : Int32) : KP l yX12_ruled cX12_ruled 5 (some .int) 1 20 D (kTY cy) [.ref m0, .int x0] [(m0, .inr (12, [.ref a_tape, .int 0, .int 0, .ref a_sign, .ref a_length, .ref a_clause, .ref a_clauses, .ref a_read, .int 0, .int 0, .int 0, .int 0, .int 0, .int 0, .int 0, .ref a_open, .int 0, .ref a_stack, .int 0, .ref a_word, .ref a_said, .int (-1), .int 0, .int (-1), .ref a_planned, .ref a_cameOf, .ref a_wasSaid, .int 0, .ref a_kept, .ref a_rowNow, .ref a_rowBest, .ref a_hasBy, .ref a_isFit, .ref a_cameThen, .long 0, .ref a_images, .ref a_imageForce, .ref a_imageX, .ref a_isMade])), (a_said, .inl (cy 0, 115, .inl (fun _ => 0)))] (fun r => r = (-3)) := by
  refine KP.of (by decide) (Nat.le_of_ble_eq_true rfl) (fun p e s m below meth c ls F hE hP hl => ?_)
  have F : kF p s m meth c cX12_ruled 5 (some .int) _ RX12 := F
  obtain ⟨hx, hb, hr, hml, hown, hG, hlk⟩ := id F
  have hl : lv_has ls 5 [(0, .ref m0), (1, .int x0)] := hl
  refine lv_aload_n hx hb dX12_ruled_0 rfl (lv_at hl 0 rfl) ?_
  refine kcV (As := []) (rest := []) F hE hP hl.1 (c_isGreen l D cy (m0 := m0) (a_tape := a_tape) (a_sign := a_sign) (a_length := a_length) (a_clause := a_clause) (a_clauses := a_clauses) (a_read := a_read) (a_open := a_open) (a_stack := a_stack) (a_word := a_word) (a_said := a_said) (a_planned := a_planned) (a_cameOf := a_cameOf) (a_wasSaid := a_wasSaid) (a_kept := a_kept) (a_rowNow := a_rowNow) (a_rowBest := a_rowBest) (a_hasBy := a_hasBy) (a_isFit := a_isFit) (a_cameThen := a_cameThen) (a_images := a_images) (a_imageForce := a_imageForce) (a_imageX := a_imageX) (a_isMade := a_isMade)) q_m_X12_294 mv_X12_isGreen ⟨(Nat.le_of_ble_eq_true rfl), (Nat.le_of_ble_eq_true rfl)⟩ [0, 1] rfl rfl rfl rfl rfl rfl (Nat.le_of_ble_eq_true rfl) ⟨(Nat.le_of_ble_eq_true rfl), (Nat.le_of_ble_eq_true rfl)⟩ dX12_ruled_1 (fun r_1 er_1 => ?_)
  subst er_1
  refine lv_if_eq (tgt := 17) hx hb dX12_ruled_4 (by decide) (fun _ => ?_) (fun q => absurd q (by decide))
  refine lv_bipush (v := (-3)) hx hb dX12_ruled_17 (by decide) ?_
  exact KP.rt F rfl rfl dX12_ruled_19

set_option maxHeartbeats 4000000 in
set_option maxRecDepth 100000 in
theorem m_look (l : Launch) (D : va_G) (cy : Nat → ClassId) (m0 a_tape a_sign a_length a_clause a_clauses a_read a_open a_stack a_word a_said a_planned a_cameOf a_wasSaid a_kept a_rowNow a_rowBest a_hasBy a_isFit a_cameThen a_images a_imageForce a_imageX a_isMade : Nat) (x0 : Int32) (x1 : Int32) : KP l yX12_look cX12_look 7 (some .int) 1 20 D (kTY cy) [.ref m0, .int x0, .int x1] [(m0, .inr (12, [.ref a_tape, .int 0, .int 0, .ref a_sign, .ref a_length, .ref a_clause, .ref a_clauses, .ref a_read, .int 0, .int 0, .int 0, .int 0, .int 0, .int 0, .int 0, .ref a_open, .int 0, .ref a_stack, .int 0, .ref a_word, .ref a_said, .int (-1), .int 0, .int (-1), .ref a_planned, .ref a_cameOf, .ref a_wasSaid, .int 0, .ref a_kept, .ref a_rowNow, .ref a_rowBest, .ref a_hasBy, .ref a_isFit, .ref a_cameThen, .long 0, .ref a_images, .ref a_imageForce, .ref a_imageX, .ref a_isMade])), (a_said, .inl (cy 0, 115, .inl (fun _ => 0)))] (fun r => r = (-1)) := by
  refine KP.of (by decide) (Nat.le_of_ble_eq_true rfl) (fun p e s m below meth c ls F hE hP hl => ?_)
  have F : kF p s m meth c cX12_look 7 (some .int) _ RX12 := F
  obtain ⟨hx, hb, hr, hml, hown, hG, hlk⟩ := id F
  have hl : lv_has ls 7 [(0, .ref m0), (1, .int x0), (2, .int x1)] := hl
  refine lv_aload_n hx hb dX12_look_0 rfl (lv_at hl 0 rfl) ?_
  refine kcV (As := []) (rest := []) F hE hP hl.1 (c_isGreen l D cy (m0 := m0) (a_tape := a_tape) (a_sign := a_sign) (a_length := a_length) (a_clause := a_clause) (a_clauses := a_clauses) (a_read := a_read) (a_open := a_open) (a_stack := a_stack) (a_word := a_word) (a_said := a_said) (a_planned := a_planned) (a_cameOf := a_cameOf) (a_wasSaid := a_wasSaid) (a_kept := a_kept) (a_rowNow := a_rowNow) (a_rowBest := a_rowBest) (a_hasBy := a_hasBy) (a_isFit := a_isFit) (a_cameThen := a_cameThen) (a_images := a_images) (a_imageForce := a_imageForce) (a_imageX := a_imageX) (a_isMade := a_isMade)) q_m_X12_294 mv_X12_isGreen ⟨(Nat.le_of_ble_eq_true rfl), (Nat.le_of_ble_eq_true rfl)⟩ [0, 1] rfl rfl rfl rfl rfl rfl (Nat.le_of_ble_eq_true rfl) ⟨(Nat.le_of_ble_eq_true rfl), (Nat.le_of_ble_eq_true rfl)⟩ dX12_look_1 (fun r_1 er_1 => ?_)
  subst er_1
  refine lv_if_eq (tgt := 29) hx hb dX12_look_4 (by decide) (fun _ => ?_) (fun q => absurd q (by decide))
  refine lv_iconst (v := (-1)) hx hb dX12_look_29 (by decide) ?_
  exact KP.rt F rfl rfl dX12_look_30

set_option maxHeartbeats 4000000 in
set_option maxRecDepth 100000 in
theorem m_gusts (l : Launch) (D : va_G) (cy : Nat → ClassId) (m0 a_tape a_sign a_length a_clause a_clauses a_read a_open a_stack a_word a_said a_planned a_cameOf a_wasSaid a_kept a_rowNow a_rowBest a_hasBy a_isFit a_cameThen a_images a_imageForce a_imageX a_isMade : Nat) (x0 : Int32) (x1 : Int32) (x2 : Int32) (x3 : Int32) : KP l yX12_gusts cX12_gusts 10 (some .int) 1 20 D (kTY cy) [.ref m0, .int x0, .int x1, .int x2, .int x3] [(m0, .inr (12, [.ref a_tape, .int 0, .int 0, .ref a_sign, .ref a_length, .ref a_clause, .ref a_clauses, .ref a_read, .int 0, .int 0, .int 0, .int 0, .int 0, .int 0, .int 0, .ref a_open, .int 0, .ref a_stack, .int 0, .ref a_word, .ref a_said, .int (-1), .int 0, .int (-1), .ref a_planned, .ref a_cameOf, .ref a_wasSaid, .int 0, .ref a_kept, .ref a_rowNow, .ref a_rowBest, .ref a_hasBy, .ref a_isFit, .ref a_cameThen, .long 0, .ref a_images, .ref a_imageForce, .ref a_imageX, .ref a_isMade])), (a_said, .inl (cy 0, 115, .inl (fun _ => 0)))] (fun r => r = (-1)) := by
  refine KP.of (by decide) (Nat.le_of_ble_eq_true rfl) (fun p e s m below meth c ls F hE hP hl => ?_)
  have F : kF p s m meth c cX12_gusts 10 (some .int) _ RX12 := F
  obtain ⟨hx, hb, hr, hml, hown, hG, hlk⟩ := id F
  have hl : lv_has ls 10 [(0, .ref m0), (1, .int x0), (2, .int x1), (3, .int x2), (4, .int x3)] := hl
  refine lv_aload_n hx hb dX12_gusts_0 rfl (lv_at hl 0 rfl) ?_
  refine kcV (As := []) (rest := []) F hE hP hl.1 (c_isGreen l D cy (m0 := m0) (a_tape := a_tape) (a_sign := a_sign) (a_length := a_length) (a_clause := a_clause) (a_clauses := a_clauses) (a_read := a_read) (a_open := a_open) (a_stack := a_stack) (a_word := a_word) (a_said := a_said) (a_planned := a_planned) (a_cameOf := a_cameOf) (a_wasSaid := a_wasSaid) (a_kept := a_kept) (a_rowNow := a_rowNow) (a_rowBest := a_rowBest) (a_hasBy := a_hasBy) (a_isFit := a_isFit) (a_cameThen := a_cameThen) (a_images := a_images) (a_imageForce := a_imageForce) (a_imageX := a_imageX) (a_isMade := a_isMade)) q_m_X12_294 mv_X12_isGreen ⟨(Nat.le_of_ble_eq_true rfl), (Nat.le_of_ble_eq_true rfl)⟩ [0, 1] rfl rfl rfl rfl rfl rfl (Nat.le_of_ble_eq_true rfl) ⟨(Nat.le_of_ble_eq_true rfl), (Nat.le_of_ble_eq_true rfl)⟩ dX12_gusts_1 (fun r_1 er_1 => ?_)
  subst er_1
  refine lv_if_eq (tgt := 54) hx hb dX12_gusts_4 (by decide) (fun _ => ?_) (fun q => absurd q (by decide))
  refine lv_iconst (v := (-1)) hx hb dX12_gusts_54 (by decide) ?_
  exact KP.rt F rfl rfl dX12_gusts_55

set_option maxHeartbeats 4000000 in
set_option maxRecDepth 100000 in
theorem m_undo (l : Launch) (D : va_G) (cy : Nat → ClassId) (m0 a_tape a_sign a_length a_clause a_clauses a_read a_open a_stack a_word a_said a_planned a_cameOf a_wasSaid a_kept a_rowNow a_rowBest a_hasBy a_isFit a_cameThen a_images a_imageForce a_imageX a_isMade : Nat) : KP l yX12_undo cX12_undo 2 (some .int) 0 0 D (kTY cy) [.ref m0] [(m0, .inr (12, [.ref a_tape, .int 0, .int 0, .ref a_sign, .ref a_length, .ref a_clause, .ref a_clauses, .ref a_read, .int 0, .int 0, .int 0, .int 0, .int 0, .int 0, .int 0, .ref a_open, .int 0, .ref a_stack, .int 0, .ref a_word, .ref a_said, .int (-1), .int 0, .int (-1), .ref a_planned, .ref a_cameOf, .ref a_wasSaid, .int 0, .ref a_kept, .ref a_rowNow, .ref a_rowBest, .ref a_hasBy, .ref a_isFit, .ref a_cameThen, .long 0, .ref a_images, .ref a_imageForce, .ref a_imageX, .ref a_isMade]))] (fun r => r = -1) := by
  refine KP.of (by decide) (Nat.le_of_ble_eq_true rfl) (fun p e s m below meth c ls F hE hP hl => ?_)
  have F : kF p s m meth c cX12_undo 2 (some .int) _ RX12 := F
  obtain ⟨hx, hb, hr, hml, hown, hG, hlk⟩ := id F
  have hl : lv_has ls 2 [(0, .ref m0)] := hl
  refine lv_aload_n hx hb dX12_undo_0 rfl (lv_at hl 0 rfl) ?_
  refine va_get (D := D) (ci := 12) (v := .int 0) (C := RX12) (T := TX12) (N := 39) hx hb hG inG_X12 hown hE.1 hP 0 rfl rfl 27 (by decide) (hG _ q_f_X12_276) (fun _ h9 => h9) rfl dX12_undo_1 ?_
  refine lv_if_ne (tgt := 9) hx hb dX12_undo_4 (by decide) (fun q => absurd q (by decide)) (fun _ => ?_)
  refine lv_iconst (v := (-1)) hx hb dX12_undo_7 (by decide) ?_
  exact KP.rt F rfl (rfl) dX12_undo_8

set_option maxHeartbeats 4000000 in
set_option maxRecDepth 100000 in
theorem m_count (l : Launch) (D : va_G) (cy : Nat → ClassId) (m0 a_tape a_sign a_length a_clause a_clauses a_read a_open a_stack a_word a_said a_planned a_cameOf a_wasSaid a_kept a_rowNow a_rowBest a_hasBy a_isFit a_cameThen a_images a_imageForce a_imageX a_isMade : Nat) (x0 : Int32) : KP l yX12_count cX12_count 2 (some .int) 2 40 D (kTY cy) [.ref m0, .int x0] [(m0, .inr (12, [.ref a_tape, .int 0, .int 0, .ref a_sign, .ref a_length, .ref a_clause, .ref a_clauses, .ref a_read, .int 0, .int 0, .int 0, .int 0, .int 0, .int 0, .int 0, .ref a_open, .int 0, .ref a_stack, .int 0, .ref a_word, .ref a_said, .int (-1), .int 0, .int (-1), .ref a_planned, .ref a_cameOf, .ref a_wasSaid, .int 0, .ref a_kept, .ref a_rowNow, .ref a_rowBest, .ref a_hasBy, .ref a_isFit, .ref a_cameThen, .long 0, .ref a_images, .ref a_imageForce, .ref a_imageX, .ref a_isMade])), (a_said, .inl (cy 0, 115, .inl (fun _ => 0)))] (fun r => r = k_cnt x0) := by
  refine KP.of (by decide) (Nat.le_of_ble_eq_true rfl) (fun p e s m below meth c ls F hE hP hl => ?_)
  have F : kF p s m meth c cX12_count 2 (some .int) _ RX12 := F
  obtain ⟨hx, hb, hr, hml, hown, hG, hlk⟩ := id F
  have hl : lv_has ls 2 [(0, .ref m0), (1, .int x0)] := hl
  refine lv_iload_n hx hb dX12_count_0 rfl (lv_at hl 1 rfl) ?_
  by_cases c_1 : x0 = 0
  · subst c_1
    refine lv_tableIn (off := 79) (tgt := 80) hx hb dX12_count_1 (by decide) (by decide) rfl (by decide) ?_
    refine lv_aload_n hx hb dX12_count_80 rfl (lv_at hl 0 rfl) ?_
    refine va_get (D := D) (ci := 12) (v := .ref a_said) (C := RX12) (T := TX12) (N := 39) hx hb hG inG_X12 hown hE.1 hP 0 rfl rfl 20 (by decide) (hG _ q_f_X12_39) (fun _ h9 => h9) rfl dX12_count_81 ?_
    refine lv_iload_n hx hb dX12_count_84 rfl (lv_at hl 1 rfl) ?_
    refine lv_iconst (v := 1) hx hb dX12_count_85 (by decide) ?_
    refine lv_iadd hx hb dX12_count_86 ?_
    refine k_top (z := 1) (by decide) ?_
    refine va_iald hx hb hE.1 hP 1 0 rfl rfl (by unfold vp_in; decide) dX12_count_87 ?_
    refine k_top (z := 0) rfl ?_
    exact KP.rt F rfl (by decide) dX12_count_88
  by_cases c_2 : x0 = 1
  · subst c_2
    refine lv_tableIn (off := 79) (tgt := 80) hx hb dX12_count_1 (by decide) (by decide) rfl (by decide) ?_
    refine lv_aload_n hx hb dX12_count_80 rfl (lv_at hl 0 rfl) ?_
    refine va_get (D := D) (ci := 12) (v := .ref a_said) (C := RX12) (T := TX12) (N := 39) hx hb hG inG_X12 hown hE.1 hP 0 rfl rfl 20 (by decide) (hG _ q_f_X12_39) (fun _ h9 => h9) rfl dX12_count_81 ?_
    refine lv_iload_n hx hb dX12_count_84 rfl (lv_at hl 1 rfl) ?_
    refine lv_iconst (v := 1) hx hb dX12_count_85 (by decide) ?_
    refine lv_iadd hx hb dX12_count_86 ?_
    refine k_top (z := 2) (by decide) ?_
    refine va_iald hx hb hE.1 hP 1 0 rfl rfl (by unfold vp_in; decide) dX12_count_87 ?_
    refine k_top (z := 0) rfl ?_
    exact KP.rt F rfl (by decide) dX12_count_88
  by_cases c_3 : x0 = 2
  · subst c_3
    refine lv_tableIn (off := 88) (tgt := 89) hx hb dX12_count_1 (by decide) (by decide) rfl (by decide) ?_
    refine lv_aload_n hx hb dX12_count_89 rfl (lv_at hl 0 rfl) ?_
    refine kcV (As := []) (rest := []) F hE hP hl.1 (c_comingRound l D cy (m0 := m0) (a_tape := a_tape) (a_sign := a_sign) (a_length := a_length) (a_clause := a_clause) (a_clauses := a_clauses) (a_read := a_read) (a_open := a_open) (a_stack := a_stack) (a_word := a_word) (a_said := a_said) (a_planned := a_planned) (a_cameOf := a_cameOf) (a_wasSaid := a_wasSaid) (a_kept := a_kept) (a_rowNow := a_rowNow) (a_rowBest := a_rowBest) (a_hasBy := a_hasBy) (a_isFit := a_isFit) (a_cameThen := a_cameThen) (a_images := a_images) (a_imageForce := a_imageForce) (a_imageX := a_imageX) (a_isMade := a_isMade)) q_m_X12_323 mv_X12_comingRound ⟨(Nat.le_of_ble_eq_true rfl), (Nat.le_of_ble_eq_true rfl)⟩ [0, 1] rfl rfl rfl rfl rfl rfl (Nat.le_of_ble_eq_true rfl) ⟨(Nat.le_of_ble_eq_true rfl), (Nat.le_of_ble_eq_true rfl)⟩ dX12_count_90 (fun r_4 er_4 => ?_)
    subst er_4
    exact KP.rt F rfl (by decide) dX12_count_93
  by_cases c_5 : x0 = 3
  · subst c_5
    refine lv_tableIn (off := 93) (tgt := 94) hx hb dX12_count_1 (by decide) (by decide) rfl (by decide) ?_
    refine lv_aload_n hx hb dX12_count_94 rfl (lv_at hl 0 rfl) ?_
    refine va_get (D := D) (ci := 12) (v := .ref a_said) (C := RX12) (T := TX12) (N := 39) hx hb hG inG_X12 hown hE.1 hP 0 rfl rfl 20 (by decide) (hG _ q_f_X12_39) (fun _ h9 => h9) rfl dX12_count_95 ?_
    refine lv_iload_n hx hb dX12_count_98 rfl (lv_at hl 1 rfl) ?_
    refine lv_iconst (v := 1) hx hb dX12_count_99 (by decide) ?_
    refine lv_iadd hx hb dX12_count_100 ?_
    refine k_top (z := 4) (by decide) ?_
    refine va_iald hx hb hE.1 hP 1 0 rfl rfl (by unfold vp_in; decide) dX12_count_101 ?_
    refine k_top (z := 0) rfl ?_
    exact KP.rt F rfl (by decide) dX12_count_102
  by_cases c_6 : x0 = 4
  · subst c_6
    refine lv_tableIn (off := 93) (tgt := 94) hx hb dX12_count_1 (by decide) (by decide) rfl (by decide) ?_
    refine lv_aload_n hx hb dX12_count_94 rfl (lv_at hl 0 rfl) ?_
    refine va_get (D := D) (ci := 12) (v := .ref a_said) (C := RX12) (T := TX12) (N := 39) hx hb hG inG_X12 hown hE.1 hP 0 rfl rfl 20 (by decide) (hG _ q_f_X12_39) (fun _ h9 => h9) rfl dX12_count_95 ?_
    refine lv_iload_n hx hb dX12_count_98 rfl (lv_at hl 1 rfl) ?_
    refine lv_iconst (v := 1) hx hb dX12_count_99 (by decide) ?_
    refine lv_iadd hx hb dX12_count_100 ?_
    refine k_top (z := 5) (by decide) ?_
    refine va_iald hx hb hE.1 hP 1 0 rfl rfl (by unfold vp_in; decide) dX12_count_101 ?_
    refine k_top (z := 0) rfl ?_
    exact KP.rt F rfl (by decide) dX12_count_102
  by_cases c_7 : x0 = 5
  · subst c_7
    refine lv_tableIn (off := 102) (tgt := 103) hx hb dX12_count_1 (by decide) (by decide) rfl (by decide) ?_
    refine lv_aload_n hx hb dX12_count_103 rfl (lv_at hl 0 rfl) ?_
    refine va_get (D := D) (ci := 12) (v := .int 0) (C := RX12) (T := TX12) (N := 39) hx hb hG inG_X12 hown hE.1 hP 0 rfl rfl 2 (by decide) (hG _ q_f_X12_267) (fun _ h9 => h9) rfl dX12_count_104 ?_
    exact KP.rt F rfl (by decide) dX12_count_107
  by_cases c_8 : x0 = 6
  · subst c_8
    refine lv_tableIn (off := 107) (tgt := 108) hx hb dX12_count_1 (by decide) (by decide) rfl (by decide) ?_
    refine lv_aload_n hx hb dX12_count_108 rfl (lv_at hl 0 rfl) ?_
    refine va_get (D := D) (ci := 12) (v := .int (-1)) (C := RX12) (T := TX12) (N := 39) hx hb hG inG_X12 hown hE.1 hP 0 rfl rfl 21 (by decide) (hG _ q_f_X12_42) (fun _ h9 => h9) rfl dX12_count_109 ?_
    exact KP.rt F rfl (by decide) dX12_count_112
  by_cases c_9 : x0 = 7
  · subst c_9
    refine lv_tableIn (off := 112) (tgt := 113) hx hb dX12_count_1 (by decide) (by decide) rfl (by decide) ?_
    refine lv_aload_n hx hb dX12_count_113 rfl (lv_at hl 0 rfl) ?_
    refine va_get (D := D) (ci := 12) (v := .ref a_said) (C := RX12) (T := TX12) (N := 39) hx hb hG inG_X12 hown hE.1 hP 0 rfl rfl 20 (by decide) (hG _ q_f_X12_39) (fun _ h9 => h9) rfl dX12_count_114 ?_
    refine lv_bipush (v := 10) hx hb dX12_count_117 (by decide) ?_
    refine va_iald hx hb hE.1 hP 1 0 rfl rfl (by unfold vp_in; decide) dX12_count_119 ?_
    refine k_top (z := 0) rfl ?_
    exact KP.rt F rfl (by decide) dX12_count_120
  by_cases c_10 : x0 = 8
  · subst c_10
    refine lv_tableIn (off := 120) (tgt := 121) hx hb dX12_count_1 (by decide) (by decide) rfl (by decide) ?_
    refine lv_aload_n hx hb dX12_count_121 rfl (lv_at hl 0 rfl) ?_
    refine va_get (D := D) (ci := 12) (v := .ref a_said) (C := RX12) (T := TX12) (N := 39) hx hb hG inG_X12 hown hE.1 hP 0 rfl rfl 20 (by decide) (hG _ q_f_X12_39) (fun _ h9 => h9) rfl dX12_count_122 ?_
    refine lv_bipush (v := 11) hx hb dX12_count_125 (by decide) ?_
    refine va_iald hx hb hE.1 hP 1 0 rfl rfl (by unfold vp_in; decide) dX12_count_127 ?_
    refine k_top (z := 0) rfl ?_
    exact KP.rt F rfl (by decide) dX12_count_128
  by_cases c_11 : x0 = 9
  · subst c_11
    refine lv_tableIn (off := 128) (tgt := 129) hx hb dX12_count_1 (by decide) (by decide) rfl (by decide) ?_
    refine lv_aload_n hx hb dX12_count_129 rfl (lv_at hl 0 rfl) ?_
    refine lv_iconst (v := 1) hx hb dX12_count_130 (by decide) ?_
    refine kcV (As := [.int 1]) (rest := []) F hE hP hl.1 (c_sumOver l D cy (m0 := m0) (x0 := 1) (a_tape := a_tape) (a_sign := a_sign) (a_length := a_length) (a_clause := a_clause) (a_clauses := a_clauses) (a_read := a_read) (a_open := a_open) (a_stack := a_stack) (a_word := a_word) (a_said := a_said) (a_planned := a_planned) (a_cameOf := a_cameOf) (a_wasSaid := a_wasSaid) (a_kept := a_kept) (a_rowNow := a_rowNow) (a_rowBest := a_rowBest) (a_hasBy := a_hasBy) (a_isFit := a_isFit) (a_cameThen := a_cameThen) (a_images := a_images) (a_imageForce := a_imageForce) (a_imageX := a_imageX) (a_isMade := a_isMade)) q_m_X12_381 mv_X12_sumOver ⟨(Nat.le_of_ble_eq_true rfl), (Nat.le_of_ble_eq_true rfl)⟩ [0, 1] rfl rfl rfl rfl rfl rfl (Nat.le_of_ble_eq_true rfl) ⟨(Nat.le_of_ble_eq_true rfl), (Nat.le_of_ble_eq_true rfl)⟩ dX12_count_131 (fun r_12 er_12 => ?_)
    subst er_12
    exact KP.rt F rfl (by decide) dX12_count_134
  by_cases c_13 : x0 = 10
  · subst c_13
    refine lv_tableIn (off := 134) (tgt := 135) hx hb dX12_count_1 (by decide) (by decide) rfl (by decide) ?_
    refine lv_aload_n hx hb dX12_count_135 rfl (lv_at hl 0 rfl) ?_
    refine lv_iconst (v := 2) hx hb dX12_count_136 (by decide) ?_
    refine kcV (As := [.int 2]) (rest := []) F hE hP hl.1 (c_sumOver l D cy (m0 := m0) (x0 := 2) (a_tape := a_tape) (a_sign := a_sign) (a_length := a_length) (a_clause := a_clause) (a_clauses := a_clauses) (a_read := a_read) (a_open := a_open) (a_stack := a_stack) (a_word := a_word) (a_said := a_said) (a_planned := a_planned) (a_cameOf := a_cameOf) (a_wasSaid := a_wasSaid) (a_kept := a_kept) (a_rowNow := a_rowNow) (a_rowBest := a_rowBest) (a_hasBy := a_hasBy) (a_isFit := a_isFit) (a_cameThen := a_cameThen) (a_images := a_images) (a_imageForce := a_imageForce) (a_imageX := a_imageX) (a_isMade := a_isMade)) q_m_X12_381 mv_X12_sumOver ⟨(Nat.le_of_ble_eq_true rfl), (Nat.le_of_ble_eq_true rfl)⟩ [0, 1] rfl rfl rfl rfl rfl rfl (Nat.le_of_ble_eq_true rfl) ⟨(Nat.le_of_ble_eq_true rfl), (Nat.le_of_ble_eq_true rfl)⟩ dX12_count_137 (fun r_14 er_14 => ?_)
    subst er_14
    exact KP.rt F rfl (by decide) dX12_count_140
  by_cases c_15 : x0 = 11
  · subst c_15
    refine lv_tableIn (off := 140) (tgt := 141) hx hb dX12_count_1 (by decide) (by decide) rfl (by decide) ?_
    refine lv_aload_n hx hb dX12_count_141 rfl (lv_at hl 0 rfl) ?_
    refine va_get (D := D) (ci := 12) (v := .ref a_said) (C := RX12) (T := TX12) (N := 39) hx hb hG inG_X12 hown hE.1 hP 0 rfl rfl 20 (by decide) (hG _ q_f_X12_39) (fun _ h9 => h9) rfl dX12_count_142 ?_
    refine lv_bipush (v := 12) hx hb dX12_count_145 (by decide) ?_
    refine va_iald hx hb hE.1 hP 1 0 rfl rfl (by unfold vp_in; decide) dX12_count_147 ?_
    refine k_top (z := 0) rfl ?_
    exact KP.rt F rfl (by decide) dX12_count_148
  by_cases c_16 : x0 = 12
  · subst c_16
    refine lv_tableIn (off := 148) (tgt := 149) hx hb dX12_count_1 (by decide) (by decide) rfl (by decide) ?_
    refine lv_aload_n hx hb dX12_count_149 rfl (lv_at hl 0 rfl) ?_
    refine va_get (D := D) (ci := 12) (v := .ref a_said) (C := RX12) (T := TX12) (N := 39) hx hb hG inG_X12 hown hE.1 hP 0 rfl rfl 20 (by decide) (hG _ q_f_X12_39) (fun _ h9 => h9) rfl dX12_count_150 ?_
    refine lv_bipush (v := 114) hx hb dX12_count_153 (by decide) ?_
    refine va_iald hx hb hE.1 hP 1 0 rfl rfl (by unfold vp_in; decide) dX12_count_155 ?_
    refine k_top (z := 0) rfl ?_
    exact KP.rt F rfl (by decide) dX12_count_156
  by_cases c_17 : x0 = 13
  · subst c_17
    refine lv_tableIn (off := 156) (tgt := 157) hx hb dX12_count_1 (by decide) (by decide) rfl (by decide) ?_
    refine lv_aload_n hx hb dX12_count_157 rfl (lv_at hl 0 rfl) ?_
    refine va_get (D := D) (ci := 12) (v := .int 0) (C := RX12) (T := TX12) (N := 39) hx hb hG inG_X12 hown hE.1 hP 0 rfl rfl 27 (by decide) (hG _ q_f_X12_276) (fun _ h9 => h9) rfl dX12_count_158 ?_
    exact KP.rt F rfl (by decide) dX12_count_161
  by_cases c_18 : x0 = 14
  · subst c_18
    refine lv_tableIn (off := 161) (tgt := 162) hx hb dX12_count_1 (by decide) (by decide) rfl (by decide) ?_
    refine lv_aload_n hx hb dX12_count_162 rfl (lv_at hl 0 rfl) ?_
    refine va_get (D := D) (ci := 12) (v := .int 0) (C := RX12) (T := TX12) (N := 39) hx hb hG inG_X12 hown hE.1 hP 0 rfl rfl 22 (by decide) (hG _ q_f_X12_442) (fun _ h9 => h9) rfl dX12_count_163 ?_
    exact KP.rt F rfl (by decide) dX12_count_166
  by_cases c_19 : x0 = 15
  · subst c_19
    refine lv_tableIn (off := 166) (tgt := 167) hx hb dX12_count_1 (by decide) (by decide) rfl (by decide) ?_
    refine lv_aload_n hx hb dX12_count_167 rfl (lv_at hl 0 rfl) ?_
    refine va_get (D := D) (ci := 12) (v := .int 0) (C := RX12) (T := TX12) (N := 39) hx hb hG inG_X12 hown hE.1 hP 0 rfl rfl 1 (by decide) (hG _ q_f_X12_89) (fun _ h9 => h9) rfl dX12_count_168 ?_
    exact KP.rt F rfl (by decide) dX12_count_171
  have nc_1 := lv_neT (a := 0) c_1 rfl
  have nc_2 := lv_neT (a := 1) c_2 rfl
  have nc_3 := lv_neT (a := 2) c_3 rfl
  have nc_5 := lv_neT (a := 3) c_5 rfl
  have nc_6 := lv_neT (a := 4) c_6 rfl
  have nc_7 := lv_neT (a := 5) c_7 rfl
  have nc_8 := lv_neT (a := 6) c_8 rfl
  have nc_9 := lv_neT (a := 7) c_9 rfl
  have nc_10 := lv_neT (a := 8) c_10 rfl
  have nc_11 := lv_neT (a := 9) c_11 rfl
  have nc_13 := lv_neT (a := 10) c_13 rfl
  have nc_15 := lv_neT (a := 11) c_15 rfl
  have nc_16 := lv_neT (a := 12) c_16 rfl
  have nc_17 := lv_neT (a := 13) c_17 rfl
  have nc_18 := lv_neT (a := 14) c_18 rfl
  have nc_19 := lv_neT (a := 15) c_19 rfl
  refine lv_tableOut (tgt := 172) hx hb dX12_count_1 (by omega) (by decide) ?_
  refine lv_iconst (v := (-1)) hx hb dX12_count_172 (by decide) ?_
  exact KP.rt F rfl (by simp [k_cnt, *]) dX12_count_173
