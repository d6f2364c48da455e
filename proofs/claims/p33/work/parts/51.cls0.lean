set_option maxHeartbeats 4000000 in
set_option maxRecDepth 100000 in
theorem cc_within (l : Launch) (D : va_G) (cy : Nat → ClassId) (x0 : Int32) (x1 : Int32) (x2 : Int32)  : KP l yX11_within cX11_within 3 (some .boolean) 0 0 D (kTY cy) [.int x0, .int x1, .int x2] [] (fun r => (r.toInt = 0 ∨ r.toInt = 1) ∧ ((r.toInt ≠ 0 → x1.toInt ≤ x0.toInt ∧ x0.toInt ≤ x2.toInt)) ∧ ((r.toInt = 0 → x0.toInt < x1.toInt ∨ x2.toInt < x0.toInt))) := by
  refine KP.of (by decide) (Nat.le_of_ble_eq_true rfl) (fun p e s m below meth c ls F hE hP hl => ?_)
  have F : kF p s m meth c cX11_within 3 (some .boolean) _ RX11 := F
  obtain ⟨hx, hb, hr, hml, hown, hG, hlk⟩ := id F
  have hl : lv_has ls 3 [(0, .int x0), (1, .int x1), (2, .int x2)] := hl
  refine lv_iload_n hx hb dX11_within_0 rfl (lv_at hl 0 rfl) ?_
  refine lv_iload_n hx hb dX11_within_1 rfl (lv_at hl 1 rfl) ?_
  refine lv_icmp_lt (tgt := 14) hx hb dX11_within_2 (by decide) (fun c_1 => ?_) (fun c_1 => ?_)
  · have ic_1 : x0.toInt < x1.toInt := k_lt c_1 rfl rfl
    refine lv_iconst (v := 0) hx hb dX11_within_14 (by decide) ?_
    have lit0 : (0 : Int32).toInt = 0 := by decide
    exact KP.rt F rfl (show ((0 : Int32).toInt = 0 ∨ (0 : Int32).toInt = 1) ∧ (((0 : Int32).toInt ≠ 0 → x1.toInt ≤ x0.toInt ∧ x0.toInt ≤ x2.toInt)) ∧ (((0 : Int32).toInt = 0 → x0.toInt < x1.toInt ∨ x2.toInt < x0.toInt)) from ⟨(by first | omega | assumption), (by first | omega | (intro lq; refine ⟨?_, ?_⟩ <;> (first | omega | assumption | rfl | (exfalso; omega)))), (by first | omega | (intro lq; (first | omega | assumption | rfl | (exfalso; omega))))⟩) dX11_within_15
  · have ic_1 : x1.toInt ≤ x0.toInt := k_nlt c_1 rfl rfl
    refine lv_iload_n hx hb dX11_within_5 rfl (lv_at hl 0 rfl) ?_
    refine lv_iload_n hx hb dX11_within_6 rfl (lv_at hl 2 rfl) ?_
    refine lv_icmp_gt (tgt := 14) hx hb dX11_within_7 (by decide) (fun c_2 => ?_) (fun c_2 => ?_)
    · have ic_2 : x2.toInt < x0.toInt := k_lt c_2 rfl rfl
      refine lv_iconst (v := 0) hx hb dX11_within_14 (by decide) ?_
      have lit0 : (0 : Int32).toInt = 0 := by decide
      exact KP.rt F rfl (show ((0 : Int32).toInt = 0 ∨ (0 : Int32).toInt = 1) ∧ (((0 : Int32).toInt ≠ 0 → x1.toInt ≤ x0.toInt ∧ x0.toInt ≤ x2.toInt)) ∧ (((0 : Int32).toInt = 0 → x0.toInt < x1.toInt ∨ x2.toInt < x0.toInt)) from ⟨(by first | omega | assumption), (by first | omega | (intro lq; refine ⟨?_, ?_⟩ <;> (first | omega | assumption | rfl | (exfalso; omega)))), (by first | omega | (intro lq; (first | omega | assumption | rfl | (exfalso; omega))))⟩) dX11_within_15
    · have ic_2 : x0.toInt ≤ x2.toInt := k_nlt c_2 rfl rfl
      refine lv_iconst (v := 1) hx hb dX11_within_10 (by decide) ?_
      refine lv_goto (tgt := 15) hx hb dX11_within_11 (by decide) ?_
      have lit0 : (1 : Int32).toInt = 1 := by decide
      exact KP.rt F rfl (show ((1 : Int32).toInt = 0 ∨ (1 : Int32).toInt = 1) ∧ (((1 : Int32).toInt ≠ 0 → x1.toInt ≤ x0.toInt ∧ x0.toInt ≤ x2.toInt)) ∧ (((1 : Int32).toInt = 0 → x0.toInt < x1.toInt ∨ x2.toInt < x0.toInt)) from ⟨(by first | omega | assumption), (by first | omega | (intro lq; refine ⟨?_, ?_⟩ <;> (first | omega | assumption | rfl | (exfalso; omega)))), (by first | omega | (intro lq; (first | omega | assumption | rfl | (exfalso; omega))))⟩) dX11_within_15

set_option maxHeartbeats 4000000 in
set_option maxRecDepth 100000 in
theorem cc_placeOrHedge (l : Launch) (D : va_G) (cy : Nat → ClassId) (x0 : Int32)  : KP l yX11_placeOrHedge cX11_placeOrHedge 1 (some .int) 0 0 D (kTY cy) [.int x0] [] (fun r => True) := by
  refine KP.of (by decide) (Nat.le_of_ble_eq_true rfl) (fun p e s m below meth c ls F hE hP hl => ?_)
  have F : kF p s m meth c cX11_placeOrHedge 1 (some .int) _ RX11 := F
  obtain ⟨hx, hb, hr, hml, hown, hG, hlk⟩ := id F
  have hl : lv_has ls 1 [(0, .int x0)] := hl
  refine lv_iload_n hx hb dX11_placeOrHedge_0 rfl (lv_at hl 0 rfl) ?_
  refine lv_iconst (v := (-1)) hx hb dX11_placeOrHedge_1 (by decide) ?_
  refine lv_icmp_ne (tgt := 10) hx hb dX11_placeOrHedge_2 (by decide) (fun c_1 => ?_) (fun c_1 => ?_)
  · have ic_1 : x0.toInt ≠ (-1) := k_ne c_1 rfl (by decide)
    refine lv_iload_n hx hb dX11_placeOrHedge_10 rfl (lv_at hl 0 rfl) ?_
    exact KP.rt F rfl trivial dX11_placeOrHedge_11
  · have ic_1 : x0.toInt = (-1) := k_eq c_1 rfl (by decide)
    refine lv_bipush (v := (-2)) hx hb dX11_placeOrHedge_5 (by decide) ?_
    refine lv_goto (tgt := 11) hx hb dX11_placeOrHedge_7 (by decide) ?_
    have lit0 : ((-2) : Int32).toInt = (-2) := by decide
    exact KP.rt F rfl trivial dX11_placeOrHedge_11

set_option maxHeartbeats 4000000 in
set_option maxRecDepth 100000 in
theorem cc_X1_isTold (l : Launch) (D : va_G) (cy : Nat → ClassId) (o : Nat) (o_c : Nat) (g_o : Nat → Int32) (h_g_o : FV g_o) : KP l yX1_isTold cX1_isTold 1 (some .boolean) 0 0 D (kTY cy) [.ref o] [(o, .inr (1, [.ref o_c])), (o_c, .inl (cy 0, 63, .inl g_o))] (fun r => (r.toInt = 0 ∨ r.toInt = 1)) := by
  refine KP.of (by decide) (Nat.le_of_ble_eq_true rfl) (fun p e s m below meth c ls F hE hP hl => ?_)
  have F : kF p s m meth c cX1_isTold 1 (some .boolean) _ RX1 := F
  obtain ⟨hx, hb, hr, hml, hown, hG, hlk⟩ := id F
  have hl : lv_has ls 1 [(0, .ref o)] := hl
  obtain ⟨⟨b_1a, b_1b⟩, ⟨b_1c, b_1d⟩, ⟨b_1e, b_1f⟩⟩ := FV.bounds h_g_o
  refine lv_aload_n hx hb dX1_isTold_0 rfl (lv_at hl 0 rfl) ?_
  refine va_get (D := D) (ci := 1) (v := .ref o_c) (C := RX1) (T := TX1) (N := 1) hx hb hG inG_X1 hown hE.1 hP 0 rfl rfl 0 (by decide) (hG _ q_f_X1_11) (fun _ h9 => h9) rfl dX1_isTold_1 ?_
  refine lv_iconst (v := 0) hx hb dX1_isTold_4 (by decide) ?_
  refine va_iald hx hb hE.1 hP 1 0 rfl rfl (by unfold vp_in; decide) dX1_isTold_5 ?_
  refine k_top (z := (g_o 0)) rfl ?_
  refine lv_if_le (tgt := 13) hx hb dX1_isTold_6 (by decide) (fun c_2 => ?_) (fun c_2 => ?_)
  · have ic_2 : (g_o 0).toInt ≤ 0 := k_le c_2 rfl (by decide)
    refine lv_iconst (v := 0) hx hb dX1_isTold_13 (by decide) ?_
    have lit0 : (0 : Int32).toInt = 0 := by decide
    exact KP.rt F rfl (show ((0 : Int32).toInt = 0 ∨ (0 : Int32).toInt = 1) from (by first | omega | assumption)) dX1_isTold_14
  · have ic_2 : 0 < (g_o 0).toInt := k_nle c_2 rfl (by decide)
    refine lv_iconst (v := 1) hx hb dX1_isTold_9 (by decide) ?_
    refine lv_goto (tgt := 14) hx hb dX1_isTold_10 (by decide) ?_
    have lit0 : (1 : Int32).toInt = 1 := by decide
    exact KP.rt F rfl (show ((1 : Int32).toInt = 0 ∨ (1 : Int32).toInt = 1) from (by first | omega | assumption)) dX1_isTold_14

set_option maxHeartbeats 4000000 in
set_option maxRecDepth 100000 in
theorem cc_X1_hasRing (l : Launch) (D : va_G) (cy : Nat → ClassId) (o : Nat) (o_c : Nat) (g_o : Nat → Int32) (x0 : Int32) (h_g_o : FV g_o) : KP l yX1_hasRing cX1_hasRing 2 (some .boolean) 1 22 D (kTY cy) [.ref o, .int x0] [(o, .inr (1, [.ref o_c])), (o_c, .inl (cy 0, 63, .inl g_o))] (fun r => (r.toInt = 0 ∨ r.toInt = 1) ∧ ((r.toInt ≠ 0 → 0 ≤ x0.toInt ∧ x0.toInt < (g_o 3).toInt))) := by
  refine KP.of (by decide) (Nat.le_of_ble_eq_true rfl) (fun p e s m below meth c ls F hE hP hl => ?_)
  have F : kF p s m meth c cX1_hasRing 2 (some .boolean) _ RX1 := F
  obtain ⟨hx, hb, hr, hml, hown, hG, hlk⟩ := id F
  have hl : lv_has ls 2 [(0, .ref o), (1, .int x0)] := hl
  obtain ⟨⟨b_1a, b_1b⟩, ⟨b_1c, b_1d⟩, ⟨b_1e, b_1f⟩⟩ := FV.bounds h_g_o
  refine lv_iload_n hx hb dX1_hasRing_0 rfl (lv_at hl 1 rfl) ?_
  refine lv_iconst (v := 0) hx hb dX1_hasRing_1 (by decide) ?_
  refine lv_aload_n hx hb dX1_hasRing_2 rfl (lv_at hl 0 rfl) ?_
  refine va_get (D := D) (ci := 1) (v := .ref o_c) (C := RX1) (T := TX1) (N := 1) hx hb hG inG_X1 hown hE.1 hP 0 rfl rfl 0 (by decide) (hG _ q_f_X1_11) (fun _ h9 => h9) rfl dX1_hasRing_3 ?_
  refine lv_iconst (v := 3) hx hb dX1_hasRing_6 (by decide) ?_
  refine va_iald hx hb hE.1 hP 1 0 rfl rfl (by unfold vp_in; decide) dX1_hasRing_7 ?_
  refine k_top (z := (g_o 3)) rfl ?_
  refine lv_iconst (v := 1) hx hb dX1_hasRing_8 (by decide) ?_
  refine lv_isub hx hb dX1_hasRing_9 ?_
  refine lv_topi (fun z_2 ez_2 => ?_)
  have iz_2 : z_2.toInt = (g_o 3).toInt - 1 := k_subI ez_2 rfl (by decide) (by omega)
  have lt32_2 : (0 : Int32).toInt = 0 := by decide
  refine kcSN (host := RX11) (As := [.int x0, .int 0, .int z_2]) (rest := []) F hE hP hl.1 (cc_within l D cy (x0 := x0) (x1 := 0) (x2 := z_2)) ms_X11_within (by decide +kernel) ⟨(Nat.le_of_ble_eq_true rfl), (Nat.le_of_ble_eq_true rfl)⟩ [] rfl rfl rfl (Nat.le_of_ble_eq_true rfl) ⟨(Nat.le_of_ble_eq_true rfl), (Nat.le_of_ble_eq_true rfl)⟩ dX1_hasRing_10 (fun r_4 er_4 => ?_)
  have er_4 : (r_4.toInt = 0 ∨ r_4.toInt = 1) ∧ ((r_4.toInt ≠ 0 → (0 : Int32).toInt ≤ x0.toInt ∧ x0.toInt ≤ z_2.toInt)) ∧ ((r_4.toInt = 0 → x0.toInt < (0 : Int32).toInt ∨ z_2.toInt < x0.toInt)) := er_4
  obtain ⟨er_4a, er_4b, er_4c⟩ := er_4
  exact KP.rt F (k_narZ (by omega)) (show (r_4.toInt = 0 ∨ r_4.toInt = 1) ∧ ((r_4.toInt ≠ 0 → 0 ≤ x0.toInt ∧ x0.toInt < (g_o 3).toInt)) from ⟨(by first | omega | assumption), (by first | omega | (intro lq; have lQ := er_4b lq; obtain ⟨lQ0, lQ1⟩ := lQ; refine ⟨?_, ?_⟩ <;> (first | omega | assumption | rfl | (exfalso; omega))))⟩) dX1_hasRing_13

set_option maxHeartbeats 4000000 in
set_option maxRecDepth 100000 in
theorem cc_X1_hasArcher (l : Launch) (D : va_G) (cy : Nat → ClassId) (o : Nat) (o_c : Nat) (g_o : Nat → Int32) (x0 : Int32) (h_g_o : FV g_o) : KP l yX1_hasArcher cX1_hasArcher 2 (some .boolean) 1 22 D (kTY cy) [.ref o, .int x0] [(o, .inr (1, [.ref o_c])), (o_c, .inl (cy 0, 63, .inl g_o))] (fun r => (r.toInt = 0 ∨ r.toInt = 1) ∧ ((r.toInt ≠ 0 → 0 ≤ x0.toInt ∧ x0.toInt < (g_o 4).toInt))) := by
  refine KP.of (by decide) (Nat.le_of_ble_eq_true rfl) (fun p e s m below meth c ls F hE hP hl => ?_)
  have F : kF p s m meth c cX1_hasArcher 2 (some .boolean) _ RX1 := F
  obtain ⟨hx, hb, hr, hml, hown, hG, hlk⟩ := id F
  have hl : lv_has ls 2 [(0, .ref o), (1, .int x0)] := hl
  obtain ⟨⟨b_1a, b_1b⟩, ⟨b_1c, b_1d⟩, ⟨b_1e, b_1f⟩⟩ := FV.bounds h_g_o
  refine lv_iload_n hx hb dX1_hasArcher_0 rfl (lv_at hl 1 rfl) ?_
  refine lv_iconst (v := 0) hx hb dX1_hasArcher_1 (by decide) ?_
  refine lv_aload_n hx hb dX1_hasArcher_2 rfl (lv_at hl 0 rfl) ?_
  refine va_get (D := D) (ci := 1) (v := .ref o_c) (C := RX1) (T := TX1) (N := 1) hx hb hG inG_X1 hown hE.1 hP 0 rfl rfl 0 (by decide) (hG _ q_f_X1_11) (fun _ h9 => h9) rfl dX1_hasArcher_3 ?_
  refine lv_iconst (v := 4) hx hb dX1_hasArcher_6 (by decide) ?_
  refine va_iald hx hb hE.1 hP 1 0 rfl rfl (by unfold vp_in; decide) dX1_hasArcher_7 ?_
  refine k_top (z := (g_o 4)) rfl ?_
  refine lv_iconst (v := 1) hx hb dX1_hasArcher_8 (by decide) ?_
  refine lv_isub hx hb dX1_hasArcher_9 ?_
  refine lv_topi (fun z_2 ez_2 => ?_)
  have iz_2 : z_2.toInt = (g_o 4).toInt - 1 := k_subI ez_2 rfl (by decide) (by omega)
  have lt32_2 : (0 : Int32).toInt = 0 := by decide
  refine kcSN (host := RX11) (As := [.int x0, .int 0, .int z_2]) (rest := []) F hE hP hl.1 (cc_within l D cy (x0 := x0) (x1 := 0) (x2 := z_2)) ms_X11_within (by decide +kernel) ⟨(Nat.le_of_ble_eq_true rfl), (Nat.le_of_ble_eq_true rfl)⟩ [] rfl rfl rfl (Nat.le_of_ble_eq_true rfl) ⟨(Nat.le_of_ble_eq_true rfl), (Nat.le_of_ble_eq_true rfl)⟩ dX1_hasArcher_10 (fun r_4 er_4 => ?_)
  have er_4 : (r_4.toInt = 0 ∨ r_4.toInt = 1) ∧ ((r_4.toInt ≠ 0 → (0 : Int32).toInt ≤ x0.toInt ∧ x0.toInt ≤ z_2.toInt)) ∧ ((r_4.toInt = 0 → x0.toInt < (0 : Int32).toInt ∨ z_2.toInt < x0.toInt)) := er_4
  obtain ⟨er_4a, er_4b, er_4c⟩ := er_4
  exact KP.rt F (k_narZ (by omega)) (show (r_4.toInt = 0 ∨ r_4.toInt = 1) ∧ ((r_4.toInt ≠ 0 → 0 ≤ x0.toInt ∧ x0.toInt < (g_o 4).toInt)) from ⟨(by first | omega | assumption), (by first | omega | (intro lq; have lQ := er_4b lq; obtain ⟨lQ0, lQ1⟩ := lQ; refine ⟨?_, ?_⟩ <;> (first | omega | assumption | rfl | (exfalso; omega))))⟩) dX1_hasArcher_13

set_option maxHeartbeats 4000000 in
set_option maxRecDepth 100000 in
theorem cc_X1_windOf (l : Launch) (D : va_G) (cy : Nat → ClassId) (o : Nat) (o_c : Nat) (g_o : Nat → Int32) (x0 : Int32) (h_g_o : FV g_o) : KP l yX1_windOf cX1_windOf 3 (some .int) 0 0 D (kTY cy) [.ref o, .int x0] [(o, .inr (1, [.ref o_c])), (o_c, .inl (cy 0, 63, .inl g_o))] (fun r => True) := by
  refine KP.of (by decide) (Nat.le_of_ble_eq_true rfl) (fun p e s m below meth c ls F hE hP hl => ?_)
  have F : kF p s m meth c cX1_windOf 3 (some .int) _ RX1 := F
  obtain ⟨hx, hb, hr, hml, hown, hG, hlk⟩ := id F
  have hl : lv_has ls 3 [(0, .ref o), (1, .int x0)] := hl
  obtain ⟨⟨b_1a, b_1b⟩, ⟨b_1c, b_1d⟩, ⟨b_1e, b_1f⟩⟩ := FV.bounds h_g_o
  refine lv_aload_n hx hb dX1_windOf_0 rfl (lv_at hl 0 rfl) ?_
  refine va_get (D := D) (ci := 1) (v := .ref o_c) (C := RX1) (T := TX1) (N := 1) hx hb hG inG_X1 hown hE.1 hP 0 rfl rfl 0 (by decide) (hG _ q_f_X1_11) (fun _ h9 => h9) rfl dX1_windOf_1 ?_
  refine lv_iconst (v := 2) hx hb dX1_windOf_4 (by decide) ?_
  refine va_iald hx hb hE.1 hP 1 0 rfl rfl (by unfold vp_in; decide) dX1_windOf_5 ?_
  refine k_top (z := (g_o 2)) rfl ?_
  refine lv_istore_n (lv' := [(2, .int (g_o 2)), (0, .ref o), (1, .int x0)]) hx hb dX1_windOf_6 rfl hl (by decide) rfl (fun ls hl => ?_)
  refine lv_iload_n hx hb dX1_windOf_7 rfl (lv_at hl 0 rfl) ?_
  refine lv_iconst (v := 1) hx hb dX1_windOf_8 (by decide) ?_
  refine lv_icmp_lt (tgt := 16) hx hb dX1_windOf_9 (by decide) (fun c_2 => ?_) (fun c_2 => ?_)
  · have ic_2 : (g_o 2).toInt < 1 := k_lt c_2 rfl (by decide)
    refine lv_iconst (v := 4) hx hb dX1_windOf_16 (by decide) ?_
    refine lv_goto (tgt := 31) hx hb dX1_windOf_17 (by decide) ?_
    have lit0 : (4 : Int32).toInt = 4 := by decide
    exact KP.rt F rfl trivial dX1_windOf_31
  · have ic_2 : 1 ≤ (g_o 2).toInt := k_nlt c_2 rfl (by decide)
    refine lv_iload_n hx hb dX1_windOf_12 rfl (lv_at hl 2 rfl) ?_
    refine lv_if_ge (tgt := 20) hx hb dX1_windOf_13 (by decide) (fun c_3 => ?_) (fun c_3 => ?_)
    · have ic_3 : 0 ≤ x0.toInt := k_le c_3 (by decide) rfl
      refine lv_aload_n hx hb dX1_windOf_20 rfl (lv_at hl 1 rfl) ?_
      refine va_get (D := D) (ci := 1) (v := .ref o_c) (C := RX1) (T := TX1) (N := 1) hx hb hG inG_X1 hown hE.1 hP 0 rfl rfl 0 (by decide) (hG _ q_f_X1_11) (fun _ h9 => h9) rfl dX1_windOf_21 ?_
      refine lv_bipush (v := 8) hx hb dX1_windOf_24 (by decide) ?_
      refine lv_iload_n hx hb dX1_windOf_26 rfl (lv_at hl 2 rfl) ?_
      refine lv_iload_n hx hb dX1_windOf_27 rfl (lv_at hl 0 rfl) ?_
      refine lv_irem hx hb dX1_windOf_28 (k_nz (by omega)) ?_
      refine lv_topi (fun z_4 ez_4 => ?_)
      have iz_4 := k_remI (b := (g_o 2).toInt) ez_4 rfl (by omega)
      obtain ⟨iz_4a, iz_4b, iz_4c⟩ := iz_4
      have iz_4d := k_remN ez_4 (by omega) (by omega)
      refine lv_iadd hx hb dX1_windOf_29 ?_
      refine lv_topi (fun z_5 ez_5 => ?_)
      have iz_5 : z_5.toInt = 8 + z_4.toInt := k_addI ez_5 (by decide) rfl (by omega)
      refine va_iald hx hb hE.1 hP 1 0 rfl rfl (k_in (by omega)) dX1_windOf_30 ?_
      refine k_top (z := (g_o (Int32.toNatClampNeg z_5))) rfl ?_
      exact KP.rt F rfl trivial dX1_windOf_31
    · have ic_3 : x0.toInt < 0 := k_nle c_3 (by decide) rfl
      refine lv_iconst (v := 4) hx hb dX1_windOf_16 (by decide) ?_
      refine lv_goto (tgt := 31) hx hb dX1_windOf_17 (by decide) ?_
      have lit0 : (4 : Int32).toInt = 4 := by decide
      exact KP.rt F rfl trivial dX1_windOf_31

set_option maxHeartbeats 4000000 in
set_option maxRecDepth 100000 in
theorem cc_X1_drift (l : Launch) (D : va_G) (cy : Nat → ClassId) (o : Nat) (o_c : Nat) (g_o : Nat → Int32) (x0 : Int32) (x1 : Int32) (h_g_o : FV g_o) (p0 : 0 ≤ x0.toInt) (p1 : x0.toInt ≤ 4) : KP l yX1_drift cX1_drift 4 (some .int) 0 0 D (kTY cy) [.ref o, .int x0, .int x1] [(o, .inr (1, [.ref o_c])), (o_c, .inl (cy 0, 63, .inl g_o))] (fun r => True) := by
  refine KP.of (by decide) (Nat.le_of_ble_eq_true rfl) (fun p e s m below meth c ls F hE hP hl => ?_)
  have F : kF p s m meth c cX1_drift 4 (some .int) _ RX1 := F
  obtain ⟨hx, hb, hr, hml, hown, hG, hlk⟩ := id F
  have hl : lv_has ls 4 [(0, .ref o), (1, .int x0), (2, .int x1)] := hl
  obtain ⟨⟨b_1a, b_1b⟩, ⟨b_1c, b_1d⟩, ⟨b_1e, b_1f⟩⟩ := FV.bounds h_g_o
  refine lv_aload_n hx hb dX1_drift_0 rfl (lv_at hl 0 rfl) ?_
  refine va_get (D := D) (ci := 1) (v := .ref o_c) (C := RX1) (T := TX1) (N := 1) hx hb hG inG_X1 hown hE.1 hP 0 rfl rfl 0 (by decide) (hG _ q_f_X1_11) (fun _ h9 => h9) rfl dX1_drift_1 ?_
  refine lv_bipush (v := 43) hx hb dX1_drift_4 (by decide) ?_
  refine lv_iload_n hx hb dX1_drift_6 rfl (lv_at hl 1 rfl) ?_
  refine lv_iadd hx hb dX1_drift_7 ?_
  refine lv_topi (fun z_2 ez_2 => ?_)
  have iz_2 : z_2.toInt = 43 + x0.toInt := k_addI ez_2 (by decide) rfl (by omega)
  refine va_iald hx hb hE.1 hP 1 0 rfl rfl (k_in (by omega)) dX1_drift_8 ?_
  refine k_top (z := (g_o (Int32.toNatClampNeg z_2))) rfl ?_
  refine lv_istore_n (lv' := [(3, .int (g_o (Int32.toNatClampNeg z_2))), (0, .ref o), (1, .int x0), (2, .int x1)]) hx hb dX1_drift_9 rfl hl (by decide) rfl (fun ls hl => ?_)
  refine lv_iload_n hx hb dX1_drift_10 rfl (lv_at hl 0 rfl) ?_
  refine lv_iconst (v := 1) hx hb dX1_drift_11 (by decide) ?_
  refine lv_icmp_ge (tgt := 19) hx hb dX1_drift_12 (by decide) (fun c_3 => ?_) (fun c_3 => ?_)
  · have ic_3 : 1 ≤ (g_o (Int32.toNatClampNeg z_2)).toInt := k_le c_3 (by decide) rfl
    refine lv_iload_n hx hb dX1_drift_19 rfl (lv_at hl 3 rfl) ?_
    refine lv_iconst (v := 4) hx hb dX1_drift_20 (by decide) ?_
    refine lv_isub hx hb dX1_drift_21 ?_
    refine lv_topi (fun z_4 ez_4 => ?_)
    refine lv_aload_n hx hb dX1_drift_22 rfl (lv_at hl 1 rfl) ?_
    refine va_get (D := D) (ci := 1) (v := .ref o_c) (C := RX1) (T := TX1) (N := 1) hx hb hG inG_X1 hown hE.1 hP 0 rfl rfl 0 (by decide) (hG _ q_f_X1_11) (fun _ h9 => h9) rfl dX1_drift_23 ?_
    refine lv_bipush (v := 48) hx hb dX1_drift_26 (by decide) ?_
    refine lv_iload_n hx hb dX1_drift_28 rfl (lv_at hl 2 rfl) ?_
    refine lv_iadd hx hb dX1_drift_29 ?_
    refine lv_topi (fun z_5 ez_5 => ?_)
    have iz_5 : z_5.toInt = 48 + x0.toInt := k_addI ez_5 (by decide) rfl (by omega)
    refine va_iald hx hb hE.1 hP 1 0 rfl rfl (k_in (by omega)) dX1_drift_30 ?_
    refine k_top (z := (g_o (Int32.toNatClampNeg z_5))) rfl ?_
    refine lv_imul hx hb dX1_drift_31 ?_
    refine lv_topi (fun z_6 ez_6 => ?_)
    refine lv_iload_n hx hb dX1_drift_32 rfl (lv_at hl 0 rfl) ?_
    refine lv_idiv hx hb dX1_drift_33 (k_nz (by omega)) ?_
    refine lv_topi (fun z_7 ez_7 => ?_)
    exact KP.rt F rfl trivial dX1_drift_34
  · have ic_3 : (g_o (Int32.toNatClampNeg z_2)).toInt < 1 := k_nle c_3 (by decide) rfl
    refine lv_iconst (v := 0) hx hb dX1_drift_15 (by decide) ?_
    refine lv_goto (tgt := 34) hx hb dX1_drift_16 (by decide) ?_
    have lit0 : (0 : Int32).toInt = 0 := by decide
    exact KP.rt F rfl trivial dX1_drift_34

set_option maxHeartbeats 4000000 in
set_option maxRecDepth 100000 in
theorem cc_X1_landing (l : Launch) (D : va_G) (cy : Nat → ClassId) (o : Nat) (o_c : Nat) (g_o : Nat → Int32) (x0 : Int32) (x1 : Int32) (x2 : Int32) (h_g_o : FV g_o) (p0 : 0 ≤ x0.toInt) (p1 : x0.toInt ≤ 4) (p2 : 0 ≤ x1.toInt) (p3 : x1.toInt ≤ 5) : KP l yX1_landing cX1_landing 5 (some .int) 1 23 D (kTY cy) [.ref o, .int x0, .int x1, .int x2] [(o, .inr (1, [.ref o_c])), (o_c, .inl (cy 0, 63, .inl g_o))] (fun r => True) := by
  refine KP.of (by decide) (Nat.le_of_ble_eq_true rfl) (fun p e s m below meth c ls F hE hP hl => ?_)
  have F : kF p s m meth c cX1_landing 5 (some .int) _ RX1 := F
  obtain ⟨hx, hb, hr, hml, hown, hG, hlk⟩ := id F
  have hl : lv_has ls 5 [(0, .ref o), (1, .int x0), (2, .int x1), (3, .int x2)] := hl
  obtain ⟨⟨b_1a, b_1b⟩, ⟨b_1c, b_1d⟩, ⟨b_1e, b_1f⟩⟩ := FV.bounds h_g_o
  refine lv_aload_n hx hb dX1_landing_0 rfl (lv_at hl 0 rfl) ?_
  refine va_get (D := D) (ci := 1) (v := .ref o_c) (C := RX1) (T := TX1) (N := 1) hx hb hG inG_X1 hown hE.1 hP 0 rfl rfl 0 (by decide) (hG _ q_f_X1_11) (fun _ h9 => h9) rfl dX1_landing_1 ?_
  refine lv_bipush (v := 20) hx hb dX1_landing_4 (by decide) ?_
  refine lv_iload_n hx hb dX1_landing_6 rfl (lv_at hl 2 rfl) ?_
  refine lv_iadd hx hb dX1_landing_7 ?_
  refine lv_topi (fun z_2 ez_2 => ?_)
  have iz_2 : z_2.toInt = 20 + x1.toInt := k_addI ez_2 (by decide) rfl (by omega)
  refine va_iald hx hb hE.1 hP 1 0 rfl rfl (k_in (by omega)) dX1_landing_8 ?_
  refine k_top (z := (g_o (Int32.toNatClampNeg z_2))) rfl ?_
  refine lv_aload_n hx hb dX1_landing_9 rfl (lv_at hl 0 rfl) ?_
  refine lv_iload_n hx hb dX1_landing_10 rfl (lv_at hl 1 rfl) ?_
  refine lv_iload_n hx hb dX1_landing_11 rfl (lv_at hl 3 rfl) ?_
  refine kcV (As := [.int x0, .int x2]) (rest := [.int (g_o (Int32.toNatClampNeg z_2))]) F hE hP hl.1 (cc_X1_drift l D cy (o := o) (x0 := x0) (x1 := x2) (o_c := o_c) (g_o := g_o) (h_g_o := h_g_o) (p0 := (by first | omega | assumption)) (p1 := (by first | omega | assumption))) q_m_X1_31 mv_X1_drift ⟨(Nat.le_of_ble_eq_true rfl), (Nat.le_of_ble_eq_true rfl)⟩ [0, 1] rfl rfl rfl rfl rfl rfl (Nat.le_of_ble_eq_true rfl) ⟨(Nat.le_of_ble_eq_true rfl), (Nat.le_of_ble_eq_true rfl)⟩ dX1_landing_12 (fun r_3 er_3 => ?_)
  refine lv_iadd hx hb dX1_landing_15 ?_
  refine lv_topi (fun z_4 ez_4 => ?_)
  refine lv_istore (lv' := [(4, .int z_4), (0, .ref o), (1, .int x0), (2, .int x1), (3, .int x2)]) hx hb dX1_landing_16 hl (by decide) rfl (fun ls hl => ?_)
  refine lv_iload hx hb dX1_landing_18 (lv_at hl 0 rfl) ?_
  refine lv_iconst (v := 0) hx hb dX1_landing_20 (by decide) ?_
  refine lv_aload_n hx hb dX1_landing_21 rfl (lv_at hl 1 rfl) ?_
  refine va_get (D := D) (ci := 1) (v := .ref o_c) (C := RX1) (T := TX1) (N := 1) hx hb hG inG_X1 hown hE.1 hP 0 rfl rfl 0 (by decide) (hG _ q_f_X1_11) (fun _ h9 => h9) rfl dX1_landing_22 ?_
  refine lv_iconst (v := 0) hx hb dX1_landing_25 (by decide) ?_
  refine va_iald hx hb hE.1 hP 1 0 rfl rfl (by unfold vp_in; decide) dX1_landing_26 ?_
  refine k_top (z := (g_o 0)) rfl ?_
  refine lv_iconst (v := 1) hx hb dX1_landing_27 (by decide) ?_
  refine lv_isub hx hb dX1_landing_28 ?_
  refine lv_topi (fun z_5 ez_5 => ?_)
  have lt32_5 : (0 : Int32).toInt = 0 := by decide
  refine kcSN (host := RX11) (As := [.int z_4, .int 0, .int z_5]) (rest := []) F hE hP hl.1 (cc_within l D cy (x0 := z_4) (x1 := 0) (x2 := z_5)) ms_X11_within (by decide +kernel) ⟨(Nat.le_of_ble_eq_true rfl), (Nat.le_of_ble_eq_true rfl)⟩ [] rfl rfl rfl (Nat.le_of_ble_eq_true rfl) ⟨(Nat.le_of_ble_eq_true rfl), (Nat.le_of_ble_eq_true rfl)⟩ dX1_landing_29 (fun r_7 er_7 => ?_)
  have er_7 : (r_7.toInt = 0 ∨ r_7.toInt = 1) ∧ ((r_7.toInt ≠ 0 → (0 : Int32).toInt ≤ z_4.toInt ∧ z_4.toInt ≤ z_5.toInt)) ∧ ((r_7.toInt = 0 → z_4.toInt < (0 : Int32).toInt ∨ z_5.toInt < z_4.toInt)) := er_7
  obtain ⟨er_7a, er_7b, er_7c⟩ := er_7
  refine lv_if_eq (tgt := 40) hx hb dX1_landing_32 (by decide) (fun c_8 => ?_) (fun c_8 => ?_)
  · have ic_8 : r_7.toInt = 0 := k_eq c_8 rfl (by decide)
    have fc_8 := er_7c ic_8
    clear er_7b er_7c er_7a
    refine lv_iconst (v := (-1)) hx hb dX1_landing_40 (by decide) ?_
    have lit0 : ((-1) : Int32).toInt = (-1) := by decide
    exact KP.rt F rfl trivial dX1_landing_41
  · have ic_8 : r_7.toInt ≠ 0 := k_ne c_8 rfl (by decide)
    have fc_8 := er_7b ic_8
    clear er_7b er_7c er_7a
    obtain ⟨fc_8a, fc_8b⟩ := fc_8
    refine lv_iload hx hb dX1_landing_35 (lv_at hl 0 rfl) ?_
    refine lv_goto (tgt := 41) hx hb dX1_landing_37 (by decide) ?_
    exact KP.rt F rfl trivial dX1_landing_41

set_option maxHeartbeats 4000000 in
set_option maxRecDepth 100000 in
theorem cc_X1_ringAt (l : Launch) (D : va_G) (cy : Nat → ClassId) (o : Nat) (o_c : Nat) (g_o : Nat → Int32) (x0 : Int32) (h_g_o : FV g_o) : KP l yX1_ringAt cX1_ringAt 3 (some .int) 0 0 D (kTY cy) [.ref o, .int x0] [(o, .inr (1, [.ref o_c])), (o_c, .inl (cy 0, 63, .inl g_o))] (fun r => (-1 ≤ r.toInt) ∧ (r.toInt ≤ 5)) := by
  refine KP.of (by decide) (Nat.le_of_ble_eq_true rfl) (fun p e s m below meth c ls F hE hP hl => ?_)
  have F : kF p s m meth c cX1_ringAt 3 (some .int) _ RX1 := F
  obtain ⟨hx, hb, hr, hml, hown, hG, hlk⟩ := id F
  have hl : lv_has ls 3 [(0, .ref o), (1, .int x0)] := hl
  obtain ⟨⟨b_1a, b_1b⟩, ⟨b_1c, b_1d⟩, ⟨b_1e, b_1f⟩⟩ := FV.bounds h_g_o
  refine lv_iconst (v := 0) hx hb dX1_ringAt_0 (by decide) ?_
  refine lv_istore_n (lv' := [(2, .int 0), (0, .ref o), (1, .int x0)]) hx hb dX1_ringAt_1 rfl hl (by decide) rfl (fun ls hl => ?_)
  have lp2 : ∀ (fu : Nat) (v2_2 : Int32) (ls : Array Slot), (0 ≤ v2_2.toInt) → (v2_2.toInt ≤ 6) → 6 - v2_2.toInt < (fu : Int) → lv_has ls 3 [(2, .int v2_2), (0, .ref o), (1, .int x0)] → W p l e (kR 0 0) s m ([.ref o, .int x0] : List Value).toArray below meth c s.heap [] 0 0 (MQ below (kQ (fun r => (-1 ≤ r.toInt) ∧ (r.toInt ≤ 5))) ([.ref o, .int x0] : List Value).toArray s 0 0 (fun _ => False)) (F0 m 2 ls []) := by
    intro fu2
    induction fu2 with
    | zero =>
      intro v2_2 ls j0_2 j1_2 hm2 hl
      exact absurd hm2 (by omega)
    | succ fu2 ih2 =>
      intro v2_2 ls j0_2 j1_2 hm2 hl
      refine lv_iload_n hx hb dX1_ringAt_2 rfl (lv_at hl 0 rfl) ?_
      refine lv_aload_n hx hb dX1_ringAt_3 rfl (lv_at hl 1 rfl) ?_
      refine va_get (D := D) (ci := 1) (v := .ref o_c) (C := RX1) (T := TX1) (N := 1) hx hb hG inG_X1 hown hE.1 hP 0 rfl rfl 0 (by decide) (hG _ q_f_X1_11) (fun _ h9 => h9) rfl dX1_ringAt_4 ?_
      refine lv_iconst (v := 3) hx hb dX1_ringAt_7 (by decide) ?_
      refine va_iald hx hb hE.1 hP 1 0 rfl rfl (by unfold vp_in; decide) dX1_ringAt_8 ?_
      refine k_top (z := (g_o 3)) rfl ?_
      refine lv_icmp_ge (tgt := 33) hx hb dX1_ringAt_9 (by decide) (fun c_2 => ?_) (fun c_2 => ?_)
      · have ic_2 : (g_o 3).toInt ≤ v2_2.toInt := k_le c_2 rfl rfl
        refine lv_iconst (v := (-1)) hx hb dX1_ringAt_33 (by decide) ?_
        have lit0 : ((-1) : Int32).toInt = (-1) := by decide
        exact KP.rt F rfl (show (-1 ≤ ((-1) : Int32).toInt) ∧ (((-1) : Int32).toInt ≤ 5) from ⟨(by first | omega | assumption), (by first | omega | assumption)⟩) dX1_ringAt_34
      · have ic_2 : v2_2.toInt < (g_o 3).toInt := k_nle c_2 rfl rfl
        refine lv_aload_n hx hb dX1_ringAt_12 rfl (lv_at hl 1 rfl) ?_
        refine va_get (D := D) (ci := 1) (v := .ref o_c) (C := RX1) (T := TX1) (N := 1) hx hb hG inG_X1 hown hE.1 hP 0 rfl rfl 0 (by decide) (hG _ q_f_X1_11) (fun _ h9 => h9) rfl dX1_ringAt_13 ?_
        refine lv_bipush (v := 20) hx hb dX1_ringAt_16 (by decide) ?_
        refine lv_iload_n hx hb dX1_ringAt_18 rfl (lv_at hl 0 rfl) ?_
        refine lv_iadd hx hb dX1_ringAt_19 ?_
        refine lv_topi (fun z_3 ez_3 => ?_)
        have iz_3 : z_3.toInt = 20 + v2_2.toInt := k_addI ez_3 (by decide) rfl (by omega)
        refine va_iald hx hb hE.1 hP 1 0 rfl rfl (k_in (by omega)) dX1_ringAt_20 ?_
        refine k_top (z := (g_o (Int32.toNatClampNeg z_3))) rfl ?_
        refine lv_iload_n hx hb dX1_ringAt_21 rfl (lv_at hl 2 rfl) ?_
        refine lv_icmp_ne (tgt := 27) hx hb dX1_ringAt_22 (by decide) (fun c_4 => ?_) (fun c_4 => ?_)
        · have ic_4 : (g_o (Int32.toNatClampNeg z_3)).toInt ≠ x0.toInt := k_ne c_4 rfl rfl
          obtain ⟨z_5, ez_5⟩ : ∃ y : Int32, y = v2_2 + Int32.ofInt 1 := ⟨_, rfl⟩
          have iz_5 : z_5.toInt = v2_2.toInt + 1 := k_addI ez_5 rfl (by decide) (by omega)
          refine lv_iinc (v := z_5) (lv' := [(2, .int z_5), (0, .ref o), (1, .int x0)]) hx hb dX1_ringAt_27 hl (k := 0) rfl ez_5.symm (by decide) rfl (fun ls hl => ?_)
          refine lv_goto (tgt := 2) hx hb dX1_ringAt_30 (by decide) ?_
          exact ih2 z_5 ls (by first | omega | assumption) (by first | omega | assumption) (by omega) (lv_sub hl [0, 1, 2] rfl)
        · have ic_4 : (g_o (Int32.toNatClampNeg z_3)).toInt = x0.toInt := k_eq c_4 rfl rfl
          refine lv_iload_n hx hb dX1_ringAt_25 rfl (lv_at hl 0 rfl) ?_
          exact KP.rt F rfl (show (-1 ≤ v2_2.toInt) ∧ (v2_2.toInt ≤ 5) from ⟨(by first | omega | assumption), (by first | omega | assumption)⟩) dX1_ringAt_26
  have lt_6 : (0 : Int32).toInt = 0 := by decide
  exact lp2 100000 0 ls (by first | omega | assumption) (by first | omega | assumption) (by omega) hl

set_option maxHeartbeats 4000000 in
set_option maxRecDepth 100000 in
theorem cc_X1_ringThatHitsOwn (l : Launch) (D : va_G) (cy : Nat → ClassId) (o : Nat) (o_c : Nat) (g_o : Nat → Int32) (x0 : Int32) (x1 : Int32) (h_g_o : FV g_o) (p0 : 0 ≤ x0.toInt) (p1 : x0.toInt ≤ 4) : KP l yX1_ringThatHitsOwn cX1_ringThatHitsOwn 4 (some .int) 1 23 D (kTY cy) [.ref o, .int x0, .int x1] [(o, .inr (1, [.ref o_c])), (o_c, .inl (cy 0, 63, .inl g_o))] (fun r => (-1 ≤ r.toInt) ∧ (r.toInt ≤ 5)) := by
  refine KP.of (by decide) (Nat.le_of_ble_eq_true rfl) (fun p e s m below meth c ls F hE hP hl => ?_)
  have F : kF p s m meth c cX1_ringThatHitsOwn 4 (some .int) _ RX1 := F
  obtain ⟨hx, hb, hr, hml, hown, hG, hlk⟩ := id F
  have hl : lv_has ls 4 [(0, .ref o), (1, .int x0), (2, .int x1)] := hl
  obtain ⟨⟨b_1a, b_1b⟩, ⟨b_1c, b_1d⟩, ⟨b_1e, b_1f⟩⟩ := FV.bounds h_g_o
  refine lv_aload_n hx hb dX1_ringThatHitsOwn_0 rfl (lv_at hl 0 rfl) ?_
  refine va_get (D := D) (ci := 1) (v := .ref o_c) (C := RX1) (T := TX1) (N := 1) hx hb hG inG_X1 hown hE.1 hP 0 rfl rfl 0 (by decide) (hG _ q_f_X1_11) (fun _ h9 => h9) rfl dX1_ringThatHitsOwn_1 ?_
  refine lv_bipush (v := 38) hx hb dX1_ringThatHitsOwn_4 (by decide) ?_
  refine lv_iload_n hx hb dX1_ringThatHitsOwn_6 rfl (lv_at hl 1 rfl) ?_
  refine lv_iadd hx hb dX1_ringThatHitsOwn_7 ?_
  refine lv_topi (fun z_2 ez_2 => ?_)
  have iz_2 : z_2.toInt = 38 + x0.toInt := k_addI ez_2 (by decide) rfl (by omega)
  refine va_iald hx hb hE.1 hP 1 0 rfl rfl (k_in (by omega)) dX1_ringThatHitsOwn_8 ?_
  refine k_top (z := (g_o (Int32.toNatClampNeg z_2))) rfl ?_
  have ow_3 := FV.own h_g_o z_2 (by omega)
  refine lv_istore_n (lv' := [(3, .int (g_o (Int32.toNatClampNeg z_2))), (0, .ref o), (1, .int x0), (2, .int x1)]) hx hb dX1_ringThatHitsOwn_9 rfl hl (by decide) rfl (fun ls hl => ?_)
  refine lv_aload_n hx hb dX1_ringThatHitsOwn_10 rfl (lv_at hl 1 rfl) ?_
  refine lv_aload_n hx hb dX1_ringThatHitsOwn_11 rfl (lv_at hl 1 rfl) ?_
  refine va_get (D := D) (ci := 1) (v := .ref o_c) (C := RX1) (T := TX1) (N := 1) hx hb hG inG_X1 hown hE.1 hP 0 rfl rfl 0 (by decide) (hG _ q_f_X1_11) (fun _ h9 => h9) rfl dX1_ringThatHitsOwn_12 ?_
  refine lv_bipush (v := 20) hx hb dX1_ringThatHitsOwn_15 (by decide) ?_
  refine lv_iload_n hx hb dX1_ringThatHitsOwn_17 rfl (lv_at hl 0 rfl) ?_
  refine lv_iadd hx hb dX1_ringThatHitsOwn_18 ?_
  refine lv_topi (fun z_4 ez_4 => ?_)
  have iz_4 : z_4.toInt = 20 + (g_o (Int32.toNatClampNeg z_2)).toInt := k_addI ez_4 (by decide) rfl (by omega)
  refine va_iald hx hb hE.1 hP 1 0 rfl rfl (k_in (by omega)) dX1_ringThatHitsOwn_19 ?_
  refine k_top (z := (g_o (Int32.toNatClampNeg z_4))) rfl ?_
  refine lv_aload_n hx hb dX1_ringThatHitsOwn_20 rfl (lv_at hl 1 rfl) ?_
  refine lv_iload_n hx hb dX1_ringThatHitsOwn_21 rfl (lv_at hl 2 rfl) ?_
  refine lv_aload_n hx hb dX1_ringThatHitsOwn_22 rfl (lv_at hl 1 rfl) ?_
  refine lv_iload_n hx hb dX1_ringThatHitsOwn_23 rfl (lv_at hl 3 rfl) ?_
  refine kcV (As := [.int x1]) (rest := [.int x0, .ref o, .int (g_o (Int32.toNatClampNeg z_4)), .ref o]) F hE hP hl.1 (cc_X1_windOf l D cy (o := o) (x0 := x1) (o_c := o_c) (g_o := g_o) (h_g_o := h_g_o)) q_m_X1_35 mv_X1_windOf ⟨(Nat.le_of_ble_eq_true rfl), (Nat.le_of_ble_eq_true rfl)⟩ [0, 1] rfl rfl rfl rfl rfl rfl (Nat.le_of_ble_eq_true rfl) ⟨(Nat.le_of_ble_eq_true rfl), (Nat.le_of_ble_eq_true rfl)⟩ dX1_ringThatHitsOwn_24 (fun r_5 er_5 => ?_)
  refine kcV (As := [.int x0, .int r_5]) (rest := [.int (g_o (Int32.toNatClampNeg z_4)), .ref o]) F hE hP hl.1 (cc_X1_drift l D cy (o := o) (x0 := x0) (x1 := r_5) (o_c := o_c) (g_o := g_o) (h_g_o := h_g_o) (p0 := (by first | omega | assumption)) (p1 := (by first | omega | assumption))) q_m_X1_31 mv_X1_drift ⟨(Nat.le_of_ble_eq_true rfl), (Nat.le_of_ble_eq_true rfl)⟩ [0, 1] rfl rfl rfl rfl rfl rfl (Nat.le_of_ble_eq_true rfl) ⟨(Nat.le_of_ble_eq_true rfl), (Nat.le_of_ble_eq_true rfl)⟩ dX1_ringThatHitsOwn_27 (fun r_6 er_6 => ?_)
  refine lv_isub hx hb dX1_ringThatHitsOwn_30 ?_
  refine lv_topi (fun z_7 ez_7 => ?_)
  refine kcV (As := [.int z_7]) (rest := []) F hE hP hl.1 (cc_X1_ringAt l D cy (o := o) (x0 := z_7) (o_c := o_c) (g_o := g_o) (h_g_o := h_g_o)) q_m_X1_39 mv_X1_ringAt ⟨(Nat.le_of_ble_eq_true rfl), (Nat.le_of_ble_eq_true rfl)⟩ [0, 1] rfl rfl rfl rfl rfl rfl (Nat.le_of_ble_eq_true rfl) ⟨(Nat.le_of_ble_eq_true rfl), (Nat.le_of_ble_eq_true rfl)⟩ dX1_ringThatHitsOwn_31 (fun r_8 er_8 => ?_)
  have er_8 : (-1 ≤ r_8.toInt) ∧ (r_8.toInt ≤ 5) := er_8
  obtain ⟨er_8a, er_8b⟩ := er_8
  exact KP.rt F rfl (show (-1 ≤ r_8.toInt) ∧ (r_8.toInt ≤ 5) from ⟨(by first | omega | assumption), (by first | omega | assumption)⟩) dX1_ringThatHitsOwn_34

set_option maxHeartbeats 4000000 in
set_option maxRecDepth 100000 in
theorem cc_X1_loose (l : Launch) (D : va_G) (cy : Nat → ClassId) (o : Nat) (o_c : Nat) (g_o : Nat → Int32) (x0 : Int32) (x1 : Int32) (x2 : Int32) (h_g_o : FV g_o) (p0 : 0 ≤ x0.toInt) (p1 : x0.toInt ≤ 4) (p2 : 0 ≤ x1.toInt) (p3 : x1.toInt ≤ 5) : KI l yX1_loose cX1_loose 6 (some .int) 2 47 D (kTY cy) [.ref o, .int x0, .int x1, .int x2] [(o, .inr (1, [.ref o_c])), (o_c, .inl (cy 0, 63, .inl g_o))] (S := (Nat → Int32)) (fun r u => FV u) (fun u => [(o, .inr (1, [.ref o_c])), (o_c, .inl (cy 0, 63, .inl u))]) 0 0 := by
  refine KI.of (by decide) (Nat.le_of_ble_eq_true rfl) (fun p e s m below meth c ls A F hE hP hD hA hS hl => ?_)
  have F : kF p s m meth c cX1_loose 6 (some .int) _ RX1 := F
  obtain ⟨hx, hb, hr, hml, hown, hG, hlk⟩ := id F
  have hl : lv_has ls 6 [(0, .ref o), (1, .int x0), (2, .int x1), (3, .int x2)] := hl
  obtain ⟨⟨b_1a, b_1b⟩, ⟨b_1c, b_1d⟩, ⟨b_1e, b_1f⟩⟩ := FV.bounds h_g_o
  refine lv_aload_n hx hb dX1_loose_0 rfl (lv_at hl 0 rfl) ?_
  refine lv_iload_n hx hb dX1_loose_1 rfl (lv_at hl 1 rfl) ?_
  refine lv_iload_n hx hb dX1_loose_2 rfl (lv_at hl 2 rfl) ?_
  refine lv_iload_n hx hb dX1_loose_3 rfl (lv_at hl 3 rfl) ?_
  refine kcV (As := [.int x0, .int x1, .int x2]) (rest := []) F hE hP hl.1 (cc_X1_landing l D cy (o := o) (x0 := x0) (x1 := x1) (x2 := x2) (o_c := o_c) (g_o := g_o) (h_g_o := h_g_o) (p0 := (by first | omega | assumption)) (p1 := (by first | omega | assumption)) (p2 := (by first | omega | assumption)) (p3 := (by first | omega | assumption))) q_m_X1_42 mv_X1_landing ⟨(Nat.le_of_ble_eq_true rfl), (Nat.le_of_ble_eq_true rfl)⟩ [0, 1] rfl rfl rfl rfl rfl rfl (Nat.le_of_ble_eq_true rfl) ⟨(Nat.le_of_ble_eq_true rfl), (Nat.le_of_ble_eq_true rfl)⟩ dX1_loose_4 (fun r_2 er_2 => ?_)
  refine lv_istore (lv' := [(4, .int r_2), (0, .ref o), (1, .int x0), (2, .int x1), (3, .int x2)]) hx hb dX1_loose_7 hl (by decide) rfl (fun ls hl => ?_)
  refine lv_aload_n hx hb dX1_loose_9 rfl (lv_at hl 1 rfl) ?_
  refine lv_iload hx hb dX1_loose_10 (lv_at hl 0 rfl) ?_
  refine kcV (As := [.int r_2]) (rest := []) F hE hP hl.1 (cc_X1_ringAt l D cy (o := o) (x0 := r_2) (o_c := o_c) (g_o := g_o) (h_g_o := h_g_o)) q_m_X1_39 mv_X1_ringAt ⟨(Nat.le_of_ble_eq_true rfl), (Nat.le_of_ble_eq_true rfl)⟩ [0, 1] rfl rfl rfl rfl rfl rfl (Nat.le_of_ble_eq_true rfl) ⟨(Nat.le_of_ble_eq_true rfl), (Nat.le_of_ble_eq_true rfl)⟩ dX1_loose_12 (fun r_3 er_3 => ?_)
  have er_3 : (-1 ≤ r_3.toInt) ∧ (r_3.toInt ≤ 5) := er_3
  obtain ⟨er_3a, er_3b⟩ := er_3
  refine lv_istore (lv' := [(5, .int r_3), (4, .int r_2), (0, .ref o), (1, .int x0), (2, .int x1), (3, .int x2)]) hx hb dX1_loose_15 hl (by decide) rfl (fun ls hl => ?_)
  refine lv_aload_n hx hb dX1_loose_17 rfl (lv_at hl 2 rfl) ?_
  refine va_get (D := D) (ci := 1) (v := .ref o_c) (C := RX1) (T := TX1) (N := 1) hx hb hG inG_X1 hown hE.1 hP 0 rfl rfl 0 (by decide) (hG _ q_f_X1_11) (fun _ h9 => h9) rfl dX1_loose_18 ?_
  refine lv_bipush (v := 58) hx hb dX1_loose_21 (by decide) ?_
  refine lv_iload_n hx hb dX1_loose_23 rfl (lv_at hl 3 rfl) ?_
  refine lv_iadd hx hb dX1_loose_24 ?_
  refine lv_topi (fun z_4 ez_4 => ?_)
  have iz_4 : z_4.toInt = 58 + x0.toInt := k_addI ez_4 (by decide) rfl (by omega)
  refine lv_dup2_11 hx hb dX1_loose_25 rfl rfl ?_
  refine va_iald hx hb hE.1 hP 1 0 rfl rfl (k_in (by omega)) dX1_loose_26 ?_
  refine k_top (z := (g_o (Int32.toNatClampNeg z_4))) rfl ?_
  refine lv_iconst (v := 1) hx hb dX1_loose_27 (by decide) ?_
  refine lv_isub hx hb dX1_loose_28 ?_
  refine lv_topi (fun z_5 ez_5 => ?_)
  refine va_iast hx hb hE.1 hP hD hS 1 0 rfl rfl (k_in (by omega)) dX1_loose_29 (fun H locs hP hD hS => ?_)
  have hr_7 : FV (upd g_o (Int32.toNatClampNeg z_4) z_5) := FV.put h_g_o z_4 z_5 (by omega) (by omega) (by omega) (by omega) (by omega)
  generalize upd g_o (Int32.toNatClampNeg z_4) z_5 = fn_6 at hP hD hr_7
  have hP : va_P D vwCl [(o, .inr (1, [.ref o_c])), (o_c, .inl (cy 0, 63, .inl fn_6))] H := hP
  have hD : va_D A [(o, .inr (1, [.ref o_c])), (o_c, .inl (cy 0, 63, .inl fn_6))] := hD
  obtain ⟨⟨b_8a, b_8b⟩, ⟨b_8c, b_8d⟩, ⟨b_8e, b_8f⟩⟩ := FV.bounds hr_7
  refine lv_aload_n hx hb dX1_loose_30 rfl (lv_at hl 2 rfl) ?_
  refine va_get (D := D) (ci := 1) (v := .ref o_c) (C := RX1) (T := TX1) (N := 1) hx hb hG inG_X1 hown hE.1 hP 0 rfl rfl 0 (by decide) (hG _ q_f_X1_11) (fun _ h9 => h9) rfl dX1_loose_31 ?_
  refine lv_bipush (v := 6) hx hb dX1_loose_34 (by decide) ?_
  refine lv_dup2_11 hx hb dX1_loose_36 rfl rfl ?_
  refine va_iald hx hb hE.1 hP 1 0 rfl rfl (by unfold vp_in; decide) dX1_loose_37 ?_
  refine k_top (z := (fn_6 6)) rfl ?_
  refine lv_iconst (v := 1) hx hb dX1_loose_38 (by decide) ?_
  refine lv_iadd hx hb dX1_loose_39 ?_
  refine lv_topi (fun z_9 ez_9 => ?_)
  refine va_iast hx hb hE.1 hP hD hS 1 0 rfl rfl (by unfold vp_in; decide) dX1_loose_40 (fun H locs hP hD hS => ?_)
  have hr_11 : FV (upd fn_6 (Int32.toNatClampNeg 6) z_9) := FV.put hr_7 (6 : Int32) z_9 (by have lq1 : (6 : Int32).toInt = 6 := (by decide); omega) (by have lq1 : (6 : Int32).toInt = 6 := (by decide); omega) (by have lq1 : (6 : Int32).toInt = 6 := (by decide); omega) (by have lq1 : (6 : Int32).toInt = 6 := (by decide); omega) (by have lq1 : (6 : Int32).toInt = 6 := (by decide); omega)
  generalize upd fn_6 (Int32.toNatClampNeg 6) z_9 = fn_10 at hP hD hr_11
  have hP : va_P D vwCl [(o, .inr (1, [.ref o_c])), (o_c, .inl (cy 0, 63, .inl fn_10))] H := hP
  have hD : va_D A [(o, .inr (1, [.ref o_c])), (o_c, .inl (cy 0, 63, .inl fn_10))] := hD
  obtain ⟨⟨b_12a, b_12b⟩, ⟨b_12c, b_12d⟩, ⟨b_12e, b_12f⟩⟩ := FV.bounds hr_11
  refine lv_iload hx hb dX1_loose_41 (lv_at hl 1 rfl) ?_
  refine lv_iconst (v := (-1)) hx hb dX1_loose_43 (by decide) ?_
  refine lv_icmp_ne (tgt := 61) hx hb dX1_loose_44 (by decide) (fun c_13 => ?_) (fun c_13 => ?_)
  · have ic_13 : r_2.toInt ≠ (-1) := k_ne c_13 rfl (by decide)
    refine lv_iload hx hb dX1_loose_61 (lv_at hl 0 rfl) ?_
    refine lv_iconst (v := (-1)) hx hb dX1_loose_63 (by decide) ?_
    refine lv_icmp_eq (tgt := 128) hx hb dX1_loose_64 (by decide) (fun c_14 => ?_) (fun c_14 => ?_)
    · have ic_14 : r_3.toInt = (-1) := k_eq c_14 rfl (by decide)
      refine lv_iload hx hb dX1_loose_128 (lv_at hl 1 rfl) ?_
      exact KI.rt fn_10 F rfl (hP.sub [0, 1] rfl) (hD.sub [0, 1] (by decide) rfl) hS (show FV fn_10 from hr_11) (Nat.le_of_ble_eq_true rfl) (Nat.le_of_ble_eq_true rfl) dX1_loose_130
    · have ic_14 : r_3.toInt ≠ (-1) := k_ne c_14 rfl (by decide)
      refine lv_aload_n hx hb dX1_loose_67 rfl (lv_at hl 2 rfl) ?_
      refine va_get (D := D) (ci := 1) (v := .ref o_c) (C := RX1) (T := TX1) (N := 1) hx hb hG inG_X1 hown hE.1 hP 0 rfl rfl 0 (by decide) (hG _ q_f_X1_11) (fun _ h9 => h9) rfl dX1_loose_68 ?_
      refine lv_bipush (v := 32) hx hb dX1_loose_71 (by decide) ?_
      refine lv_iload hx hb dX1_loose_73 (lv_at hl 0 rfl) ?_
      refine lv_iadd hx hb dX1_loose_75 ?_
      refine lv_topi (fun z_15 ez_15 => ?_)
      have iz_15 : z_15.toInt = 32 + r_3.toInt := k_addI ez_15 (by decide) rfl (by omega)
      refine lv_dup2_11 hx hb dX1_loose_76 rfl rfl ?_
      refine va_iald hx hb hE.1 hP 1 0 rfl rfl (k_in (by omega)) dX1_loose_77 ?_
      refine k_top (z := (fn_10 (Int32.toNatClampNeg z_15))) rfl ?_
      refine lv_iconst (v := 1) hx hb dX1_loose_78 (by decide) ?_
      refine lv_iadd hx hb dX1_loose_79 ?_
      refine lv_topi (fun z_16 ez_16 => ?_)
      refine va_iast hx hb hE.1 hP hD hS 1 0 rfl rfl (k_in (by omega)) dX1_loose_80 (fun H locs hP hD hS => ?_)
      have hr_18 : FV (upd fn_10 (Int32.toNatClampNeg z_15) z_16) := FV.put hr_11 z_15 z_16 (by omega) (by omega) (by omega) (by omega) (by omega)
      generalize upd fn_10 (Int32.toNatClampNeg z_15) z_16 = fn_17 at hP hD hr_18
      have hP : va_P D vwCl [(o, .inr (1, [.ref o_c])), (o_c, .inl (cy 0, 63, .inl fn_17))] H := hP
      have hD : va_D A [(o, .inr (1, [.ref o_c])), (o_c, .inl (cy 0, 63, .inl fn_17))] := hD
      obtain ⟨⟨b_19a, b_19b⟩, ⟨b_19c, b_19d⟩, ⟨b_19e, b_19f⟩⟩ := FV.bounds hr_18
      refine lv_iload hx hb dX1_loose_81 (lv_at hl 0 rfl) ?_
      refine lv_aload_n hx hb dX1_loose_83 rfl (lv_at hl 2 rfl) ?_
      refine va_get (D := D) (ci := 1) (v := .ref o_c) (C := RX1) (T := TX1) (N := 1) hx hb hG inG_X1 hown hE.1 hP 0 rfl rfl 0 (by decide) (hG _ q_f_X1_11) (fun _ h9 => h9) rfl dX1_loose_84 ?_
      refine lv_bipush (v := 38) hx hb dX1_loose_87 (by decide) ?_
      refine lv_iload_n hx hb dX1_loose_89 rfl (lv_at hl 3 rfl) ?_
      refine lv_iadd hx hb dX1_loose_90 ?_
      refine lv_topi (fun z_20 ez_20 => ?_)
      have iz_20 : z_20.toInt = 38 + x0.toInt := k_addI ez_20 (by decide) rfl (by omega)
      refine va_iald hx hb hE.1 hP 1 0 rfl rfl (k_in (by omega)) dX1_loose_91 ?_
      refine k_top (z := (fn_17 (Int32.toNatClampNeg z_20))) rfl ?_
      have ow_21 := FV.own hr_18 z_20 (by omega)
      refine lv_icmp_ne (tgt := 128) hx hb dX1_loose_92 (by decide) (fun c_22 => ?_) (fun c_22 => ?_)
      · have ic_22 : r_3.toInt ≠ (fn_17 (Int32.toNatClampNeg z_20)).toInt := k_ne c_22 rfl rfl
        refine lv_iload hx hb dX1_loose_128 (lv_at hl 1 rfl) ?_
        exact KI.rt fn_17 F rfl (hP.sub [0, 1] rfl) (hD.sub [0, 1] (by decide) rfl) hS (show FV fn_17 from hr_18) (Nat.le_of_ble_eq_true rfl) (Nat.le_of_ble_eq_true rfl) dX1_loose_130
      · have ic_22 : r_3.toInt = (fn_17 (Int32.toNatClampNeg z_20)).toInt := k_eq c_22 rfl rfl
        refine lv_aload_n hx hb dX1_loose_95 rfl (lv_at hl 2 rfl) ?_
        refine va_get (D := D) (ci := 1) (v := .ref o_c) (C := RX1) (T := TX1) (N := 1) hx hb hG inG_X1 hown hE.1 hP 0 rfl rfl 0 (by decide) (hG _ q_f_X1_11) (fun _ h9 => h9) rfl dX1_loose_96 ?_
        refine lv_bipush (v := 53) hx hb dX1_loose_99 (by decide) ?_
        refine lv_iload_n hx hb dX1_loose_101 rfl (lv_at hl 3 rfl) ?_
        refine lv_iadd hx hb dX1_loose_102 ?_
        refine lv_topi (fun z_23 ez_23 => ?_)
        have iz_23 : z_23.toInt = 53 + x0.toInt := k_addI ez_23 (by decide) rfl (by omega)
        refine lv_iconst (v := 0) hx hb dX1_loose_103 (by decide) ?_
        refine lv_aload_n hx hb dX1_loose_104 rfl (lv_at hl 2 rfl) ?_
        refine va_get (D := D) (ci := 1) (v := .ref o_c) (C := RX1) (T := TX1) (N := 1) hx hb hG inG_X1 hown hE.1 hP 0 rfl rfl 0 (by decide) (hG _ q_f_X1_11) (fun _ h9 => h9) rfl dX1_loose_105 ?_
        refine lv_bipush (v := 53) hx hb dX1_loose_108 (by decide) ?_
        refine lv_iload_n hx hb dX1_loose_110 rfl (lv_at hl 3 rfl) ?_
        refine lv_iadd hx hb dX1_loose_111 ?_
        refine lv_topi (fun z_24 ez_24 => ?_)
        have iz_24 : z_24.toInt = 53 + x0.toInt := k_addI ez_24 (by decide) rfl (by omega)
        refine va_iald hx hb hE.1 hP 1 0 rfl rfl (k_in (by omega)) dX1_loose_112 ?_
        refine k_top (z := (fn_17 (Int32.toNatClampNeg z_24))) rfl ?_
        refine lv_aload_n hx hb dX1_loose_113 rfl (lv_at hl 2 rfl) ?_
        refine va_get (D := D) (ci := 1) (v := .ref o_c) (C := RX1) (T := TX1) (N := 1) hx hb hG inG_X1 hown hE.1 hP 0 rfl rfl 0 (by decide) (hG _ q_f_X1_11) (fun _ h9 => h9) rfl dX1_loose_114 ?_
        refine lv_bipush (v := 26) hx hb dX1_loose_117 (by decide) ?_
        refine lv_iload hx hb dX1_loose_119 (lv_at hl 0 rfl) ?_
        refine lv_iadd hx hb dX1_loose_121 ?_
        refine lv_topi (fun z_25 ez_25 => ?_)
        have iz_25 : z_25.toInt = 26 + r_3.toInt := k_addI ez_25 (by decide) rfl (by omega)
        refine va_iald hx hb hE.1 hP 1 0 rfl rfl (k_in (by omega)) dX1_loose_122 ?_
        refine k_top (z := (fn_17 (Int32.toNatClampNeg z_25))) rfl ?_
        refine lv_isub hx hb dX1_loose_123 ?_
        refine lv_topi (fun z_26 ez_26 => ?_)
        refine va_mmax hx hb (by rw [hml]; exact hl.1.symm) hown (hG _ q_m_X1_46) (hG _ q_s_J9_max_7cf53) (hG _ q_z_J9) (hG _ q_c_J9_max_7cf53) (Nat.le_of_ble_eq_true rfl) (Nat.le_of_ble_eq_true rfl) (Nat.le_of_ble_eq_true rfl) (Nat.le_of_ble_eq_true rfl) dX1_loose_124 ?_
        refine lv_topi (fun z_27 ez_27 => ?_)
        obtain ⟨iz_27a, iz_27b, iz_27c⟩ := k_maxI (a := 0) (b := z_26.toInt) ez_27 (by decide) rfl
        refine va_iast hx hb hE.1 hP hD hS 1 0 rfl rfl (k_in (by omega)) dX1_loose_127 (fun H locs hP hD hS => ?_)
        have hr_29 : FV (upd fn_17 (Int32.toNatClampNeg z_23) z_27) := FV.put hr_18 z_23 z_27 (by omega) (by omega) (by omega) (by omega) (by omega)
        generalize upd fn_17 (Int32.toNatClampNeg z_23) z_27 = fn_28 at hP hD hr_29
        have hP : va_P D vwCl [(o, .inr (1, [.ref o_c])), (o_c, .inl (cy 0, 63, .inl fn_28))] H := hP
        have hD : va_D A [(o, .inr (1, [.ref o_c])), (o_c, .inl (cy 0, 63, .inl fn_28))] := hD
        obtain ⟨⟨b_30a, b_30b⟩, ⟨b_30c, b_30d⟩, ⟨b_30e, b_30f⟩⟩ := FV.bounds hr_29
        refine lv_iload hx hb dX1_loose_128 (lv_at hl 1 rfl) ?_
        exact KI.rt fn_28 F rfl (hP.sub [0, 1] rfl) (hD.sub [0, 1] (by decide) rfl) hS (show FV fn_28 from hr_29) (Nat.le_of_ble_eq_true rfl) (Nat.le_of_ble_eq_true rfl) dX1_loose_130
  · have ic_13 : r_2.toInt = (-1) := k_eq c_13 rfl (by decide)
    refine lv_aload_n hx hb dX1_loose_47 rfl (lv_at hl 2 rfl) ?_
    refine va_get (D := D) (ci := 1) (v := .ref o_c) (C := RX1) (T := TX1) (N := 1) hx hb hG inG_X1 hown hE.1 hP 0 rfl rfl 0 (by decide) (hG _ q_f_X1_11) (fun _ h9 => h9) rfl dX1_loose_48 ?_
    refine lv_bipush (v := 7) hx hb dX1_loose_51 (by decide) ?_
    refine lv_dup2_11 hx hb dX1_loose_53 rfl rfl ?_
    refine va_iald hx hb hE.1 hP 1 0 rfl rfl (by unfold vp_in; decide) dX1_loose_54 ?_
    refine k_top (z := (fn_10 7)) rfl ?_
    refine lv_iconst (v := 1) hx hb dX1_loose_55 (by decide) ?_
    refine lv_iadd hx hb dX1_loose_56 ?_
    refine lv_topi (fun z_31 ez_31 => ?_)
    refine va_iast hx hb hE.1 hP hD hS 1 0 rfl rfl (by unfold vp_in; decide) dX1_loose_57 (fun H locs hP hD hS => ?_)
    have hr_33 : FV (upd fn_10 (Int32.toNatClampNeg 7) z_31) := FV.put hr_11 (7 : Int32) z_31 (by have lq1 : (7 : Int32).toInt = 7 := (by decide); omega) (by have lq1 : (7 : Int32).toInt = 7 := (by decide); omega) (by have lq1 : (7 : Int32).toInt = 7 := (by decide); omega) (by have lq1 : (7 : Int32).toInt = 7 := (by decide); omega) (by have lq1 : (7 : Int32).toInt = 7 := (by decide); omega)
    generalize upd fn_10 (Int32.toNatClampNeg 7) z_31 = fn_32 at hP hD hr_33
    have hP : va_P D vwCl [(o, .inr (1, [.ref o_c])), (o_c, .inl (cy 0, 63, .inl fn_32))] H := hP
    have hD : va_D A [(o, .inr (1, [.ref o_c])), (o_c, .inl (cy 0, 63, .inl fn_32))] := hD
    obtain ⟨⟨b_34a, b_34b⟩, ⟨b_34c, b_34d⟩, ⟨b_34e, b_34f⟩⟩ := FV.bounds hr_33
    refine lv_goto (tgt := 128) hx hb dX1_loose_58 (by decide) ?_
    refine lv_iload hx hb dX1_loose_128 (lv_at hl 1 rfl) ?_
    exact KI.rt fn_32 F rfl (hP.sub [0, 1] rfl) (hD.sub [0, 1] (by decide) rfl) hS (show FV fn_32 from hr_33) (Nat.le_of_ble_eq_true rfl) (Nat.le_of_ble_eq_true rfl) dX1_loose_130

set_option maxHeartbeats 4000000 in
set_option maxRecDepth 100000 in
theorem cc_X1_sumOfArchers (l : Launch) (D : va_G) (cy : Nat → ClassId) (o : Nat) (o_c : Nat) (g_o : Nat → Int32) (x0 : Int32) (h_g_o : FV g_o) (p0 : 0 ≤ x0.toInt) (p1 : x0.toInt ≤ 58) : KP l yX1_sumOfArchers cX1_sumOfArchers 4 (some .int) 0 0 D (kTY cy) [.ref o, .int x0] [(o, .inr (1, [.ref o_c])), (o_c, .inl (cy 0, 63, .inl g_o))] (fun r => True) := by
  refine KP.of (by decide) (Nat.le_of_ble_eq_true rfl) (fun p e s m below meth c ls F hE hP hl => ?_)
  have F : kF p s m meth c cX1_sumOfArchers 4 (some .int) _ RX1 := F
  obtain ⟨hx, hb, hr, hml, hown, hG, hlk⟩ := id F
  have hl : lv_has ls 4 [(0, .ref o), (1, .int x0)] := hl
  obtain ⟨⟨b_1a, b_1b⟩, ⟨b_1c, b_1d⟩, ⟨b_1e, b_1f⟩⟩ := FV.bounds h_g_o
  refine lv_iconst (v := 0) hx hb dX1_sumOfArchers_0 (by decide) ?_
  refine lv_istore_n (lv' := [(2, .int 0), (0, .ref o), (1, .int x0)]) hx hb dX1_sumOfArchers_1 rfl hl (by decide) rfl (fun ls hl => ?_)
  refine lv_iconst (v := 0) hx hb dX1_sumOfArchers_2 (by decide) ?_
  refine lv_istore_n (lv' := [(3, .int 0), (2, .int 0), (0, .ref o), (1, .int x0)]) hx hb dX1_sumOfArchers_3 rfl hl (by decide) rfl (fun ls hl => ?_)
  have lp4 : ∀ (fu : Nat) (v3_4 : Int32) (v2_4 : Int32) (ls : Array Slot), (0 ≤ v3_4.toInt) → (v3_4.toInt ≤ 5) → 5 - v3_4.toInt < (fu : Int) → lv_has ls 4 [(3, .int v3_4), (2, .int v2_4), (0, .ref o), (1, .int x0)] → W p l e (kR 0 0) s m ([.ref o, .int x0] : List Value).toArray below meth c s.heap [] 0 0 (MQ below (kQ (fun r => True)) ([.ref o, .int x0] : List Value).toArray s 0 0 (fun _ => False)) (F0 m 4 ls []) := by
    intro fu4
    induction fu4 with
    | zero =>
      intro v3_4 v2_4 ls j0_4 j1_4 hm4 hl
      exact absurd hm4 (by omega)
    | succ fu4 ih4 =>
      intro v3_4 v2_4 ls j0_4 j1_4 hm4 hl
      refine lv_iload_n hx hb dX1_sumOfArchers_4 rfl (lv_at hl 0 rfl) ?_
      refine lv_aload_n hx hb dX1_sumOfArchers_5 rfl (lv_at hl 2 rfl) ?_
      refine va_get (D := D) (ci := 1) (v := .ref o_c) (C := RX1) (T := TX1) (N := 1) hx hb hG inG_X1 hown hE.1 hP 0 rfl rfl 0 (by decide) (hG _ q_f_X1_11) (fun _ h9 => h9) rfl dX1_sumOfArchers_6 ?_
      refine lv_iconst (v := 4) hx hb dX1_sumOfArchers_9 (by decide) ?_
      refine va_iald hx hb hE.1 hP 1 0 rfl rfl (by unfold vp_in; decide) dX1_sumOfArchers_10 ?_
      refine k_top (z := (g_o 4)) rfl ?_
      refine lv_icmp_ge (tgt := 31) hx hb dX1_sumOfArchers_11 (by decide) (fun c_2 => ?_) (fun c_2 => ?_)
      · have ic_2 : (g_o 4).toInt ≤ v3_4.toInt := k_le c_2 rfl rfl
        refine lv_iload_n hx hb dX1_sumOfArchers_31 rfl (lv_at hl 1 rfl) ?_
        exact KP.rt F rfl trivial dX1_sumOfArchers_32
      · have ic_2 : v3_4.toInt < (g_o 4).toInt := k_nle c_2 rfl rfl
        refine lv_iload_n hx hb dX1_sumOfArchers_14 rfl (lv_at hl 1 rfl) ?_
        refine lv_aload_n hx hb dX1_sumOfArchers_15 rfl (lv_at hl 2 rfl) ?_
        refine va_get (D := D) (ci := 1) (v := .ref o_c) (C := RX1) (T := TX1) (N := 1) hx hb hG inG_X1 hown hE.1 hP 0 rfl rfl 0 (by decide) (hG _ q_f_X1_11) (fun _ h9 => h9) rfl dX1_sumOfArchers_16 ?_
        refine lv_iload_n hx hb dX1_sumOfArchers_19 rfl (lv_at hl 3 rfl) ?_
        refine lv_iload_n hx hb dX1_sumOfArchers_20 rfl (lv_at hl 0 rfl) ?_
        refine lv_iadd hx hb dX1_sumOfArchers_21 ?_
        refine lv_topi (fun z_3 ez_3 => ?_)
        have iz_3 : z_3.toInt = x0.toInt + v3_4.toInt := k_addI ez_3 rfl rfl (by omega)
        refine va_iald hx hb hE.1 hP 1 0 rfl rfl (k_in (by omega)) dX1_sumOfArchers_22 ?_
        refine k_top (z := (g_o (Int32.toNatClampNeg z_3))) rfl ?_
        refine lv_iadd hx hb dX1_sumOfArchers_23 ?_
        refine lv_topi (fun z_4 ez_4 => ?_)
        refine lv_istore_n (lv' := [(2, .int z_4), (3, .int v3_4), (0, .ref o), (1, .int x0)]) hx hb dX1_sumOfArchers_24 rfl hl (by decide) rfl (fun ls hl => ?_)
        obtain ⟨z_5, ez_5⟩ : ∃ y : Int32, y = v3_4 + Int32.ofInt 1 := ⟨_, rfl⟩
        have iz_5 : z_5.toInt = v3_4.toInt + 1 := k_addI ez_5 rfl (by decide) (by omega)
        refine lv_iinc (v := z_5) (lv' := [(3, .int z_5), (2, .int z_4), (0, .ref o), (1, .int x0)]) hx hb dX1_sumOfArchers_25 hl (k := 1) rfl ez_5.symm (by decide) rfl (fun ls hl => ?_)
        refine lv_goto (tgt := 4) hx hb dX1_sumOfArchers_28 (by decide) ?_
        exact ih4 z_5 z_4 ls (by first | omega | assumption) (by first | omega | assumption) (by omega) (lv_sub hl [0, 1, 2, 3] rfl)
  have lt_6 : (0 : Int32).toInt = 0 := by decide
  exact lp4 100000 0 0 ls (by first | omega | assumption) (by first | omega | assumption) (by omega) hl

set_option maxHeartbeats 4000000 in
set_option maxRecDepth 100000 in
theorem cc_X1_copyFrom (l : Launch) (D : va_G) (cy : Nat → ClassId) (o : Nat) (o_c : Nat) (g_o : Nat → Int32) (q : Nat) (q_c : Nat) (g_q : Nat → Int32) (h_g_o : FV g_o) (h_g_q : FV g_q) : KV l yX1_copyFrom cX1_copyFrom 2 1 40 D (kTY cy) [.ref o, .ref q] [(o, .inr (1, [.ref o_c])), (o_c, .inl (cy 0, 63, .inl g_o)), (q, .inr (1, [.ref q_c])), (q_c, .inl (cy 0, 63, .inl g_q))] (S := (Nat → Int32)) (fun u => FV u) (fun u => [(o, .inr (1, [.ref o_c])), (o_c, .inl (cy 0, 63, .inl u)), (q, .inr (1, [.ref q_c])), (q_c, .inl (cy 0, 63, .inl g_q))]) 0 0 := by
  refine KV.of (by decide) (Nat.le_of_ble_eq_true rfl) (fun p e s m below meth c ls A F hin hE hP hD hA hS hl => ?_)
  have F : kF p s m meth c cX1_copyFrom 2 none _ RX1 := F
  obtain ⟨hx, hb, hr, hml, hown, hG, hlk⟩ := id F
  have hl : lv_has ls 2 [(0, .ref o), (1, .ref q)] := hl
  obtain ⟨⟨b_1a, b_1b⟩, ⟨b_1c, b_1d⟩, ⟨b_1e, b_1f⟩⟩ := FV.bounds h_g_o
  obtain ⟨⟨b_2a, b_2b⟩, ⟨b_2c, b_2d⟩, ⟨b_2e, b_2f⟩⟩ := FV.bounds h_g_q
  refine lv_aload_n hx hb dX1_copyFrom_0 rfl (lv_at hl 1 rfl) ?_
  refine va_get (D := D) (ci := 1) (v := .ref q_c) (C := RX1) (T := TX1) (N := 1) hx hb hG inG_X1 hown hE.1 hP 2 rfl rfl 0 (by decide) (hG _ q_f_X1_11) (fun _ h9 => h9) rfl dX1_copyFrom_1 ?_
  refine lv_iconst (v := 0) hx hb dX1_copyFrom_4 (by decide) ?_
  refine lv_aload_n hx hb dX1_copyFrom_5 rfl (lv_at hl 0 rfl) ?_
  refine va_get (D := D) (ci := 1) (v := .ref o_c) (C := RX1) (T := TX1) (N := 1) hx hb hG inG_X1 hown hE.1 hP 0 rfl rfl 0 (by decide) (hG _ q_f_X1_11) (fun _ h9 => h9) rfl dX1_copyFrom_6 ?_
  refine lv_iconst (v := 0) hx hb dX1_copyFrom_9 (by decide) ?_
  refine lv_bipush (v := 63) hx hb dX1_copyFrom_10 (by decide) ?_
  refine va_copyi (ty := .int) hx hb (by rw [hml]; exact hl.1.symm) hown (hG _ q_m_X1_15) (hG _ q_n_arraycopyName) (hG _ q_s_arraycopyName) (hG _ q_z_J10) hE.1 hP hD hS 3 1 0 0 rfl rfl rfl rfl rfl (by decide) (by decide) (by decide) (Nat.le_of_ble_eq_true rfl) (Nat.le_of_ble_eq_true rfl) (fun _ _ => rfl) (Nat.le_of_ble_eq_true rfl) (Nat.le_of_ble_eq_true rfl) dX1_copyFrom_12 (fun H locs hP hD hS => ?_)
  have hr_4 : FV (va_cpy g_q g_o (Int32.toNatClampNeg 0) (Int32.toNatClampNeg 0) (Int32.toNatClampNeg 63)) := FV.cong h_g_q (fun i hi => k_cpy hi)
  generalize va_cpy g_q g_o (Int32.toNatClampNeg 0) (Int32.toNatClampNeg 0) (Int32.toNatClampNeg 63) = fn_3 at hP hD hr_4
  have hP : va_P D vwCl [(o, .inr (1, [.ref o_c])), (o_c, .inl (cy 0, 63, .inl fn_3)), (q, .inr (1, [.ref q_c])), (q_c, .inl (cy 0, 63, .inl g_q))] H := hP
  have hD : va_D A [(o, .inr (1, [.ref o_c])), (o_c, .inl (cy 0, 63, .inl fn_3)), (q, .inr (1, [.ref q_c])), (q_c, .inl (cy 0, 63, .inl g_q))] := hD
  obtain ⟨⟨b_5a, b_5b⟩, ⟨b_5c, b_5d⟩, ⟨b_5e, b_5f⟩⟩ := FV.bounds hr_4
  exact KV.rt fn_3 F (hP.sub [0, 1, 2, 3] rfl) (hD.sub [0, 1, 2, 3] (by decide) rfl) hS (show FV fn_3 from hr_4) (Nat.le_of_ble_eq_true rfl) (Nat.le_of_ble_eq_true rfl) dX1_copyFrom_15

set_option maxHeartbeats 4000000 in
set_option maxRecDepth 100000 in
theorem cc_X5_isFull (l : Launch) (D : va_G) (cy : Nat → ClassId) (o : Nat) (o_r : Nat) (o_a : Nat) (o_p : Nat) (o_size : Int32) (g_or : Nat → Int32) (g_oa : Nat → Int32) (g_op : Nat → Int32) (h_g_or : NRV g_or) (h_g_oa : NV g_oa) : KP l yX5_isFull cX5_isFull 1 (some .boolean) 0 0 D (kTY cy) [.ref o] [(o, .inr (5, [.ref o_r, .ref o_a, .ref o_p, .int o_size])), (o_r, .inl (cy 0, 10, .inl g_or)), (o_a, .inl (cy 0, 10, .inl g_oa)), (o_p, .inl (cy 0, 10, .inl g_op))] (fun r => (r.toInt = 0 ∨ r.toInt = 1) ∧ ((r.toInt ≠ 0 → 10 ≤ o_size.toInt)) ∧ ((r.toInt = 0 → o_size.toInt < 10))) := by
  refine KP.of (by decide) (Nat.le_of_ble_eq_true rfl) (fun p e s m below meth c ls F hE hP hl => ?_)
  have F : kF p s m meth c cX5_isFull 1 (some .boolean) _ RX5 := F
  obtain ⟨hx, hb, hr, hml, hown, hG, hlk⟩ := id F
  have hl : lv_has ls 1 [(0, .ref o)] := hl
  refine lv_aload_n hx hb dX5_isFull_0 rfl (lv_at hl 0 rfl) ?_
  refine va_get (D := D) (ci := 5) (v := .int o_size) (C := RX5) (T := TX5) (N := 4) hx hb hG inG_X5 hown hE.1 hP 0 rfl rfl 3 (by decide) (hG _ q_f_X5_21) (fun _ h9 => h9) rfl dX5_isFull_1 ?_
  refine lv_bipush (v := 10) hx hb dX5_isFull_4 (by decide) ?_
  refine lv_icmp_lt (tgt := 13) hx hb dX5_isFull_6 (by decide) (fun c_1 => ?_) (fun c_1 => ?_)
  · have ic_1 : o_size.toInt < 10 := k_lt c_1 rfl (by decide)
    refine lv_iconst (v := 0) hx hb dX5_isFull_13 (by decide) ?_
    have lit0 : (0 : Int32).toInt = 0 := by decide
    exact KP.rt F rfl (show ((0 : Int32).toInt = 0 ∨ (0 : Int32).toInt = 1) ∧ (((0 : Int32).toInt ≠ 0 → 10 ≤ o_size.toInt)) ∧ (((0 : Int32).toInt = 0 → o_size.toInt < 10)) from ⟨(by first | omega | assumption), (by first | omega | (intro lq; (first | omega | assumption | rfl | (exfalso; omega)))), (by first | omega | (intro lq; (first | omega | assumption | rfl | (exfalso; omega))))⟩) dX5_isFull_14
  · have ic_1 : 10 ≤ o_size.toInt := k_nlt c_1 rfl (by decide)
    refine lv_iconst (v := 1) hx hb dX5_isFull_9 (by decide) ?_
    refine lv_goto (tgt := 14) hx hb dX5_isFull_10 (by decide) ?_
    have lit0 : (1 : Int32).toInt = 1 := by decide
    exact KP.rt F rfl (show ((1 : Int32).toInt = 0 ∨ (1 : Int32).toInt = 1) ∧ (((1 : Int32).toInt ≠ 0 → 10 ≤ o_size.toInt)) ∧ (((1 : Int32).toInt = 0 → o_size.toInt < 10)) from ⟨(by first | omega | assumption), (by first | omega | (intro lq; (first | omega | assumption | rfl | (exfalso; omega)))), (by first | omega | (intro lq; (first | omega | assumption | rfl | (exfalso; omega))))⟩) dX5_isFull_14

set_option maxHeartbeats 4000000 in
set_option maxRecDepth 100000 in
theorem cc_X5_add (l : Launch) (D : va_G) (cy : Nat → ClassId) (o : Nat) (o_r : Nat) (o_a : Nat) (o_p : Nat) (o_size : Int32) (g_or : Nat → Int32) (g_oa : Nat → Int32) (g_op : Nat → Int32) (x0 : Int32) (x1 : Int32) (x2 : Int32) (h_g_or : NRV g_or) (h_g_oa : NV g_oa) (p0 : 0 ≤ o_size.toInt) (p1 : o_size.toInt ≤ 10) (p2 : 0 ≤ x1.toInt) (p3 : x1.toInt ≤ 4) (p4 : x0.toInt ≤ 40) : KV l yX5_add cX5_add 4 1 20 D (kTY cy) [.ref o, .int x0, .int x1, .int x2] [(o, .inr (5, [.ref o_r, .ref o_a, .ref o_p, .int o_size])), (o_r, .inl (cy 0, 10, .inl g_or)), (o_a, .inl (cy 0, 10, .inl g_oa)), (o_p, .inl (cy 0, 10, .inl g_op))] (S := Int32 × (Nat → Int32) × (Nat → Int32) × (Nat → Int32)) (fun u => NRV (u.2.1) ∧ NV (u.2.2.1) ∧ (0 ≤ (u.1).toInt) ∧ ((u.1).toInt ≤ 10)) (fun u => [(o, .inr (5, [.ref o_r, .ref o_a, .ref o_p, .int (u.1)])), (o_r, .inl (cy 0, 10, .inl (u.2.1))), (o_a, .inl (cy 0, 10, .inl (u.2.2.1))), (o_p, .inl (cy 0, 10, .inl (u.2.2.2)))]) 0 0 := by
  refine KV.of (by decide) (Nat.le_of_ble_eq_true rfl) (fun p e s m below meth c ls A F hin hE hP hD hA hS hl => ?_)
  have F : kF p s m meth c cX5_add 4 none _ RX5 := F
  obtain ⟨hx, hb, hr, hml, hown, hG, hlk⟩ := id F
  have hl : lv_has ls 4 [(0, .ref o), (1, .int x0), (2, .int x1), (3, .int x2)] := hl
  refine lv_aload_n hx hb dX5_add_0 rfl (lv_at hl 0 rfl) ?_
  refine kcV (As := []) (rest := []) F hE hP hl.1 (cc_X5_isFull l D cy (o := o) (o_r := o_r) (o_a := o_a) (o_p := o_p) (o_size := o_size) (g_or := g_or) (g_oa := g_oa) (g_op := g_op) (h_g_or := h_g_or) (h_g_oa := h_g_oa)) q_m_X5_31 mv_X5_isFull ⟨(Nat.le_of_ble_eq_true rfl), (Nat.le_of_ble_eq_true rfl)⟩ [0, 1, 2, 3] rfl rfl rfl rfl rfl rfl (Nat.le_of_ble_eq_true rfl) ⟨(Nat.le_of_ble_eq_true rfl), (Nat.le_of_ble_eq_true rfl)⟩ dX5_add_1 (fun r_1 er_1 => ?_)
  have er_1 : (r_1.toInt = 0 ∨ r_1.toInt = 1) ∧ ((r_1.toInt ≠ 0 → 10 ≤ o_size.toInt)) ∧ ((r_1.toInt = 0 → o_size.toInt < 10)) := er_1
  obtain ⟨er_1a, er_1b, er_1c⟩ := er_1
  refine lv_if_ne (tgt := 47) hx hb dX5_add_4 (by decide) (fun c_2 => ?_) (fun c_2 => ?_)
  · have ic_2 : r_1.toInt ≠ 0 := k_ne c_2 rfl (by decide)
    have fc_2 := er_1b ic_2
    clear er_1b er_1c er_1a
    exact KV.rt ⟨o_size, g_or, g_oa, g_op⟩ F (hP.sub [0, 1, 2, 3] rfl) (hD.sub [0, 1, 2, 3] (by decide) rfl) hS (show NRV g_or ∧ NV g_oa ∧ (0 ≤ o_size.toInt) ∧ (o_size.toInt ≤ 10) from ⟨h_g_or, h_g_oa, (by first | omega | assumption), (by first | omega | assumption)⟩) (Nat.le_of_ble_eq_true rfl) (Nat.le_of_ble_eq_true rfl) dX5_add_47
  · have ic_2 : r_1.toInt = 0 := k_eq c_2 rfl (by decide)
    have fc_2 := er_1c ic_2
    clear er_1b er_1c er_1a
    refine lv_aload_n hx hb dX5_add_7 rfl (lv_at hl 0 rfl) ?_
    refine va_get (D := D) (ci := 5) (v := .ref o_r) (C := RX5) (T := TX5) (N := 4) hx hb hG inG_X5 hown hE.1 hP 0 rfl rfl 0 (by decide) (hG _ q_f_X5_11) (fun _ h9 => h9) rfl dX5_add_8 ?_
    refine lv_aload_n hx hb dX5_add_11 rfl (lv_at hl 0 rfl) ?_
    refine va_get (D := D) (ci := 5) (v := .int o_size) (C := RX5) (T := TX5) (N := 4) hx hb hG inG_X5 hown hE.1 hP 0 rfl rfl 3 (by decide) (hG _ q_f_X5_21) (fun _ h9 => h9) rfl dX5_add_12 ?_
    refine lv_iload_n hx hb dX5_add_15 rfl (lv_at hl 1 rfl) ?_
    refine va_iast hx hb hE.1 hP hD hS 1 0 rfl rfl (k_in (by omega)) dX5_add_16 (fun H locs hP hD hS => ?_)
    have hr_4 : NRV (upd g_or (Int32.toNatClampNeg o_size) x0) := NRV.put h_g_or _ x0 (by omega)
    generalize upd g_or (Int32.toNatClampNeg o_size) x0 = fn_3 at hP hD hr_4
    have hP : va_P D vwCl [(o, .inr (5, [.ref o_r, .ref o_a, .ref o_p, .int o_size])), (o_r, .inl (cy 0, 10, .inl fn_3)), (o_a, .inl (cy 0, 10, .inl g_oa)), (o_p, .inl (cy 0, 10, .inl g_op))] H := hP
    have hD : va_D A [(o, .inr (5, [.ref o_r, .ref o_a, .ref o_p, .int o_size])), (o_r, .inl (cy 0, 10, .inl fn_3)), (o_a, .inl (cy 0, 10, .inl g_oa)), (o_p, .inl (cy 0, 10, .inl g_op))] := hD
    refine lv_aload_n hx hb dX5_add_17 rfl (lv_at hl 0 rfl) ?_
    refine va_get (D := D) (ci := 5) (v := .ref o_a) (C := RX5) (T := TX5) (N := 4) hx hb hG inG_X5 hown hE.1 hP 0 rfl rfl 1 (by decide) (hG _ q_f_X5_15) (fun _ h9 => h9) rfl dX5_add_18 ?_
    refine lv_aload_n hx hb dX5_add_21 rfl (lv_at hl 0 rfl) ?_
    refine va_get (D := D) (ci := 5) (v := .int o_size) (C := RX5) (T := TX5) (N := 4) hx hb hG inG_X5 hown hE.1 hP 0 rfl rfl 3 (by decide) (hG _ q_f_X5_21) (fun _ h9 => h9) rfl dX5_add_22 ?_
    refine lv_iload_n hx hb dX5_add_25 rfl (lv_at hl 2 rfl) ?_
    refine va_iast hx hb hE.1 hP hD hS 2 0 rfl rfl (k_in (by omega)) dX5_add_26 (fun H locs hP hD hS => ?_)
    have hr_6 : NV (upd g_oa (Int32.toNatClampNeg o_size) x1) := NV.put h_g_oa _ x1 (by omega)
    generalize upd g_oa (Int32.toNatClampNeg o_size) x1 = fn_5 at hP hD hr_6
    have hP : va_P D vwCl [(o, .inr (5, [.ref o_r, .ref o_a, .ref o_p, .int o_size])), (o_r, .inl (cy 0, 10, .inl fn_3)), (o_a, .inl (cy 0, 10, .inl fn_5)), (o_p, .inl (cy 0, 10, .inl g_op))] H := hP
    have hD : va_D A [(o, .inr (5, [.ref o_r, .ref o_a, .ref o_p, .int o_size])), (o_r, .inl (cy 0, 10, .inl fn_3)), (o_a, .inl (cy 0, 10, .inl fn_5)), (o_p, .inl (cy 0, 10, .inl g_op))] := hD
    refine lv_aload_n hx hb dX5_add_27 rfl (lv_at hl 0 rfl) ?_
    refine va_get (D := D) (ci := 5) (v := .ref o_p) (C := RX5) (T := TX5) (N := 4) hx hb hG inG_X5 hown hE.1 hP 0 rfl rfl 2 (by decide) (hG _ q_f_X5_18) (fun _ h9 => h9) rfl dX5_add_28 ?_
    refine lv_aload_n hx hb dX5_add_31 rfl (lv_at hl 0 rfl) ?_
    refine va_get (D := D) (ci := 5) (v := .int o_size) (C := RX5) (T := TX5) (N := 4) hx hb hG inG_X5 hown hE.1 hP 0 rfl rfl 3 (by decide) (hG _ q_f_X5_21) (fun _ h9 => h9) rfl dX5_add_32 ?_
    refine lv_iload_n hx hb dX5_add_35 rfl (lv_at hl 3 rfl) ?_
    refine va_iast hx hb hE.1 hP hD hS 3 0 rfl rfl (k_in (by omega)) dX5_add_36 (fun H locs hP hD hS => ?_)
    generalize upd g_op (Int32.toNatClampNeg o_size) x2 = fn_7 at hP hD
    have hP : va_P D vwCl [(o, .inr (5, [.ref o_r, .ref o_a, .ref o_p, .int o_size])), (o_r, .inl (cy 0, 10, .inl fn_3)), (o_a, .inl (cy 0, 10, .inl fn_5)), (o_p, .inl (cy 0, 10, .inl fn_7))] H := hP
    have hD : va_D A [(o, .inr (5, [.ref o_r, .ref o_a, .ref o_p, .int o_size])), (o_r, .inl (cy 0, 10, .inl fn_3)), (o_a, .inl (cy 0, 10, .inl fn_5)), (o_p, .inl (cy 0, 10, .inl fn_7))] := hD
    refine lv_aload_n hx hb dX5_add_37 rfl (lv_at hl 0 rfl) ?_
    refine lv_dup hx hb dX5_add_38 rfl ?_
    refine va_get (D := D) (ci := 5) (v := .int o_size) (C := RX5) (T := TX5) (N := 4) hx hb hG inG_X5 hown hE.1 hP 0 rfl rfl 3 (by decide) (hG _ q_f_X5_21) (fun _ h9 => h9) rfl dX5_add_39 ?_
    refine lv_iconst (v := 1) hx hb dX5_add_42 (by decide) ?_
    refine lv_iadd hx hb dX5_add_43 ?_
    refine lv_topi (fun z_8 ez_8 => ?_)
    have iz_8 : z_8.toInt = o_size.toInt + 1 := k_addI ez_8 rfl (by decide) (by omega)
    refine va_put (D := D) (ci := 5) (v := .int z_8) (ty := .int) (C := RX5) (T := TX5) (N := 4) hx hb hG inG_X5 tyX5 tyX5_ok nmX5 hown hE.1 hP hD hS 0 rfl rfl 3 (by decide) (hG _ q_f_X5_21) (fun _ h9 => h9) rfl (by decide +kernel) rfl rfl (Nat.le_of_ble_eq_true rfl) dX5_add_44 (fun H locs hP hD hS => ?_)
    have hP : va_P D vwCl [(o, .inr (5, [.ref o_r, .ref o_a, .ref o_p, .int z_8])), (o_r, .inl (cy 0, 10, .inl fn_3)), (o_a, .inl (cy 0, 10, .inl fn_5)), (o_p, .inl (cy 0, 10, .inl fn_7))] H := hP
    have hD : va_D A [(o, .inr (5, [.ref o_r, .ref o_a, .ref o_p, .int z_8])), (o_r, .inl (cy 0, 10, .inl fn_3)), (o_a, .inl (cy 0, 10, .inl fn_5)), (o_p, .inl (cy 0, 10, .inl fn_7))] := hD
    exact KV.rt ⟨z_8, fn_3, fn_5, fn_7⟩ F (hP.sub [0, 1, 2, 3] rfl) (hD.sub [0, 1, 2, 3] (by decide) rfl) hS (show NRV fn_3 ∧ NV fn_5 ∧ (0 ≤ z_8.toInt) ∧ (z_8.toInt ≤ 10) from ⟨hr_4, hr_6, (by first | omega | assumption), (by first | omega | assumption)⟩) (Nat.le_of_ble_eq_true rfl) (Nat.le_of_ble_eq_true rfl) dX5_add_47

set_option maxHeartbeats 4000000 in
set_option maxRecDepth 100000 in
theorem cc_X5_lastRound (l : Launch) (D : va_G) (cy : Nat → ClassId) (o : Nat) (o_r : Nat) (o_a : Nat) (o_p : Nat) (o_size : Int32) (g_or : Nat → Int32) (g_oa : Nat → Int32) (g_op : Nat → Int32) (h_g_or : NRV g_or) (h_g_oa : NV g_oa) (p0 : 0 ≤ o_size.toInt) (p1 : o_size.toInt ≤ 10) : KP l yX5_lastRound cX5_lastRound 3 (some .int) 1 14 D (kTY cy) [.ref o] [(o, .inr (5, [.ref o_r, .ref o_a, .ref o_p, .int o_size])), (o_r, .inl (cy 0, 10, .inl g_or)), (o_a, .inl (cy 0, 10, .inl g_oa)), (o_p, .inl (cy 0, 10, .inl g_op))] (fun r => (-1 ≤ r.toInt) ∧ (r.toInt ≤ 40)) := by
  refine KP.of (by decide) (Nat.le_of_ble_eq_true rfl) (fun p e s m below meth c ls F hE hP hl => ?_)
  have F : kF p s m meth c cX5_lastRound 3 (some .int) _ RX5 := F
  obtain ⟨hx, hb, hr, hml, hown, hG, hlk⟩ := id F
  have hl : lv_has ls 3 [(0, .ref o)] := hl
  refine lv_iconst (v := (-1)) hx hb dX5_lastRound_0 (by decide) ?_
  refine lv_istore_n (lv' := [(1, .int (-1)), (0, .ref o)]) hx hb dX5_lastRound_1 rfl hl (by decide) rfl (fun ls hl => ?_)
  refine lv_iconst (v := 0) hx hb dX5_lastRound_2 (by decide) ?_
  refine lv_istore_n (lv' := [(2, .int 0), (1, .int (-1)), (0, .ref o)]) hx hb dX5_lastRound_3 rfl hl (by decide) rfl (fun ls hl => ?_)
  have lp4 : ∀ (fu : Nat) (v2_4 : Int32) (v1_4 : Int32) (ls : Array Slot), (0 ≤ v2_4.toInt) → (v2_4.toInt ≤ 10) → (-1 ≤ v1_4.toInt) → (v1_4.toInt ≤ 40) → 10 - v2_4.toInt < (fu : Int) → lv_has ls 3 [(2, .int v2_4), (1, .int v1_4), (0, .ref o)] → W p l e (kR 1 14) s m ([.ref o] : List Value).toArray below meth c s.heap [] 0 0 (MQ below (kQ (fun r => (-1 ≤ r.toInt) ∧ (r.toInt ≤ 40))) ([.ref o] : List Value).toArray s 0 0 (fun _ => False)) (F0 m 4 ls []) := by
    intro fu4
    induction fu4 with
    | zero =>
      intro v2_4 v1_4 ls j0_4 j1_4 j2_4 j3_4 hm4 hl
      exact absurd hm4 (by omega)
    | succ fu4 ih4 =>
      intro v2_4 v1_4 ls j0_4 j1_4 j2_4 j3_4 hm4 hl
      refine lv_iload_n hx hb dX5_lastRound_4 rfl (lv_at hl 0 rfl) ?_
      refine lv_aload_n hx hb dX5_lastRound_5 rfl (lv_at hl 2 rfl) ?_
      refine va_get (D := D) (ci := 5) (v := .int o_size) (C := RX5) (T := TX5) (N := 4) hx hb hG inG_X5 hown hE.1 hP 0 rfl rfl 3 (by decide) (hG _ q_f_X5_21) (fun _ h9 => h9) rfl dX5_lastRound_6 ?_
      refine lv_icmp_ge (tgt := 29) hx hb dX5_lastRound_9 (by decide) (fun c_1 => ?_) (fun c_1 => ?_)
      · have ic_1 : o_size.toInt ≤ v2_4.toInt := k_le c_1 rfl rfl
        refine lv_iload_n hx hb dX5_lastRound_29 rfl (lv_at hl 1 rfl) ?_
        exact KP.rt F rfl (show (-1 ≤ v1_4.toInt) ∧ (v1_4.toInt ≤ 40) from ⟨(by first | omega | assumption), (by first | omega | assumption)⟩) dX5_lastRound_30
      · have ic_1 : v2_4.toInt < o_size.toInt := k_nle c_1 rfl rfl
        refine lv_iload_n hx hb dX5_lastRound_12 rfl (lv_at hl 1 rfl) ?_
        refine lv_aload_n hx hb dX5_lastRound_13 rfl (lv_at hl 2 rfl) ?_
        refine va_get (D := D) (ci := 5) (v := .ref o_r) (C := RX5) (T := TX5) (N := 4) hx hb hG inG_X5 hown hE.1 hP 0 rfl rfl 0 (by decide) (hG _ q_f_X5_11) (fun _ h9 => h9) rfl dX5_lastRound_14 ?_
        refine lv_iload_n hx hb dX5_lastRound_17 rfl (lv_at hl 0 rfl) ?_
        refine va_iald hx hb hE.1 hP 1 0 rfl rfl (k_in (by omega)) dX5_lastRound_18 ?_
        refine k_top (z := (g_or (Int32.toNatClampNeg v2_4))) rfl ?_
        have nr_2 := NRV.at h_g_or v2_4 (by omega)
        refine va_mmax hx hb (by rw [hml]; exact hl.1.symm) hown (hG _ q_m_X5_35) (hG _ q_s_J9_max_7cf53) (hG _ q_z_J9) (hG _ q_c_J9_max_7cf53) (Nat.le_of_ble_eq_true rfl) (Nat.le_of_ble_eq_true rfl) (Nat.le_of_ble_eq_true rfl) (Nat.le_of_ble_eq_true rfl) dX5_lastRound_19 ?_
        refine lv_topi (fun z_3 ez_3 => ?_)
        obtain ⟨iz_3a, iz_3b, iz_3c⟩ := k_maxI (a := v1_4.toInt) (b := (g_or (Int32.toNatClampNeg v2_4)).toInt) ez_3 rfl rfl
        refine lv_istore_n (lv' := [(1, .int z_3), (2, .int v2_4), (0, .ref o)]) hx hb dX5_lastRound_22 rfl hl (by decide) rfl (fun ls hl => ?_)
        obtain ⟨z_4, ez_4⟩ : ∃ y : Int32, y = v2_4 + Int32.ofInt 1 := ⟨_, rfl⟩
        have iz_4 : z_4.toInt = v2_4.toInt + 1 := k_addI ez_4 rfl (by decide) (by omega)
        refine lv_iinc (v := z_4) (lv' := [(2, .int z_4), (1, .int z_3), (0, .ref o)]) hx hb dX5_lastRound_23 hl (k := 1) rfl ez_4.symm (by decide) rfl (fun ls hl => ?_)
        refine lv_goto (tgt := 4) hx hb dX5_lastRound_26 (by decide) ?_
        exact ih4 z_4 z_3 ls (by first | omega | assumption) (by first | omega | assumption) (by first | omega | assumption) (by first | omega | assumption) (by omega) (lv_sub hl [0, 1, 2] rfl)
  have lt_5 : ((-1) : Int32).toInt = (-1) := by decide
  have lt_6 : (0 : Int32).toInt = 0 := by decide
  exact lp4 100000 0 (-1) ls (by first | omega | assumption) (by first | omega | assumption) (by first | omega | assumption) (by first | omega | assumption) (by omega) hl

set_option maxHeartbeats 4000000 in
set_option maxRecDepth 100000 in
theorem cc_X5_agree (l : Launch) (D : va_G) (cy : Nat → ClassId) (o : Nat) (o_r : Nat) (o_a : Nat) (o_p : Nat) (o_size : Int32) (g_or : Nat → Int32) (g_oa : Nat → Int32) (g_op : Nat → Int32) (ca : Nat) (g_ca : Nat → Int32) (x0 : Int32) (h_g_or : NRV g_or) (h_g_oa : NV g_oa) (p0 : 0 ≤ o_size.toInt) (p1 : o_size.toInt ≤ 10) : KP l yX5_agree cX5_agree 4 (some .boolean) 0 0 D (kTY cy) [.ref o, .int x0, .ref ca] [(o, .inr (5, [.ref o_r, .ref o_a, .ref o_p, .int o_size])), (o_r, .inl (cy 0, 10, .inl g_or)), (o_a, .inl (cy 0, 10, .inl g_oa)), (o_p, .inl (cy 0, 10, .inl g_op)), (ca, .inl (cy 0, 5, .inl g_ca))] (fun r => (r.toInt = 0 ∨ r.toInt = 1)) := by
  refine KP.of (by decide) (Nat.le_of_ble_eq_true rfl) (fun p e s m below meth c ls F hE hP hl => ?_)
  have F : kF p s m meth c cX5_agree 4 (some .boolean) _ RX5 := F
  obtain ⟨hx, hb, hr, hml, hown, hG, hlk⟩ := id F
  have hl : lv_has ls 4 [(0, .ref o), (1, .int x0), (2, .ref ca)] := hl
  refine lv_iconst (v := 0) hx hb dX5_agree_0 (by decide) ?_
  refine lv_istore_n (lv' := [(3, .int 0), (0, .ref o), (1, .int x0), (2, .ref ca)]) hx hb dX5_agree_1 rfl hl (by decide) rfl (fun ls hl => ?_)
  have lp2 : ∀ (fu : Nat) (v3_2 : Int32) (ls : Array Slot), (0 ≤ v3_2.toInt) → (v3_2.toInt ≤ 10) → 10 - v3_2.toInt < (fu : Int) → lv_has ls 4 [(3, .int v3_2), (0, .ref o), (1, .int x0), (2, .ref ca)] → W p l e (kR 0 0) s m ([.ref o, .int x0, .ref ca] : List Value).toArray below meth c s.heap [] 0 0 (MQ below (kQ (fun r => (r.toInt = 0 ∨ r.toInt = 1))) ([.ref o, .int x0, .ref ca] : List Value).toArray s 0 0 (fun _ => False)) (F0 m 2 ls []) := by
    intro fu2
    induction fu2 with
    | zero =>
      intro v3_2 ls j0_2 j1_2 hm2 hl
      exact absurd hm2 (by omega)
    | succ fu2 ih2 =>
      intro v3_2 ls j0_2 j1_2 hm2 hl
      refine lv_iload_n hx hb dX5_agree_2 rfl (lv_at hl 0 rfl) ?_
      refine lv_aload_n hx hb dX5_agree_3 rfl (lv_at hl 1 rfl) ?_
      refine va_get (D := D) (ci := 5) (v := .int o_size) (C := RX5) (T := TX5) (N := 4) hx hb hG inG_X5 hown hE.1 hP 0 rfl rfl 3 (by decide) (hG _ q_f_X5_21) (fun _ h9 => h9) rfl dX5_agree_4 ?_
      refine lv_icmp_ge (tgt := 45) hx hb dX5_agree_7 (by decide) (fun c_1 => ?_) (fun c_1 => ?_)
      · have ic_1 : o_size.toInt ≤ v3_2.toInt := k_le c_1 rfl rfl
        refine lv_iconst (v := 1) hx hb dX5_agree_45 (by decide) ?_
        have lit0 : (1 : Int32).toInt = 1 := by decide
        exact KP.rt F rfl (show ((1 : Int32).toInt = 0 ∨ (1 : Int32).toInt = 1) from (by first | omega | assumption)) dX5_agree_46
      · have ic_1 : v3_2.toInt < o_size.toInt := k_nle c_1 rfl rfl
        refine lv_aload_n hx hb dX5_agree_10 rfl (lv_at hl 1 rfl) ?_
        refine va_get (D := D) (ci := 5) (v := .ref o_r) (C := RX5) (T := TX5) (N := 4) hx hb hG inG_X5 hown hE.1 hP 0 rfl rfl 0 (by decide) (hG _ q_f_X5_11) (fun _ h9 => h9) rfl dX5_agree_11 ?_
        refine lv_iload_n hx hb dX5_agree_14 rfl (lv_at hl 0 rfl) ?_
        refine va_iald hx hb hE.1 hP 1 0 rfl rfl (k_in (by omega)) dX5_agree_15 ?_
        refine k_top (z := (g_or (Int32.toNatClampNeg v3_2))) rfl ?_
        have nr_2 := NRV.at h_g_or v3_2 (by omega)
        refine lv_iload_n hx hb dX5_agree_16 rfl (lv_at hl 2 rfl) ?_
        refine lv_icmp_ne (tgt := 39) hx hb dX5_agree_17 (by decide) (fun c_3 => ?_) (fun c_3 => ?_)
        · have ic_3 : (g_or (Int32.toNatClampNeg v3_2)).toInt ≠ x0.toInt := k_ne c_3 rfl rfl
          obtain ⟨z_4, ez_4⟩ : ∃ y : Int32, y = v3_2 + Int32.ofInt 1 := ⟨_, rfl⟩
          have iz_4 : z_4.toInt = v3_2.toInt + 1 := k_addI ez_4 rfl (by decide) (by omega)
          refine lv_iinc (v := z_4) (lv' := [(3, .int z_4), (0, .ref o), (1, .int x0), (2, .ref ca)]) hx hb dX5_agree_39 hl (k := 0) rfl ez_4.symm (by decide) rfl (fun ls hl => ?_)
          refine lv_goto (tgt := 2) hx hb dX5_agree_42 (by decide) ?_
          exact ih2 z_4 ls (by first | omega | assumption) (by first | omega | assumption) (by omega) (lv_sub hl [0, 1, 2, 3] rfl)
        · have ic_3 : (g_or (Int32.toNatClampNeg v3_2)).toInt = x0.toInt := k_eq c_3 rfl rfl
          refine lv_aload_n hx hb dX5_agree_20 rfl (lv_at hl 3 rfl) ?_
          refine lv_aload_n hx hb dX5_agree_21 rfl (lv_at hl 1 rfl) ?_
          refine va_get (D := D) (ci := 5) (v := .ref o_a) (C := RX5) (T := TX5) (N := 4) hx hb hG inG_X5 hown hE.1 hP 0 rfl rfl 1 (by decide) (hG _ q_f_X5_15) (fun _ h9 => h9) rfl dX5_agree_22 ?_
          refine lv_iload_n hx hb dX5_agree_25 rfl (lv_at hl 0 rfl) ?_
          refine va_iald hx hb hE.1 hP 2 0 rfl rfl (k_in (by omega)) dX5_agree_26 ?_
          refine k_top (z := (g_oa (Int32.toNatClampNeg v3_2))) rfl ?_
          have na_5 := NV.at h_g_oa v3_2 (by omega)
          refine va_iald hx hb hE.1 hP 4 0 rfl rfl (k_in (by omega)) dX5_agree_27 ?_
          refine k_top (z := (g_ca (Int32.toNatClampNeg (g_oa (Int32.toNatClampNeg v3_2))))) rfl ?_
          refine lv_aload_n hx hb dX5_agree_28 rfl (lv_at hl 1 rfl) ?_
          refine va_get (D := D) (ci := 5) (v := .ref o_p) (C := RX5) (T := TX5) (N := 4) hx hb hG inG_X5 hown hE.1 hP 0 rfl rfl 2 (by decide) (hG _ q_f_X5_18) (fun _ h9 => h9) rfl dX5_agree_29 ?_
          refine lv_iload_n hx hb dX5_agree_32 rfl (lv_at hl 0 rfl) ?_
          refine va_iald hx hb hE.1 hP 3 0 rfl rfl (k_in (by omega)) dX5_agree_33 ?_
          refine k_top (z := (g_op (Int32.toNatClampNeg v3_2))) rfl ?_
          refine lv_icmp_eq (tgt := 39) hx hb dX5_agree_34 (by decide) (fun c_6 => ?_) (fun c_6 => ?_)
          · have ic_6 : (g_ca (Int32.toNatClampNeg (g_oa (Int32.toNatClampNeg v3_2)))).toInt = (g_op (Int32.toNatClampNeg v3_2)).toInt := k_eq c_6 rfl rfl
            obtain ⟨z_7, ez_7⟩ : ∃ y : Int32, y = v3_2 + Int32.ofInt 1 := ⟨_, rfl⟩
            have iz_7 : z_7.toInt = v3_2.toInt + 1 := k_addI ez_7 rfl (by decide) (by omega)
            refine lv_iinc (v := z_7) (lv' := [(3, .int z_7), (0, .ref o), (1, .int x0), (2, .ref ca)]) hx hb dX5_agree_39 hl (k := 0) rfl ez_7.symm (by decide) rfl (fun ls hl => ?_)
            refine lv_goto (tgt := 2) hx hb dX5_agree_42 (by decide) ?_
            exact ih2 z_7 ls (by first | omega | assumption) (by first | omega | assumption) (by omega) (lv_sub hl [0, 1, 2, 3] rfl)
          · have ic_6 : (g_ca (Int32.toNatClampNeg (g_oa (Int32.toNatClampNeg v3_2)))).toInt ≠ (g_op (Int32.toNatClampNeg v3_2)).toInt := k_ne c_6 rfl rfl
            refine lv_iconst (v := 0) hx hb dX5_agree_37 (by decide) ?_
            have lit0 : (0 : Int32).toInt = 0 := by decide
            exact KP.rt F rfl (show ((0 : Int32).toInt = 0 ∨ (0 : Int32).toInt = 1) from (by first | omega | assumption)) dX5_agree_38
  have lt_8 : (0 : Int32).toInt = 0 := by decide
  exact lp2 100000 0 ls (by first | omega | assumption) (by first | omega | assumption) (by omega) hl

set_option maxHeartbeats 4000000 in
set_option maxRecDepth 100000 in
theorem cc_X5_copyFrom (l : Launch) (D : va_G) (cy : Nat → ClassId) (o : Nat) (o_r : Nat) (o_a : Nat) (o_p : Nat) (o_size : Int32) (g_or : Nat → Int32) (g_oa : Nat → Int32) (g_op : Nat → Int32) (q : Nat) (q_r : Nat) (q_a : Nat) (q_p : Nat) (q_size : Int32) (g_qr : Nat → Int32) (g_qa : Nat → Int32) (g_qp : Nat → Int32) (h_g_or : NRV g_or) (h_g_oa : NV g_oa) (h_g_qr : NRV g_qr) (h_g_qa : NV g_qa) (p0 : 0 ≤ o_size.toInt) (p1 : o_size.toInt ≤ 10) (p2 : 0 ≤ q_size.toInt) (p3 : q_size.toInt ≤ 10) : KV l yX5_copyFrom cX5_copyFrom 2 1 40 D (kTY cy) [.ref o, .ref q] [(o, .inr (5, [.ref o_r, .ref o_a, .ref o_p, .int o_size])), (o_r, .inl (cy 0, 10, .inl g_or)), (o_a, .inl (cy 0, 10, .inl g_oa)), (o_p, .inl (cy 0, 10, .inl g_op)), (q, .inr (5, [.ref q_r, .ref q_a, .ref q_p, .int q_size])), (q_r, .inl (cy 0, 10, .inl g_qr)), (q_a, .inl (cy 0, 10, .inl g_qa)), (q_p, .inl (cy 0, 10, .inl g_qp))] (S := Int32 × (Nat → Int32) × (Nat → Int32) × (Nat → Int32)) (fun u => NRV (u.2.1) ∧ NV (u.2.2.1) ∧ ((u.1) = q_size)) (fun u => [(o, .inr (5, [.ref o_r, .ref o_a, .ref o_p, .int (u.1)])), (o_r, .inl (cy 0, 10, .inl (u.2.1))), (o_a, .inl (cy 0, 10, .inl (u.2.2.1))), (o_p, .inl (cy 0, 10, .inl (u.2.2.2))), (q, .inr (5, [.ref q_r, .ref q_a, .ref q_p, .int q_size])), (q_r, .inl (cy 0, 10, .inl g_qr)), (q_a, .inl (cy 0, 10, .inl g_qa)), (q_p, .inl (cy 0, 10, .inl g_qp))]) 0 0 := by
  refine KV.of (by decide) (Nat.le_of_ble_eq_true rfl) (fun p e s m below meth c ls A F hin hE hP hD hA hS hl => ?_)
  have F : kF p s m meth c cX5_copyFrom 2 none _ RX5 := F
  obtain ⟨hx, hb, hr, hml, hown, hG, hlk⟩ := id F
  have hl : lv_has ls 2 [(0, .ref o), (1, .ref q)] := hl
  refine lv_aload_n hx hb dX5_copyFrom_0 rfl (lv_at hl 1 rfl) ?_
  refine va_get (D := D) (ci := 5) (v := .ref q_r) (C := RX5) (T := TX5) (N := 4) hx hb hG inG_X5 hown hE.1 hP 4 rfl rfl 0 (by decide) (hG _ q_f_X5_11) (fun _ h9 => h9) rfl dX5_copyFrom_1 ?_
  refine lv_iconst (v := 0) hx hb dX5_copyFrom_4 (by decide) ?_
  refine lv_aload_n hx hb dX5_copyFrom_5 rfl (lv_at hl 0 rfl) ?_
  refine va_get (D := D) (ci := 5) (v := .ref o_r) (C := RX5) (T := TX5) (N := 4) hx hb hG inG_X5 hown hE.1 hP 0 rfl rfl 0 (by decide) (hG _ q_f_X5_11) (fun _ h9 => h9) rfl dX5_copyFrom_6 ?_
  refine lv_iconst (v := 0) hx hb dX5_copyFrom_9 (by decide) ?_
  refine lv_bipush (v := 10) hx hb dX5_copyFrom_10 (by decide) ?_
  refine va_copyi (ty := .int) hx hb (by rw [hml]; exact hl.1.symm) hown (hG _ q_m_X5_25) (hG _ q_n_arraycopyName) (hG _ q_s_arraycopyName) (hG _ q_z_J10) hE.1 hP hD hS 5 1 0 0 rfl rfl rfl rfl rfl (by decide) (by decide) (by decide) (Nat.le_of_ble_eq_true rfl) (Nat.le_of_ble_eq_true rfl) (fun _ _ => rfl) (Nat.le_of_ble_eq_true rfl) (Nat.le_of_ble_eq_true rfl) dX5_copyFrom_12 (fun H locs hP hD hS => ?_)
  have hr_2 : NRV (va_cpy g_qr g_or (Int32.toNatClampNeg 0) (Int32.toNatClampNeg 0) (Int32.toNatClampNeg 10)) := NRV.cong h_g_qr (fun i hi => k_cpy hi)
  generalize va_cpy g_qr g_or (Int32.toNatClampNeg 0) (Int32.toNatClampNeg 0) (Int32.toNatClampNeg 10) = fn_1 at hP hD hr_2
  have hP : va_P D vwCl [(o, .inr (5, [.ref o_r, .ref o_a, .ref o_p, .int o_size])), (o_r, .inl (cy 0, 10, .inl fn_1)), (o_a, .inl (cy 0, 10, .inl g_oa)), (o_p, .inl (cy 0, 10, .inl g_op)), (q, .inr (5, [.ref q_r, .ref q_a, .ref q_p, .int q_size])), (q_r, .inl (cy 0, 10, .inl g_qr)), (q_a, .inl (cy 0, 10, .inl g_qa)), (q_p, .inl (cy 0, 10, .inl g_qp))] H := hP
  have hD : va_D A [(o, .inr (5, [.ref o_r, .ref o_a, .ref o_p, .int o_size])), (o_r, .inl (cy 0, 10, .inl fn_1)), (o_a, .inl (cy 0, 10, .inl g_oa)), (o_p, .inl (cy 0, 10, .inl g_op)), (q, .inr (5, [.ref q_r, .ref q_a, .ref q_p, .int q_size])), (q_r, .inl (cy 0, 10, .inl g_qr)), (q_a, .inl (cy 0, 10, .inl g_qa)), (q_p, .inl (cy 0, 10, .inl g_qp))] := hD
  refine lv_aload_n hx hb dX5_copyFrom_15 rfl (lv_at hl 1 rfl) ?_
  refine va_get (D := D) (ci := 5) (v := .ref q_a) (C := RX5) (T := TX5) (N := 4) hx hb hG inG_X5 hown hE.1 hP 4 rfl rfl 1 (by decide) (hG _ q_f_X5_15) (fun _ h9 => h9) rfl dX5_copyFrom_16 ?_
  refine lv_iconst (v := 0) hx hb dX5_copyFrom_19 (by decide) ?_
  refine lv_aload_n hx hb dX5_copyFrom_20 rfl (lv_at hl 0 rfl) ?_
  refine va_get (D := D) (ci := 5) (v := .ref o_a) (C := RX5) (T := TX5) (N := 4) hx hb hG inG_X5 hown hE.1 hP 0 rfl rfl 1 (by decide) (hG _ q_f_X5_15) (fun _ h9 => h9) rfl dX5_copyFrom_21 ?_
  refine lv_iconst (v := 0) hx hb dX5_copyFrom_24 (by decide) ?_
  refine lv_bipush (v := 10) hx hb dX5_copyFrom_25 (by decide) ?_
  refine va_copyi (ty := .int) hx hb (by rw [hml]; exact hl.1.symm) hown (hG _ q_m_X5_25) (hG _ q_n_arraycopyName) (hG _ q_s_arraycopyName) (hG _ q_z_J10) hE.1 hP hD hS 6 2 0 0 rfl rfl rfl rfl rfl (by decide) (by decide) (by decide) (Nat.le_of_ble_eq_true rfl) (Nat.le_of_ble_eq_true rfl) (fun _ _ => rfl) (Nat.le_of_ble_eq_true rfl) (Nat.le_of_ble_eq_true rfl) dX5_copyFrom_27 (fun H locs hP hD hS => ?_)
  have hr_4 : NV (va_cpy g_qa g_oa (Int32.toNatClampNeg 0) (Int32.toNatClampNeg 0) (Int32.toNatClampNeg 10)) := NV.cong h_g_qa (fun i hi => k_cpy hi)
  generalize va_cpy g_qa g_oa (Int32.toNatClampNeg 0) (Int32.toNatClampNeg 0) (Int32.toNatClampNeg 10) = fn_3 at hP hD hr_4
  have hP : va_P D vwCl [(o, .inr (5, [.ref o_r, .ref o_a, .ref o_p, .int o_size])), (o_r, .inl (cy 0, 10, .inl fn_1)), (o_a, .inl (cy 0, 10, .inl fn_3)), (o_p, .inl (cy 0, 10, .inl g_op)), (q, .inr (5, [.ref q_r, .ref q_a, .ref q_p, .int q_size])), (q_r, .inl (cy 0, 10, .inl g_qr)), (q_a, .inl (cy 0, 10, .inl g_qa)), (q_p, .inl (cy 0, 10, .inl g_qp))] H := hP
  have hD : va_D A [(o, .inr (5, [.ref o_r, .ref o_a, .ref o_p, .int o_size])), (o_r, .inl (cy 0, 10, .inl fn_1)), (o_a, .inl (cy 0, 10, .inl fn_3)), (o_p, .inl (cy 0, 10, .inl g_op)), (q, .inr (5, [.ref q_r, .ref q_a, .ref q_p, .int q_size])), (q_r, .inl (cy 0, 10, .inl g_qr)), (q_a, .inl (cy 0, 10, .inl g_qa)), (q_p, .inl (cy 0, 10, .inl g_qp))] := hD
  refine lv_aload_n hx hb dX5_copyFrom_30 rfl (lv_at hl 1 rfl) ?_
  refine va_get (D := D) (ci := 5) (v := .ref q_p) (C := RX5) (T := TX5) (N := 4) hx hb hG inG_X5 hown hE.1 hP 4 rfl rfl 2 (by decide) (hG _ q_f_X5_18) (fun _ h9 => h9) rfl dX5_copyFrom_31 ?_
  refine lv_iconst (v := 0) hx hb dX5_copyFrom_34 (by decide) ?_
  refine lv_aload_n hx hb dX5_copyFrom_35 rfl (lv_at hl 0 rfl) ?_
  refine va_get (D := D) (ci := 5) (v := .ref o_p) (C := RX5) (T := TX5) (N := 4) hx hb hG inG_X5 hown hE.1 hP 0 rfl rfl 2 (by decide) (hG _ q_f_X5_18) (fun _ h9 => h9) rfl dX5_copyFrom_36 ?_
  refine lv_iconst (v := 0) hx hb dX5_copyFrom_39 (by decide) ?_
  refine lv_bipush (v := 10) hx hb dX5_copyFrom_40 (by decide) ?_
  refine va_copyi (ty := .int) hx hb (by rw [hml]; exact hl.1.symm) hown (hG _ q_m_X5_25) (hG _ q_n_arraycopyName) (hG _ q_s_arraycopyName) (hG _ q_z_J10) hE.1 hP hD hS 7 3 0 0 rfl rfl rfl rfl rfl (by decide) (by decide) (by decide) (Nat.le_of_ble_eq_true rfl) (Nat.le_of_ble_eq_true rfl) (fun _ _ => rfl) (Nat.le_of_ble_eq_true rfl) (Nat.le_of_ble_eq_true rfl) dX5_copyFrom_42 (fun H locs hP hD hS => ?_)
  generalize va_cpy g_qp g_op (Int32.toNatClampNeg 0) (Int32.toNatClampNeg 0) (Int32.toNatClampNeg 10) = fn_5 at hP hD
  have hP : va_P D vwCl [(o, .inr (5, [.ref o_r, .ref o_a, .ref o_p, .int o_size])), (o_r, .inl (cy 0, 10, .inl fn_1)), (o_a, .inl (cy 0, 10, .inl fn_3)), (o_p, .inl (cy 0, 10, .inl fn_5)), (q, .inr (5, [.ref q_r, .ref q_a, .ref q_p, .int q_size])), (q_r, .inl (cy 0, 10, .inl g_qr)), (q_a, .inl (cy 0, 10, .inl g_qa)), (q_p, .inl (cy 0, 10, .inl g_qp))] H := hP
  have hD : va_D A [(o, .inr (5, [.ref o_r, .ref o_a, .ref o_p, .int o_size])), (o_r, .inl (cy 0, 10, .inl fn_1)), (o_a, .inl (cy 0, 10, .inl fn_3)), (o_p, .inl (cy 0, 10, .inl fn_5)), (q, .inr (5, [.ref q_r, .ref q_a, .ref q_p, .int q_size])), (q_r, .inl (cy 0, 10, .inl g_qr)), (q_a, .inl (cy 0, 10, .inl g_qa)), (q_p, .inl (cy 0, 10, .inl g_qp))] := hD
  refine lv_aload_n hx hb dX5_copyFrom_45 rfl (lv_at hl 0 rfl) ?_
  refine lv_aload_n hx hb dX5_copyFrom_46 rfl (lv_at hl 1 rfl) ?_
  refine va_get (D := D) (ci := 5) (v := .int q_size) (C := RX5) (T := TX5) (N := 4) hx hb hG inG_X5 hown hE.1 hP 4 rfl rfl 3 (by decide) (hG _ q_f_X5_21) (fun _ h9 => h9) rfl dX5_copyFrom_47 ?_
  refine va_put (D := D) (ci := 5) (v := .int q_size) (ty := .int) (C := RX5) (T := TX5) (N := 4) hx hb hG inG_X5 tyX5 tyX5_ok nmX5 hown hE.1 hP hD hS 0 rfl rfl 3 (by decide) (hG _ q_f_X5_21) (fun _ h9 => h9) rfl (by decide +kernel) rfl rfl (Nat.le_of_ble_eq_true rfl) dX5_copyFrom_50 (fun H locs hP hD hS => ?_)
  have hP : va_P D vwCl [(o, .inr (5, [.ref o_r, .ref o_a, .ref o_p, .int q_size])), (o_r, .inl (cy 0, 10, .inl fn_1)), (o_a, .inl (cy 0, 10, .inl fn_3)), (o_p, .inl (cy 0, 10, .inl fn_5)), (q, .inr (5, [.ref q_r, .ref q_a, .ref q_p, .int q_size])), (q_r, .inl (cy 0, 10, .inl g_qr)), (q_a, .inl (cy 0, 10, .inl g_qa)), (q_p, .inl (cy 0, 10, .inl g_qp))] H := hP
  have hD : va_D A [(o, .inr (5, [.ref o_r, .ref o_a, .ref o_p, .int q_size])), (o_r, .inl (cy 0, 10, .inl fn_1)), (o_a, .inl (cy 0, 10, .inl fn_3)), (o_p, .inl (cy 0, 10, .inl fn_5)), (q, .inr (5, [.ref q_r, .ref q_a, .ref q_p, .int q_size])), (q_r, .inl (cy 0, 10, .inl g_qr)), (q_a, .inl (cy 0, 10, .inl g_qa)), (q_p, .inl (cy 0, 10, .inl g_qp))] := hD
  exact KV.rt ⟨q_size, fn_1, fn_3, fn_5⟩ F (hP.sub [0, 1, 2, 3, 4, 5, 6, 7] rfl) (hD.sub [0, 1, 2, 3, 4, 5, 6, 7] (by decide) rfl) hS (show NRV fn_1 ∧ NV fn_3 ∧ (q_size = q_size) from ⟨hr_2, hr_4, rfl⟩) (Nat.le_of_ble_eq_true rfl) (Nat.le_of_ble_eq_true rfl) dX5_copyFrom_53
