set_option maxHeartbeats 4000000 in
set_option maxRecDepth 100000 in
theorem c_within (l : Launch) (D : va_G) (cy : Nat → ClassId) (x0 x1 x2 : Int32) : KP l yX11_within cX11_within 3 (some .boolean) 0 0 D (kTY cy) [.int x0, .int x1, .int x2] [] (fun r => r = if x0 < x1 ∨ x2 < x0 then 0 else 1) := by
  refine KP.of (by decide) (Nat.le_of_ble_eq_true rfl) (fun p e s m below meth c ls F hE hP hl => ?_)
  have F : kF p s m meth c cX11_within 3 (some .boolean) _ RX11 := F
  obtain ⟨hx, hb, hr, hml, hown, hG, hlk⟩ := id F
  have hl : lv_has ls 3 [(0, .int x0), (1, .int x1), (2, .int x2)] := hl
  refine lv_iload_n hx hb dX11_within_0 rfl (lv_at hl 0 rfl) ?_
  refine lv_iload_n hx hb dX11_within_1 rfl (lv_at hl 1 rfl) ?_
  refine lv_icmp_lt (tgt := 14) hx hb dX11_within_2 (by decide) (fun c_1 => ?_) (fun c_1 => ?_)
  · refine lv_iconst (v := 0) hx hb dX11_within_14 (by decide) ?_
    exact KP.rt F rfl (by rw [if_pos (Or.inl c_1)]) dX11_within_15
  · refine lv_iload_n hx hb dX11_within_5 rfl (lv_at hl 0 rfl) ?_
    refine lv_iload_n hx hb dX11_within_6 rfl (lv_at hl 2 rfl) ?_
    refine lv_icmp_gt (tgt := 14) hx hb dX11_within_7 (by decide) (fun c_2 => ?_) (fun c_2 => ?_)
    · refine lv_iconst (v := 0) hx hb dX11_within_14 (by decide) ?_
      exact KP.rt F rfl (by rw [if_pos (Or.inr c_2)]) dX11_within_15
    · refine lv_iconst (v := 1) hx hb dX11_within_10 (by decide) ?_
      refine lv_goto (tgt := 15) hx hb dX11_within_11 (by decide) ?_
      exact KP.rt F rfl (by rw [if_neg (fun q => q.elim c_1 c_2)]) dX11_within_15

theorem c_within0 (l : Launch) (D : va_G) (cy : Nat → ClassId) (x0 : Int32) : KP l yX11_within cX11_within 3 (some .boolean) 0 0 D (kTY cy) [.int x0, .int 0, .int (-1)] [] (fun r => r = 0) := (c_within l D cy x0 0 (-1)).mono (fun r h => h.trans (if_pos (k_neg1 x0)))

set_option maxHeartbeats 4000000 in
set_option maxRecDepth 100000 in
theorem c_hasRing (l : Launch) (D : va_G) (cy : Nat → ClassId) (fd fc : Nat) (x0 : Int32) : KP l yX1_hasRing cX1_hasRing 2 (some .boolean) 1 22 D (kTY cy) [.ref fd, .int x0] [(fd, .inr (1, [.ref fc])), (fc, .inl (cy 0, 63, .inl (fun _ => 0)))] (fun r => r = 0) := by
  refine KP.of (by decide) (Nat.le_of_ble_eq_true rfl) (fun p e s m below meth c ls F hE hP hl => ?_)
  have F : kF p s m meth c cX1_hasRing 2 (some .boolean) _ RX1 := F
  obtain ⟨hx, hb, hr, hml, hown, hG, hlk⟩ := id F
  have hl : lv_has ls 2 [(0, .ref fd), (1, .int x0)] := hl
  refine lv_iload_n hx hb dX1_hasRing_0 rfl (lv_at hl 1 rfl) ?_
  refine lv_iconst (v := 0) hx hb dX1_hasRing_1 (by decide) ?_
  refine lv_aload_n hx hb dX1_hasRing_2 rfl (lv_at hl 0 rfl) ?_
  refine va_get (D := D) (ci := 1) (v := .ref fc) (C := RX1) (T := TX1) (N := 1) hx hb hG inG_X1 hown hE.1 hP 0 rfl rfl 0 (by decide) (hG _ q_f_X1_11) (fun _ h9 => h9) rfl dX1_hasRing_3 ?_
  refine lv_iconst (v := 3) hx hb dX1_hasRing_6 (by decide) ?_
  refine va_iald hx hb hE.1 hP 1 0 rfl rfl (by unfold vp_in; decide) dX1_hasRing_7 ?_
  refine k_top (z := 0) rfl ?_
  refine lv_iconst (v := 1) hx hb dX1_hasRing_8 (by decide) ?_
  refine lv_isub hx hb dX1_hasRing_9 ?_
  refine k_top (z := (-1)) (by decide) ?_
  refine kcSN (host := RX11) (As := [.int x0, .int 0, .int (-1)]) (rest := []) F hE hP hl.1 (c_within0 l D cy (x0 := x0)) ms_X11_within (by decide +kernel) ⟨(Nat.le_of_ble_eq_true rfl), (Nat.le_of_ble_eq_true rfl)⟩ [] rfl rfl rfl (Nat.le_of_ble_eq_true rfl) ⟨(Nat.le_of_ble_eq_true rfl), (Nat.le_of_ble_eq_true rfl)⟩ dX1_hasRing_10 (fun r_1 er_1 => ?_)
  subst er_1
  exact KP.rt F rfl (rfl) dX1_hasRing_13

set_option maxHeartbeats 4000000 in
set_option maxRecDepth 100000 in
theorem c_hasArcher (l : Launch) (D : va_G) (cy : Nat → ClassId) (fd fc : Nat) (x0 : Int32) : KP l yX1_hasArcher cX1_hasArcher 2 (some .boolean) 1 22 D (kTY cy) [.ref fd, .int x0] [(fd, .inr (1, [.ref fc])), (fc, .inl (cy 0, 63, .inl (fun _ => 0)))] (fun r => r = 0) := by
  refine KP.of (by decide) (Nat.le_of_ble_eq_true rfl) (fun p e s m below meth c ls F hE hP hl => ?_)
  have F : kF p s m meth c cX1_hasArcher 2 (some .boolean) _ RX1 := F
  obtain ⟨hx, hb, hr, hml, hown, hG, hlk⟩ := id F
  have hl : lv_has ls 2 [(0, .ref fd), (1, .int x0)] := hl
  refine lv_iload_n hx hb dX1_hasArcher_0 rfl (lv_at hl 1 rfl) ?_
  refine lv_iconst (v := 0) hx hb dX1_hasArcher_1 (by decide) ?_
  refine lv_aload_n hx hb dX1_hasArcher_2 rfl (lv_at hl 0 rfl) ?_
  refine va_get (D := D) (ci := 1) (v := .ref fc) (C := RX1) (T := TX1) (N := 1) hx hb hG inG_X1 hown hE.1 hP 0 rfl rfl 0 (by decide) (hG _ q_f_X1_11) (fun _ h9 => h9) rfl dX1_hasArcher_3 ?_
  refine lv_iconst (v := 4) hx hb dX1_hasArcher_6 (by decide) ?_
  refine va_iald hx hb hE.1 hP 1 0 rfl rfl (by unfold vp_in; decide) dX1_hasArcher_7 ?_
  refine k_top (z := 0) rfl ?_
  refine lv_iconst (v := 1) hx hb dX1_hasArcher_8 (by decide) ?_
  refine lv_isub hx hb dX1_hasArcher_9 ?_
  refine k_top (z := (-1)) (by decide) ?_
  refine kcSN (host := RX11) (As := [.int x0, .int 0, .int (-1)]) (rest := []) F hE hP hl.1 (c_within0 l D cy (x0 := x0)) ms_X11_within (by decide +kernel) ⟨(Nat.le_of_ble_eq_true rfl), (Nat.le_of_ble_eq_true rfl)⟩ [] rfl rfl rfl (Nat.le_of_ble_eq_true rfl) ⟨(Nat.le_of_ble_eq_true rfl), (Nat.le_of_ble_eq_true rfl)⟩ dX1_hasArcher_10 (fun r_1 er_1 => ?_)
  subst er_1
  exact KP.rt F rfl (rfl) dX1_hasArcher_13

set_option maxHeartbeats 4000000 in
set_option maxRecDepth 100000 in
theorem c_isTold (l : Launch) (D : va_G) (cy : Nat → ClassId) (fd fc : Nat) : KP l yX1_isTold cX1_isTold 1 (some .boolean) 0 0 D (kTY cy) [.ref fd] [(fd, .inr (1, [.ref fc])), (fc, .inl (cy 0, 63, .inl (fun _ => 0)))] (fun r => r = 0) := by
  refine KP.of (by decide) (Nat.le_of_ble_eq_true rfl) (fun p e s m below meth c ls F hE hP hl => ?_)
  have F : kF p s m meth c cX1_isTold 1 (some .boolean) _ RX1 := F
  obtain ⟨hx, hb, hr, hml, hown, hG, hlk⟩ := id F
  have hl : lv_has ls 1 [(0, .ref fd)] := hl
  refine lv_aload_n hx hb dX1_isTold_0 rfl (lv_at hl 0 rfl) ?_
  refine va_get (D := D) (ci := 1) (v := .ref fc) (C := RX1) (T := TX1) (N := 1) hx hb hG inG_X1 hown hE.1 hP 0 rfl rfl 0 (by decide) (hG _ q_f_X1_11) (fun _ h9 => h9) rfl dX1_isTold_1 ?_
  refine lv_iconst (v := 0) hx hb dX1_isTold_4 (by decide) ?_
  refine va_iald hx hb hE.1 hP 1 0 rfl rfl (by unfold vp_in; decide) dX1_isTold_5 ?_
  refine k_top (z := 0) rfl ?_
  refine lv_if_le (tgt := 13) hx hb dX1_isTold_6 (by decide) (fun _ => ?_) (fun q => absurd q (by decide))
  refine lv_iconst (v := 0) hx hb dX1_isTold_13 (by decide) ?_
  exact KP.rt F rfl (rfl) dX1_isTold_14

set_option maxHeartbeats 4000000 in
set_option maxRecDepth 100000 in
theorem c_sumOfArchers (l : Launch) (D : va_G) (cy : Nat → ClassId) (fd fc : Nat) (x0 : Int32) : KP l yX1_sumOfArchers cX1_sumOfArchers 4 (some .int) 0 0 D (kTY cy) [.ref fd, .int x0] [(fd, .inr (1, [.ref fc])), (fc, .inl (cy 0, 63, .inl (fun _ => 0)))] (fun r => r = 0) := by
  refine KP.of (by decide) (Nat.le_of_ble_eq_true rfl) (fun p e s m below meth c ls F hE hP hl => ?_)
  have F : kF p s m meth c cX1_sumOfArchers 4 (some .int) _ RX1 := F
  obtain ⟨hx, hb, hr, hml, hown, hG, hlk⟩ := id F
  have hl : lv_has ls 4 [(0, .ref fd), (1, .int x0)] := hl
  refine lv_iconst (v := 0) hx hb dX1_sumOfArchers_0 (by decide) ?_
  refine lv_istore_n (lv' := [(2, .int 0), (0, .ref fd), (1, .int x0)]) hx hb dX1_sumOfArchers_1 rfl hl (by decide) rfl (fun ls hl => ?_)
  refine lv_iconst (v := 0) hx hb dX1_sumOfArchers_2 (by decide) ?_
  refine lv_istore_n (lv' := [(3, .int 0), (2, .int 0), (0, .ref fd), (1, .int x0)]) hx hb dX1_sumOfArchers_3 rfl hl (by decide) rfl (fun ls hl => ?_)
  refine lv_iload_n hx hb dX1_sumOfArchers_4 rfl (lv_at hl 0 rfl) ?_
  refine lv_aload_n hx hb dX1_sumOfArchers_5 rfl (lv_at hl 2 rfl) ?_
  refine va_get (D := D) (ci := 1) (v := .ref fc) (C := RX1) (T := TX1) (N := 1) hx hb hG inG_X1 hown hE.1 hP 0 rfl rfl 0 (by decide) (hG _ q_f_X1_11) (fun _ h9 => h9) rfl dX1_sumOfArchers_6 ?_
  refine lv_iconst (v := 4) hx hb dX1_sumOfArchers_9 (by decide) ?_
  refine va_iald hx hb hE.1 hP 1 0 rfl rfl (by unfold vp_in; decide) dX1_sumOfArchers_10 ?_
  refine k_top (z := 0) rfl ?_
  refine lv_icmp_ge (tgt := 31) hx hb dX1_sumOfArchers_11 (by decide) (fun _ => ?_) (fun q => absurd q (by decide))
  refine lv_iload_n hx hb dX1_sumOfArchers_31 rfl (lv_at hl 1 rfl) ?_
  exact KP.rt F rfl (rfl) dX1_sumOfArchers_32

set_option maxHeartbeats 4000000 in
set_option maxRecDepth 100000 in
theorem x_ring (l : Launch) (D : va_G) (cy : Nat → ClassId) (h0 tp gr rr ru nw im ac py fo su : Nat) (fd bg nt fc : Nat) (x0 : Int32) (x1 : Int32) : KP l yX11_ring cX11_ring 3 (some .int) 2 43 D (kTY cy) [.ref h0, .int x0, .int x1] [(h0, .inr (11, [.ref tp, .ref gr, .ref rr, .ref ru, .int 0, .ref nw, .ref im, .ref ac, .ref py, .ref fo, .ref su])), (nw, .inr (4, [.ref fd, .ref bg, .ref nt, .int (-1), .int 0, .int 0])), (fd, .inr (1, [.ref fc])), (fc, .inl (cy 0, 63, .inl (fun _ => 0)))] (fun r => r = (-1)) := by
  refine KP.of (by decide) (Nat.le_of_ble_eq_true rfl) (fun p e s m below meth c ls F hE hP hl => ?_)
  have F : kF p s m meth c cX11_ring 3 (some .int) _ RX11 := F
  obtain ⟨hx, hb, hr, hml, hown, hG, hlk⟩ := id F
  have hl : lv_has ls 3 [(0, .ref h0), (1, .int x0), (2, .int x1)] := hl
  refine lv_aload_n hx hb dX11_ring_0 rfl (lv_at hl 0 rfl) ?_
  refine va_get (D := D) (ci := 11) (v := .ref nw) (C := RX11) (T := TX11) (N := 11) hx hb hG inG_X11 hown hE.1 hP 0 rfl rfl 5 (by decide) (hG _ q_f_X11_43) (fun _ h9 => h9) rfl dX11_ring_1 ?_
  refine va_get (D := D) (ci := 4) (v := .ref fd) (C := RX4) (T := TX4) (N := 6) hx hb hG inG_X4 hown hE.1 hP 1 rfl rfl 0 (by decide) (hG _ q_f_X11_111) (fun _ h9 => h9) rfl dX11_ring_4 ?_
  refine lv_iload_n hx hb dX11_ring_7 rfl (lv_at hl 1 rfl) ?_
  refine kcV (As := [.int x0]) (rest := []) F hE hP hl.1 (c_hasRing l D cy (fd := fd) (x0 := x0) (fc := fc)) q_m_X11_136 mv_X1_hasRing ⟨(Nat.le_of_ble_eq_true rfl), (Nat.le_of_ble_eq_true rfl)⟩ [2, 3] rfl rfl rfl rfl rfl rfl (Nat.le_of_ble_eq_true rfl) ⟨(Nat.le_of_ble_eq_true rfl), (Nat.le_of_ble_eq_true rfl)⟩ dX11_ring_8 (fun r_1 er_1 => ?_)
  subst er_1
  refine lv_if_ne (tgt := 16) hx hb dX11_ring_11 (by decide) (fun q => absurd q (by decide)) (fun _ => ?_)
  refine lv_iconst (v := (-1)) hx hb dX11_ring_14 (by decide) ?_
  exact KP.rt F rfl (rfl) dX11_ring_15

set_option maxHeartbeats 4000000 in
set_option maxRecDepth 100000 in
theorem x_archer (l : Launch) (D : va_G) (cy : Nat → ClassId) (h0 tp gr rr ru nw im ac py fo su : Nat) (fd bg nt fc : Nat) (x0 : Int32) (x1 : Int32) : KP l yX11_archer cX11_archer 3 (some .int) 2 43 D (kTY cy) [.ref h0, .int x0, .int x1] [(h0, .inr (11, [.ref tp, .ref gr, .ref rr, .ref ru, .int 0, .ref nw, .ref im, .ref ac, .ref py, .ref fo, .ref su])), (nw, .inr (4, [.ref fd, .ref bg, .ref nt, .int (-1), .int 0, .int 0])), (fd, .inr (1, [.ref fc])), (fc, .inl (cy 0, 63, .inl (fun _ => 0)))] (fun r => r = (-1)) := by
  refine KP.of (by decide) (Nat.le_of_ble_eq_true rfl) (fun p e s m below meth c ls F hE hP hl => ?_)
  have F : kF p s m meth c cX11_archer 3 (some .int) _ RX11 := F
  obtain ⟨hx, hb, hr, hml, hown, hG, hlk⟩ := id F
  have hl : lv_has ls 3 [(0, .ref h0), (1, .int x0), (2, .int x1)] := hl
  refine lv_aload_n hx hb dX11_archer_0 rfl (lv_at hl 0 rfl) ?_
  refine va_get (D := D) (ci := 11) (v := .ref nw) (C := RX11) (T := TX11) (N := 11) hx hb hG inG_X11 hown hE.1 hP 0 rfl rfl 5 (by decide) (hG _ q_f_X11_43) (fun _ h9 => h9) rfl dX11_archer_1 ?_
  refine va_get (D := D) (ci := 4) (v := .ref fd) (C := RX4) (T := TX4) (N := 6) hx hb hG inG_X4 hown hE.1 hP 1 rfl rfl 0 (by decide) (hG _ q_f_X11_111) (fun _ h9 => h9) rfl dX11_archer_4 ?_
  refine lv_iload_n hx hb dX11_archer_7 rfl (lv_at hl 1 rfl) ?_
  refine kcV (As := [.int x0]) (rest := []) F hE hP hl.1 (c_hasArcher l D cy (fd := fd) (x0 := x0) (fc := fc)) q_m_X11_139 mv_X1_hasArcher ⟨(Nat.le_of_ble_eq_true rfl), (Nat.le_of_ble_eq_true rfl)⟩ [2, 3] rfl rfl rfl rfl rfl rfl (Nat.le_of_ble_eq_true rfl) ⟨(Nat.le_of_ble_eq_true rfl), (Nat.le_of_ble_eq_true rfl)⟩ dX11_archer_8 (fun r_1 er_1 => ?_)
  subst er_1
  refine lv_if_ne (tgt := 16) hx hb dX11_archer_11 (by decide) (fun q => absurd q (by decide)) (fun _ => ?_)
  refine lv_iconst (v := (-1)) hx hb dX11_archer_14 (by decide) ?_
  exact KP.rt F rfl (rfl) dX11_archer_15

set_option maxHeartbeats 4000000 in
set_option maxRecDepth 100000 in
theorem x_wind (l : Launch) (D : va_G) (cy : Nat → ClassId) (h0 tp gr rr ru nw im ac py fo su : Nat) (fd bg nt fc : Nat) (x0 : Int32) : KP l yX11_wind cX11_wind 2 (some .int) 1 22 D (kTY cy) [.ref h0, .int x0] [(h0, .inr (11, [.ref tp, .ref gr, .ref rr, .ref ru, .int 0, .ref nw, .ref im, .ref ac, .ref py, .ref fo, .ref su])), (nw, .inr (4, [.ref fd, .ref bg, .ref nt, .int (-1), .int 0, .int 0])), (fd, .inr (1, [.ref fc])), (fc, .inl (cy 0, 63, .inl (fun _ => 0)))] (fun r => r = (-1)) := by
  refine KP.of (by decide) (Nat.le_of_ble_eq_true rfl) (fun p e s m below meth c ls F hE hP hl => ?_)
  have F : kF p s m meth c cX11_wind 2 (some .int) _ RX11 := F
  obtain ⟨hx, hb, hr, hml, hown, hG, hlk⟩ := id F
  have hl : lv_has ls 2 [(0, .ref h0), (1, .int x0)] := hl
  refine lv_iload_n hx hb dX11_wind_0 rfl (lv_at hl 1 rfl) ?_
  refine lv_iconst (v := 0) hx hb dX11_wind_1 (by decide) ?_
  refine lv_aload_n hx hb dX11_wind_2 rfl (lv_at hl 0 rfl) ?_
  refine va_get (D := D) (ci := 11) (v := .ref nw) (C := RX11) (T := TX11) (N := 11) hx hb hG inG_X11 hown hE.1 hP 0 rfl rfl 5 (by decide) (hG _ q_f_X11_43) (fun _ h9 => h9) rfl dX11_wind_3 ?_
  refine va_get (D := D) (ci := 4) (v := .ref fd) (C := RX4) (T := TX4) (N := 6) hx hb hG inG_X4 hown hE.1 hP 1 rfl rfl 0 (by decide) (hG _ q_f_X11_111) (fun _ h9 => h9) rfl dX11_wind_6 ?_
  refine va_get (D := D) (ci := 1) (v := .ref fc) (C := RX1) (T := TX1) (N := 1) hx hb hG inG_X1 hown hE.1 hP 2 rfl rfl 0 (by decide) (hG _ q_f_X11_124) (fun _ h9 => h9) rfl dX11_wind_9 ?_
  refine lv_iconst (v := 2) hx hb dX11_wind_12 (by decide) ?_
  refine va_iald hx hb hE.1 hP 3 0 rfl rfl (by unfold vp_in; decide) dX11_wind_13 ?_
  refine k_top (z := 0) rfl ?_
  refine lv_iconst (v := 1) hx hb dX11_wind_14 (by decide) ?_
  refine lv_isub hx hb dX11_wind_15 ?_
  refine k_top (z := (-1)) (by decide) ?_
  refine kcS (As := [.int x0, .int 0, .int (-1)]) (rest := []) F hE hP hl.1 (c_within0 l D cy (x0 := x0)) q_m_X11_90 ms_X11_within ⟨(Nat.le_of_ble_eq_true rfl), (Nat.le_of_ble_eq_true rfl)⟩ [] rfl rfl rfl (Nat.le_of_ble_eq_true rfl) ⟨(Nat.le_of_ble_eq_true rfl), (Nat.le_of_ble_eq_true rfl)⟩ dX11_wind_16 (fun r_1 er_1 => ?_)
  subst er_1
  refine lv_if_eq (tgt := 36) hx hb dX11_wind_19 (by decide) (fun _ => ?_) (fun q => absurd q (by decide))
  refine lv_iconst (v := (-1)) hx hb dX11_wind_36 (by decide) ?_
  exact KP.rt F rfl (rfl) dX11_wind_37

set_option maxHeartbeats 4000000 in
set_option maxRecDepth 100000 in
theorem x_round (l : Launch) (D : va_G) (cy : Nat → ClassId) (h0 tp gr rr ru nw im ac py fo su : Nat) (fd bg nt fc : Nat) : KP l yX11_round cX11_round 2 (some .int) 1 20 D (kTY cy) [.ref h0] [(h0, .inr (11, [.ref tp, .ref gr, .ref rr, .ref ru, .int 0, .ref nw, .ref im, .ref ac, .ref py, .ref fo, .ref su])), (nw, .inr (4, [.ref fd, .ref bg, .ref nt, .int (-1), .int 0, .int 0])), (fd, .inr (1, [.ref fc])), (fc, .inl (cy 0, 63, .inl (fun _ => 0)))] (fun r => r = (-1)) := by
  refine KP.of (by decide) (Nat.le_of_ble_eq_true rfl) (fun p e s m below meth c ls F hE hP hl => ?_)
  have F : kF p s m meth c cX11_round 2 (some .int) _ RX11 := F
  obtain ⟨hx, hb, hr, hml, hown, hG, hlk⟩ := id F
  have hl : lv_has ls 2 [(0, .ref h0)] := hl
  refine lv_aload_n hx hb dX11_round_0 rfl (lv_at hl 0 rfl) ?_
  refine va_get (D := D) (ci := 11) (v := .ref nw) (C := RX11) (T := TX11) (N := 11) hx hb hG inG_X11 hown hE.1 hP 0 rfl rfl 5 (by decide) (hG _ q_f_X11_43) (fun _ h9 => h9) rfl dX11_round_1 ?_
  refine va_get (D := D) (ci := 4) (v := .ref fd) (C := RX4) (T := TX4) (N := 6) hx hb hG inG_X4 hown hE.1 hP 1 rfl rfl 0 (by decide) (hG _ q_f_X11_111) (fun _ h9 => h9) rfl dX11_round_4 ?_
  refine kcV (As := []) (rest := []) F hE hP hl.1 (c_isTold l D cy (fd := fd) (fc := fc)) q_m_X11_152 mv_X1_isTold ⟨(Nat.le_of_ble_eq_true rfl), (Nat.le_of_ble_eq_true rfl)⟩ [2, 3] rfl rfl rfl rfl rfl rfl (Nat.le_of_ble_eq_true rfl) ⟨(Nat.le_of_ble_eq_true rfl), (Nat.le_of_ble_eq_true rfl)⟩ dX11_round_7 (fun r_1 er_1 => ?_)
  subst er_1
  refine lv_if_eq (tgt := 31) hx hb dX11_round_10 (by decide) (fun _ => ?_) (fun q => absurd q (by decide))
  refine lv_iconst (v := (-1)) hx hb dX11_round_31 (by decide) ?_
  exact KP.rt F rfl (rfl) dX11_round_32

set_option maxHeartbeats 4000000 in
set_option maxRecDepth 100000 in
theorem x_shoot (l : Launch) (D : va_G) (cy : Nat → ClassId) (h0 tp gr rr ru nw im ac py fo su : Nat) (fd bg nt fc : Nat) (x0 : Int32) (x1 : Int32) : KP l yX11_shoot cX11_shoot 4 (some .int) 2 43 D (kTY cy) [.ref h0, .int x0, .int x1] [(h0, .inr (11, [.ref tp, .ref gr, .ref rr, .ref ru, .int 0, .ref nw, .ref im, .ref ac, .ref py, .ref fo, .ref su])), (nw, .inr (4, [.ref fd, .ref bg, .ref nt, .int (-1), .int 0, .int 0])), (fd, .inr (1, [.ref fc])), (fc, .inl (cy 0, 63, .inl (fun _ => 0)))] (fun r => r = (-1)) := by
  refine KP.of (by decide) (Nat.le_of_ble_eq_true rfl) (fun p e s m below meth c ls F hE hP hl => ?_)
  have F : kF p s m meth c cX11_shoot 4 (some .int) _ RX11 := F
  obtain ⟨hx, hb, hr, hml, hown, hG, hlk⟩ := id F
  have hl : lv_has ls 4 [(0, .ref h0), (1, .int x0), (2, .int x1)] := hl
  refine lv_aload_n hx hb dX11_shoot_0 rfl (lv_at hl 0 rfl) ?_
  refine va_get (D := D) (ci := 11) (v := .ref nw) (C := RX11) (T := TX11) (N := 11) hx hb hG inG_X11 hown hE.1 hP 0 rfl rfl 5 (by decide) (hG _ q_f_X11_43) (fun _ h9 => h9) rfl dX11_shoot_1 ?_
  refine va_get (D := D) (ci := 4) (v := .ref fd) (C := RX4) (T := TX4) (N := 6) hx hb hG inG_X4 hown hE.1 hP 1 rfl rfl 0 (by decide) (hG _ q_f_X11_111) (fun _ h9 => h9) rfl dX11_shoot_4 ?_
  refine lv_astore_n (lv' := [(3, .ref fd), (0, .ref h0), (1, .int x0), (2, .int x1)]) hx hb dX11_shoot_7 rfl hl (by decide) rfl (fun ls hl => ?_)
  refine lv_aload_n hx hb dX11_shoot_8 rfl (lv_at hl 0 rfl) ?_
  refine lv_iload_n hx hb dX11_shoot_9 rfl (lv_at hl 2 rfl) ?_
  refine kcV (As := [.int x0]) (rest := []) F hE hP hl.1 (c_hasArcher l D cy (fd := fd) (x0 := x0) (fc := fc)) q_m_X11_139 mv_X1_hasArcher ⟨(Nat.le_of_ble_eq_true rfl), (Nat.le_of_ble_eq_true rfl)⟩ [2, 3] rfl rfl rfl rfl rfl rfl (Nat.le_of_ble_eq_true rfl) ⟨(Nat.le_of_ble_eq_true rfl), (Nat.le_of_ble_eq_true rfl)⟩ dX11_shoot_10 (fun r_1 er_1 => ?_)
  subst er_1
  refine lv_if_eq (tgt := 37) hx hb dX11_shoot_13 (by decide) (fun _ => ?_) (fun q => absurd q (by decide))
  refine lv_iconst (v := (-1)) hx hb dX11_shoot_37 (by decide) ?_
  exact KP.rt F rfl (rfl) dX11_shoot_38

set_option maxHeartbeats 4000000 in
set_option maxRecDepth 100000 in
theorem x_pull (l : Launch) (D : va_G) (cy : Nat → ClassId) (h0 tp gr rr ru nw im ac py fo su : Nat) (fd bg nt fc : Nat) (x0 : Int32) (x1 : Int32) : KP l yX11_pull cX11_pull 5 (some .int) 2 43 D (kTY cy) [.ref h0, .int x0, .int x1] [(h0, .inr (11, [.ref tp, .ref gr, .ref rr, .ref ru, .int 0, .ref nw, .ref im, .ref ac, .ref py, .ref fo, .ref su])), (nw, .inr (4, [.ref fd, .ref bg, .ref nt, .int (-1), .int 0, .int 0])), (fd, .inr (1, [.ref fc])), (fc, .inl (cy 0, 63, .inl (fun _ => 0)))] (fun r => r = (-1)) := by
  refine KP.of (by decide) (Nat.le_of_ble_eq_true rfl) (fun p e s m below meth c ls F hE hP hl => ?_)
  have F : kF p s m meth c cX11_pull 5 (some .int) _ RX11 := F
  obtain ⟨hx, hb, hr, hml, hown, hG, hlk⟩ := id F
  have hl : lv_has ls 5 [(0, .ref h0), (1, .int x0), (2, .int x1)] := hl
  refine lv_aload_n hx hb dX11_pull_0 rfl (lv_at hl 0 rfl) ?_
  refine va_get (D := D) (ci := 11) (v := .ref nw) (C := RX11) (T := TX11) (N := 11) hx hb hG inG_X11 hown hE.1 hP 0 rfl rfl 5 (by decide) (hG _ q_f_X11_43) (fun _ h9 => h9) rfl dX11_pull_1 ?_
  refine va_get (D := D) (ci := 4) (v := .ref fd) (C := RX4) (T := TX4) (N := 6) hx hb hG inG_X4 hown hE.1 hP 1 rfl rfl 0 (by decide) (hG _ q_f_X11_111) (fun _ h9 => h9) rfl dX11_pull_4 ?_
  refine lv_astore_n (lv' := [(3, .ref fd), (0, .ref h0), (1, .int x0), (2, .int x1)]) hx hb dX11_pull_7 rfl hl (by decide) rfl (fun ls hl => ?_)
  refine lv_aload_n hx hb dX11_pull_8 rfl (lv_at hl 0 rfl) ?_
  refine lv_iload_n hx hb dX11_pull_9 rfl (lv_at hl 2 rfl) ?_
  refine kcV (As := [.int x0]) (rest := []) F hE hP hl.1 (c_hasRing l D cy (fd := fd) (x0 := x0) (fc := fc)) q_m_X11_136 mv_X1_hasRing ⟨(Nat.le_of_ble_eq_true rfl), (Nat.le_of_ble_eq_true rfl)⟩ [2, 3] rfl rfl rfl rfl rfl rfl (Nat.le_of_ble_eq_true rfl) ⟨(Nat.le_of_ble_eq_true rfl), (Nat.le_of_ble_eq_true rfl)⟩ dX11_pull_10 (fun r_1 er_1 => ?_)
  subst er_1
  refine lv_if_eq (tgt := 37) hx hb dX11_pull_13 (by decide) (fun _ => ?_) (fun q => absurd q (by decide))
  refine lv_iconst (v := (-1)) hx hb dX11_pull_37 (by decide) ?_
  exact KP.rt F rfl (rfl) dX11_pull_38

set_option maxHeartbeats 4000000 in
set_option maxRecDepth 100000 in
theorem x_breath (l : Launch) (D : va_G) (cy : Nat → ClassId) (h0 tp gr rr ru nw im ac py fo su : Nat) (fd bg nt fc : Nat) (x0 : Int32) : KP l yX11_breath cX11_breath 3 (some .int) 1 20 D (kTY cy) [.ref h0, .int x0] [(h0, .inr (11, [.ref tp, .ref gr, .ref rr, .ref ru, .int 0, .ref nw, .ref im, .ref ac, .ref py, .ref fo, .ref su])), (nw, .inr (4, [.ref fd, .ref bg, .ref nt, .int (-1), .int 0, .int 0])), (fd, .inr (1, [.ref fc])), (fc, .inl (cy 0, 63, .inl (fun _ => 0)))] (fun r => r = (-1)) := by
  refine KP.of (by decide) (Nat.le_of_ble_eq_true rfl) (fun p e s m below meth c ls F hE hP hl => ?_)
  have F : kF p s m meth c cX11_breath 3 (some .int) _ RX11 := F
  obtain ⟨hx, hb, hr, hml, hown, hG, hlk⟩ := id F
  have hl : lv_has ls 3 [(0, .ref h0), (1, .int x0)] := hl
  refine lv_aload_n hx hb dX11_breath_0 rfl (lv_at hl 0 rfl) ?_
  refine va_get (D := D) (ci := 11) (v := .ref nw) (C := RX11) (T := TX11) (N := 11) hx hb hG inG_X11 hown hE.1 hP 0 rfl rfl 5 (by decide) (hG _ q_f_X11_43) (fun _ h9 => h9) rfl dX11_breath_1 ?_
  refine va_get (D := D) (ci := 4) (v := .ref fd) (C := RX4) (T := TX4) (N := 6) hx hb hG inG_X4 hown hE.1 hP 1 rfl rfl 0 (by decide) (hG _ q_f_X11_111) (fun _ h9 => h9) rfl dX11_breath_4 ?_
  refine lv_astore_n (lv' := [(2, .ref fd), (0, .ref h0), (1, .int x0)]) hx hb dX11_breath_7 rfl hl (by decide) rfl (fun ls hl => ?_)
  refine lv_aload_n hx hb dX11_breath_8 rfl (lv_at hl 0 rfl) ?_
  refine kcV (As := []) (rest := []) F hE hP hl.1 (c_isTold l D cy (fd := fd) (fc := fc)) q_m_X11_152 mv_X1_isTold ⟨(Nat.le_of_ble_eq_true rfl), (Nat.le_of_ble_eq_true rfl)⟩ [2, 3] rfl rfl rfl rfl rfl rfl (Nat.le_of_ble_eq_true rfl) ⟨(Nat.le_of_ble_eq_true rfl), (Nat.le_of_ble_eq_true rfl)⟩ dX11_breath_9 (fun r_1 er_1 => ?_)
  subst er_1
  refine lv_if_eq (tgt := 25) hx hb dX11_breath_12 (by decide) (fun _ => ?_) (fun q => absurd q (by decide))
  refine lv_iconst (v := (-1)) hx hb dX11_breath_25 (by decide) ?_
  exact KP.rt F rfl (rfl) dX11_breath_26

set_option maxHeartbeats 4000000 in
set_option maxRecDepth 100000 in
theorem x_teach (l : Launch) (D : va_G) (cy : Nat → ClassId) (h0 tp gr rr ru nw im ac py fo su : Nat) (fd bg nt fc : Nat) (x0 : Int32) (x1 : Int32) : KP l yX11_teach cX11_teach 5 (some .int) 2 43 D (kTY cy) [.ref h0, .int x0, .int x1] [(h0, .inr (11, [.ref tp, .ref gr, .ref rr, .ref ru, .int 0, .ref nw, .ref im, .ref ac, .ref py, .ref fo, .ref su])), (nw, .inr (4, [.ref fd, .ref bg, .ref nt, .int (-1), .int 0, .int 0])), (fd, .inr (1, [.ref fc])), (fc, .inl (cy 0, 63, .inl (fun _ => 0)))] (fun r => r = (-1)) := by
  refine KP.of (by decide) (Nat.le_of_ble_eq_true rfl) (fun p e s m below meth c ls F hE hP hl => ?_)
  have F : kF p s m meth c cX11_teach 5 (some .int) _ RX11 := F
  obtain ⟨hx, hb, hr, hml, hown, hG, hlk⟩ := id F
  have hl : lv_has ls 5 [(0, .ref h0), (1, .int x0), (2, .int x1)] := hl
  refine lv_aload_n hx hb dX11_teach_0 rfl (lv_at hl 0 rfl) ?_
  refine va_get (D := D) (ci := 11) (v := .ref nw) (C := RX11) (T := TX11) (N := 11) hx hb hG inG_X11 hown hE.1 hP 0 rfl rfl 5 (by decide) (hG _ q_f_X11_43) (fun _ h9 => h9) rfl dX11_teach_1 ?_
  refine va_get (D := D) (ci := 4) (v := .ref fd) (C := RX4) (T := TX4) (N := 6) hx hb hG inG_X4 hown hE.1 hP 1 rfl rfl 0 (by decide) (hG _ q_f_X11_111) (fun _ h9 => h9) rfl dX11_teach_4 ?_
  refine lv_astore_n (lv' := [(3, .ref fd), (0, .ref h0), (1, .int x0), (2, .int x1)]) hx hb dX11_teach_7 rfl hl (by decide) rfl (fun ls hl => ?_)
  refine lv_aload_n hx hb dX11_teach_8 rfl (lv_at hl 0 rfl) ?_
  refine lv_iload_n hx hb dX11_teach_9 rfl (lv_at hl 2 rfl) ?_
  refine kcV (As := [.int x0]) (rest := []) F hE hP hl.1 (c_hasArcher l D cy (fd := fd) (x0 := x0) (fc := fc)) q_m_X11_139 mv_X1_hasArcher ⟨(Nat.le_of_ble_eq_true rfl), (Nat.le_of_ble_eq_true rfl)⟩ [2, 3] rfl rfl rfl rfl rfl rfl (Nat.le_of_ble_eq_true rfl) ⟨(Nat.le_of_ble_eq_true rfl), (Nat.le_of_ble_eq_true rfl)⟩ dX11_teach_10 (fun r_1 er_1 => ?_)
  subst er_1
  refine lv_if_eq (tgt := 26) hx hb dX11_teach_13 (by decide) (fun _ => ?_) (fun q => absurd q (by decide))
  refine lv_iconst (v := (-1)) hx hb dX11_teach_26 (by decide) ?_
  exact KP.rt F rfl (rfl) dX11_teach_27

set_option maxHeartbeats 4000000 in
set_option maxRecDepth 100000 in
theorem x_ahead (l : Launch) (D : va_G) (cy : Nat → ClassId) (h0 tp gr rr ru nw im ac py fo su : Nat) (fd bg nt fc : Nat) (x0 : Int32) (x1 : Int32) (x2 : Int32) : KP l yX11_ahead cX11_ahead 5 (some .int) 1 20 D (kTY cy) [.ref h0, .int x0, .int x1, .int x2] [(h0, .inr (11, [.ref tp, .ref gr, .ref rr, .ref ru, .int 0, .ref nw, .ref im, .ref ac, .ref py, .ref fo, .ref su])), (nw, .inr (4, [.ref fd, .ref bg, .ref nt, .int (-1), .int 0, .int 0])), (fd, .inr (1, [.ref fc])), (fc, .inl (cy 0, 63, .inl (fun _ => 0)))] (fun r => r = (-1)) := by
  refine KP.of (by decide) (Nat.le_of_ble_eq_true rfl) (fun p e s m below meth c ls F hE hP hl => ?_)
  have F : kF p s m meth c cX11_ahead 5 (some .int) _ RX11 := F
  obtain ⟨hx, hb, hr, hml, hown, hG, hlk⟩ := id F
  have hl : lv_has ls 5 [(0, .ref h0), (1, .int x0), (2, .int x1), (3, .int x2)] := hl
  refine lv_iload_n hx hb dX11_ahead_0 rfl (lv_at hl 3 rfl) ?_
  refine lv_iconst (v := 2) hx hb dX11_ahead_1 (by decide) ?_
  refine lv_icmp_ne (tgt := 9) hx hb dX11_ahead_2 (by decide) (fun c_1 => ?_) (fun c_1 => ?_)
  · refine lv_iconst (v := 0) hx hb dX11_ahead_9 (by decide) ?_
    refine lv_istore (lv' := [(4, .int 0), (0, .ref h0), (1, .int x0), (2, .int x1), (3, .int x2)]) hx hb dX11_ahead_10 hl (by decide) rfl (fun ls hl => ?_)
    refine lv_aload_n hx hb dX11_ahead_12 rfl (lv_at hl 1 rfl) ?_
    refine va_get (D := D) (ci := 11) (v := .ref nw) (C := RX11) (T := TX11) (N := 11) hx hb hG inG_X11 hown hE.1 hP 0 rfl rfl 5 (by decide) (hG _ q_f_X11_43) (fun _ h9 => h9) rfl dX11_ahead_13 ?_
    refine va_get (D := D) (ci := 4) (v := .ref fd) (C := RX4) (T := TX4) (N := 6) hx hb hG inG_X4 hown hE.1 hP 1 rfl rfl 0 (by decide) (hG _ q_f_X11_111) (fun _ h9 => h9) rfl dX11_ahead_16 ?_
    refine kcV (As := []) (rest := []) F hE hP hl.1 (c_isTold l D cy (fd := fd) (fc := fc)) q_m_X11_152 mv_X1_isTold ⟨(Nat.le_of_ble_eq_true rfl), (Nat.le_of_ble_eq_true rfl)⟩ [2, 3] rfl rfl rfl rfl rfl rfl (Nat.le_of_ble_eq_true rfl) ⟨(Nat.le_of_ble_eq_true rfl), (Nat.le_of_ble_eq_true rfl)⟩ dX11_ahead_19 (fun r_2 er_2 => ?_)
    subst er_2
    refine lv_if_eq (tgt := 44) hx hb dX11_ahead_22 (by decide) (fun _ => ?_) (fun q => absurd q (by decide))
    refine lv_iconst (v := (-1)) hx hb dX11_ahead_44 (by decide) ?_
    exact KP.rt F rfl (rfl) dX11_ahead_45
  · refine lv_iconst (v := 1) hx hb dX11_ahead_5 (by decide) ?_
    refine lv_goto (tgt := 10) hx hb dX11_ahead_6 (by decide) ?_
    refine lv_istore (lv' := [(4, .int 1), (0, .ref h0), (1, .int x0), (2, .int x1), (3, .int x2)]) hx hb dX11_ahead_10 hl (by decide) rfl (fun ls hl => ?_)
    refine lv_aload_n hx hb dX11_ahead_12 rfl (lv_at hl 1 rfl) ?_
    refine va_get (D := D) (ci := 11) (v := .ref nw) (C := RX11) (T := TX11) (N := 11) hx hb hG inG_X11 hown hE.1 hP 0 rfl rfl 5 (by decide) (hG _ q_f_X11_43) (fun _ h9 => h9) rfl dX11_ahead_13 ?_
    refine va_get (D := D) (ci := 4) (v := .ref fd) (C := RX4) (T := TX4) (N := 6) hx hb hG inG_X4 hown hE.1 hP 1 rfl rfl 0 (by decide) (hG _ q_f_X11_111) (fun _ h9 => h9) rfl dX11_ahead_16 ?_
    refine kcV (As := []) (rest := []) F hE hP hl.1 (c_isTold l D cy (fd := fd) (fc := fc)) q_m_X11_152 mv_X1_isTold ⟨(Nat.le_of_ble_eq_true rfl), (Nat.le_of_ble_eq_true rfl)⟩ [2, 3] rfl rfl rfl rfl rfl rfl (Nat.le_of_ble_eq_true rfl) ⟨(Nat.le_of_ble_eq_true rfl), (Nat.le_of_ble_eq_true rfl)⟩ dX11_ahead_19 (fun r_3 er_3 => ?_)
    subst er_3
    refine lv_if_eq (tgt := 44) hx hb dX11_ahead_22 (by decide) (fun _ => ?_) (fun q => absurd q (by decide))
    refine lv_iconst (v := (-1)) hx hb dX11_ahead_44 (by decide) ?_
    exact KP.rt F rfl (rfl) dX11_ahead_45

set_option maxHeartbeats 4000000 in
set_option maxRecDepth 100000 in
theorem x_eased (l : Launch) (D : va_G) (cy : Nat → ClassId) (h0 tp gr rr ru nw im ac py fo su : Nat) (fd bg nt fc : Nat) (x0 : Int32) : KP l yX11_eased cX11_eased 2 (some .int) 2 43 D (kTY cy) [.ref h0, .int x0] [(h0, .inr (11, [.ref tp, .ref gr, .ref rr, .ref ru, .int 0, .ref nw, .ref im, .ref ac, .ref py, .ref fo, .ref su])), (nw, .inr (4, [.ref fd, .ref bg, .ref nt, .int (-1), .int 0, .int 0])), (fd, .inr (1, [.ref fc])), (fc, .inl (cy 0, 63, .inl (fun _ => 0)))] (fun r => r = (-1)) := by
  refine KP.of (by decide) (Nat.le_of_ble_eq_true rfl) (fun p e s m below meth c ls F hE hP hl => ?_)
  have F : kF p s m meth c cX11_eased 2 (some .int) _ RX11 := F
  obtain ⟨hx, hb, hr, hml, hown, hG, hlk⟩ := id F
  have hl : lv_has ls 2 [(0, .ref h0), (1, .int x0)] := hl
  refine lv_aload_n hx hb dX11_eased_0 rfl (lv_at hl 0 rfl) ?_
  refine va_get (D := D) (ci := 11) (v := .ref nw) (C := RX11) (T := TX11) (N := 11) hx hb hG inG_X11 hown hE.1 hP 0 rfl rfl 5 (by decide) (hG _ q_f_X11_43) (fun _ h9 => h9) rfl dX11_eased_1 ?_
  refine va_get (D := D) (ci := 4) (v := .ref fd) (C := RX4) (T := TX4) (N := 6) hx hb hG inG_X4 hown hE.1 hP 1 rfl rfl 0 (by decide) (hG _ q_f_X11_111) (fun _ h9 => h9) rfl dX11_eased_4 ?_
  refine lv_iload_n hx hb dX11_eased_7 rfl (lv_at hl 1 rfl) ?_
  refine kcV (As := [.int x0]) (rest := []) F hE hP hl.1 (c_hasArcher l D cy (fd := fd) (x0 := x0) (fc := fc)) q_m_X11_139 mv_X1_hasArcher ⟨(Nat.le_of_ble_eq_true rfl), (Nat.le_of_ble_eq_true rfl)⟩ [2, 3] rfl rfl rfl rfl rfl rfl (Nat.le_of_ble_eq_true rfl) ⟨(Nat.le_of_ble_eq_true rfl), (Nat.le_of_ble_eq_true rfl)⟩ dX11_eased_8 (fun r_1 er_1 => ?_)
  subst er_1
  refine lv_if_ne (tgt := 16) hx hb dX11_eased_11 (by decide) (fun q => absurd q (by decide)) (fun _ => ?_)
  refine lv_iconst (v := (-1)) hx hb dX11_eased_14 (by decide) ?_
  exact KP.rt F rfl (rfl) dX11_eased_15

set_option maxHeartbeats 4000000 in
set_option maxRecDepth 100000 in
theorem x_allEased (l : Launch) (D : va_G) (cy : Nat → ClassId) (h0 tp gr rr ru nw im ac py fo su : Nat) (fd bg nt fc : Nat) : KP l yX11_allEased cX11_allEased 1 (some .int) 1 20 D (kTY cy) [.ref h0] [(h0, .inr (11, [.ref tp, .ref gr, .ref rr, .ref ru, .int 0, .ref nw, .ref im, .ref ac, .ref py, .ref fo, .ref su])), (nw, .inr (4, [.ref fd, .ref bg, .ref nt, .int (-1), .int 0, .int 0])), (fd, .inr (1, [.ref fc])), (fc, .inl (cy 0, 63, .inl (fun _ => 0)))] (fun r => r = (-1)) := by
  refine KP.of (by decide) (Nat.le_of_ble_eq_true rfl) (fun p e s m below meth c ls F hE hP hl => ?_)
  have F : kF p s m meth c cX11_allEased 1 (some .int) _ RX11 := F
  obtain ⟨hx, hb, hr, hml, hown, hG, hlk⟩ := id F
  have hl : lv_has ls 1 [(0, .ref h0)] := hl
  refine lv_aload_n hx hb dX11_allEased_0 rfl (lv_at hl 0 rfl) ?_
  refine va_get (D := D) (ci := 11) (v := .ref nw) (C := RX11) (T := TX11) (N := 11) hx hb hG inG_X11 hown hE.1 hP 0 rfl rfl 5 (by decide) (hG _ q_f_X11_43) (fun _ h9 => h9) rfl dX11_allEased_1 ?_
  refine va_get (D := D) (ci := 4) (v := .ref fd) (C := RX4) (T := TX4) (N := 6) hx hb hG inG_X4 hown hE.1 hP 1 rfl rfl 0 (by decide) (hG _ q_f_X11_111) (fun _ h9 => h9) rfl dX11_allEased_4 ?_
  refine kcV (As := []) (rest := []) F hE hP hl.1 (c_isTold l D cy (fd := fd) (fc := fc)) q_m_X11_152 mv_X1_isTold ⟨(Nat.le_of_ble_eq_true rfl), (Nat.le_of_ble_eq_true rfl)⟩ [2, 3] rfl rfl rfl rfl rfl rfl (Nat.le_of_ble_eq_true rfl) ⟨(Nat.le_of_ble_eq_true rfl), (Nat.le_of_ble_eq_true rfl)⟩ dX11_allEased_7 (fun r_1 er_1 => ?_)
  subst er_1
  refine lv_if_ne (tgt := 15) hx hb dX11_allEased_10 (by decide) (fun q => absurd q (by decide)) (fun _ => ?_)
  refine lv_iconst (v := (-1)) hx hb dX11_allEased_13 (by decide) ?_
  exact KP.rt F rfl (rfl) dX11_allEased_14

set_option maxHeartbeats 4000000 in
set_option maxRecDepth 100000 in
theorem x_down (l : Launch) (D : va_G) (cy : Nat → ClassId) (h0 tp gr rr ru nw im ac py fo su : Nat) (fd bg nt fc : Nat) (x0 : Int32) (x1 : Int32) : KP l yX11_down cX11_down 4 (some .int) 2 43 D (kTY cy) [.ref h0, .int x0, .int x1] [(h0, .inr (11, [.ref tp, .ref gr, .ref rr, .ref ru, .int 0, .ref nw, .ref im, .ref ac, .ref py, .ref fo, .ref su])), (nw, .inr (4, [.ref fd, .ref bg, .ref nt, .int (-1), .int 0, .int 0])), (fd, .inr (1, [.ref fc])), (fc, .inl (cy 0, 63, .inl (fun _ => 0)))] (fun r => r = (-1)) := by
  refine KP.of (by decide) (Nat.le_of_ble_eq_true rfl) (fun p e s m below meth c ls F hE hP hl => ?_)
  have F : kF p s m meth c cX11_down 4 (some .int) _ RX11 := F
  obtain ⟨hx, hb, hr, hml, hown, hG, hlk⟩ := id F
  have hl : lv_has ls 4 [(0, .ref h0), (1, .int x0), (2, .int x1)] := hl
  refine lv_aload_n hx hb dX11_down_0 rfl (lv_at hl 0 rfl) ?_
  refine va_get (D := D) (ci := 11) (v := .ref nw) (C := RX11) (T := TX11) (N := 11) hx hb hG inG_X11 hown hE.1 hP 0 rfl rfl 5 (by decide) (hG _ q_f_X11_43) (fun _ h9 => h9) rfl dX11_down_1 ?_
  refine va_get (D := D) (ci := 4) (v := .ref fd) (C := RX4) (T := TX4) (N := 6) hx hb hG inG_X4 hown hE.1 hP 1 rfl rfl 0 (by decide) (hG _ q_f_X11_111) (fun _ h9 => h9) rfl dX11_down_4 ?_
  refine lv_astore_n (lv' := [(3, .ref fd), (0, .ref h0), (1, .int x0), (2, .int x1)]) hx hb dX11_down_7 rfl hl (by decide) rfl (fun ls hl => ?_)
  refine lv_aload_n hx hb dX11_down_8 rfl (lv_at hl 0 rfl) ?_
  refine lv_iload_n hx hb dX11_down_9 rfl (lv_at hl 2 rfl) ?_
  refine kcV (As := [.int x0]) (rest := []) F hE hP hl.1 (c_hasArcher l D cy (fd := fd) (x0 := x0) (fc := fc)) q_m_X11_139 mv_X1_hasArcher ⟨(Nat.le_of_ble_eq_true rfl), (Nat.le_of_ble_eq_true rfl)⟩ [2, 3] rfl rfl rfl rfl rfl rfl (Nat.le_of_ble_eq_true rfl) ⟨(Nat.le_of_ble_eq_true rfl), (Nat.le_of_ble_eq_true rfl)⟩ dX11_down_10 (fun r_1 er_1 => ?_)
  subst er_1
  refine lv_if_eq (tgt := 24) hx hb dX11_down_13 (by decide) (fun _ => ?_) (fun q => absurd q (by decide))
  refine lv_iconst (v := (-1)) hx hb dX11_down_24 (by decide) ?_
  exact KP.rt F rfl (rfl) dX11_down_25

set_option maxHeartbeats 4000000 in
set_option maxRecDepth 100000 in
theorem x_bestAim (l : Launch) (D : va_G) (cy : Nat → ClassId) (h0 tp gr rr ru nw im ac py fo su : Nat) (fd bg nt fc : Nat) (x0 : Int32) (x1 : Int32) : KP l yX11_bestAim cX11_bestAim 7 (some .int) 2 43 D (kTY cy) [.ref h0, .int x0, .int x1] [(h0, .inr (11, [.ref tp, .ref gr, .ref rr, .ref ru, .int 0, .ref nw, .ref im, .ref ac, .ref py, .ref fo, .ref su])), (nw, .inr (4, [.ref fd, .ref bg, .ref nt, .int (-1), .int 0, .int 0])), (fd, .inr (1, [.ref fc])), (fc, .inl (cy 0, 63, .inl (fun _ => 0)))] (fun r => r = (-2)) := by
  refine KP.of (by decide) (Nat.le_of_ble_eq_true rfl) (fun p e s m below meth c ls F hE hP hl => ?_)
  have F : kF p s m meth c cX11_bestAim 7 (some .int) _ RX11 := F
  obtain ⟨hx, hb, hr, hml, hown, hG, hlk⟩ := id F
  have hl : lv_has ls 7 [(0, .ref h0), (1, .int x0), (2, .int x1)] := hl
  refine lv_aload_n hx hb dX11_bestAim_0 rfl (lv_at hl 0 rfl) ?_
  refine va_get (D := D) (ci := 11) (v := .ref nw) (C := RX11) (T := TX11) (N := 11) hx hb hG inG_X11 hown hE.1 hP 0 rfl rfl 5 (by decide) (hG _ q_f_X11_43) (fun _ h9 => h9) rfl dX11_bestAim_1 ?_
  refine va_get (D := D) (ci := 4) (v := .ref fd) (C := RX4) (T := TX4) (N := 6) hx hb hG inG_X4 hown hE.1 hP 1 rfl rfl 0 (by decide) (hG _ q_f_X11_111) (fun _ h9 => h9) rfl dX11_bestAim_4 ?_
  refine lv_astore_n (lv' := [(3, .ref fd), (0, .ref h0), (1, .int x0), (2, .int x1)]) hx hb dX11_bestAim_7 rfl hl (by decide) rfl (fun ls hl => ?_)
  refine lv_aload_n hx hb dX11_bestAim_8 rfl (lv_at hl 0 rfl) ?_
  refine lv_iload_n hx hb dX11_bestAim_9 rfl (lv_at hl 2 rfl) ?_
  refine kcV (As := [.int x0]) (rest := []) F hE hP hl.1 (c_hasArcher l D cy (fd := fd) (x0 := x0) (fc := fc)) q_m_X11_139 mv_X1_hasArcher ⟨(Nat.le_of_ble_eq_true rfl), (Nat.le_of_ble_eq_true rfl)⟩ [2, 3] rfl rfl rfl rfl rfl rfl (Nat.le_of_ble_eq_true rfl) ⟨(Nat.le_of_ble_eq_true rfl), (Nat.le_of_ble_eq_true rfl)⟩ dX11_bestAim_10 (fun r_1 er_1 => ?_)
  subst er_1
  refine lv_if_eq (tgt := 25) hx hb dX11_bestAim_13 (by decide) (fun _ => ?_) (fun q => absurd q (by decide))
  refine lv_bipush (v := (-2)) hx hb dX11_bestAim_25 (by decide) ?_
  exact KP.rt F rfl (rfl) dX11_bestAim_27

set_option maxHeartbeats 4000000 in
set_option maxRecDepth 100000 in
theorem x_row (l : Launch) (D : va_G) (cy : Nat → ClassId) (h0 tp gr rr ru nw im ac py fo su : Nat) (fd bg nt fc : Nat) (x0 : Int32) (x1 : Int32) (x2 : Int32) : KP l yX11_row cX11_row 4 (some .int) 2 43 D (kTY cy) [.ref h0, .int x0, .int x1, .int x2] [(h0, .inr (11, [.ref tp, .ref gr, .ref rr, .ref ru, .int 0, .ref nw, .ref im, .ref ac, .ref py, .ref fo, .ref su])), (nw, .inr (4, [.ref fd, .ref bg, .ref nt, .int (-1), .int 0, .int 0])), (fd, .inr (1, [.ref fc])), (fc, .inl (cy 0, 63, .inl (fun _ => 0)))] (fun r => r = (-3)) := by
  refine KP.of (by decide) (Nat.le_of_ble_eq_true rfl) (fun p e s m below meth c ls F hE hP hl => ?_)
  have F : kF p s m meth c cX11_row 4 (some .int) _ RX11 := F
  obtain ⟨hx, hb, hr, hml, hown, hG, hlk⟩ := id F
  have hl : lv_has ls 4 [(0, .ref h0), (1, .int x0), (2, .int x1), (3, .int x2)] := hl
  refine lv_aload_n hx hb dX11_row_0 rfl (lv_at hl 0 rfl) ?_
  refine va_get (D := D) (ci := 11) (v := .ref nw) (C := RX11) (T := TX11) (N := 11) hx hb hG inG_X11 hown hE.1 hP 0 rfl rfl 5 (by decide) (hG _ q_f_X11_43) (fun _ h9 => h9) rfl dX11_row_1 ?_
  refine va_get (D := D) (ci := 4) (v := .ref fd) (C := RX4) (T := TX4) (N := 6) hx hb hG inG_X4 hown hE.1 hP 1 rfl rfl 0 (by decide) (hG _ q_f_X11_111) (fun _ h9 => h9) rfl dX11_row_4 ?_
  refine lv_iload_n hx hb dX11_row_7 rfl (lv_at hl 1 rfl) ?_
  refine kcV (As := [.int x0]) (rest := []) F hE hP hl.1 (c_hasArcher l D cy (fd := fd) (x0 := x0) (fc := fc)) q_m_X11_139 mv_X1_hasArcher ⟨(Nat.le_of_ble_eq_true rfl), (Nat.le_of_ble_eq_true rfl)⟩ [2, 3] rfl rfl rfl rfl rfl rfl (Nat.le_of_ble_eq_true rfl) ⟨(Nat.le_of_ble_eq_true rfl), (Nat.le_of_ble_eq_true rfl)⟩ dX11_row_8 (fun r_1 er_1 => ?_)
  subst er_1
  refine lv_if_eq (tgt := 32) hx hb dX11_row_11 (by decide) (fun _ => ?_) (fun q => absurd q (by decide))
  refine lv_bipush (v := (-3)) hx hb dX11_row_32 (by decide) ?_
  exact KP.rt F rfl (rfl) dX11_row_34

set_option maxHeartbeats 4000000 in
set_option maxRecDepth 100000 in
theorem x_hold (l : Launch) (D : va_G) (cy : Nat → ClassId) (h0 tp gr rr ru nw im ac py fo su : Nat) (fd bg nt fc : Nat) (x0 : Int32) : KP l yX11_hold cX11_hold 5 (some .int) 2 43 D (kTY cy) [.ref h0, .int x0] [(h0, .inr (11, [.ref tp, .ref gr, .ref rr, .ref ru, .int 0, .ref nw, .ref im, .ref ac, .ref py, .ref fo, .ref su])), (nw, .inr (4, [.ref fd, .ref bg, .ref nt, .int (-1), .int 0, .int 0])), (fd, .inr (1, [.ref fc])), (fc, .inl (cy 0, 63, .inl (fun _ => 0)))] (fun r => r = (-1)) := by
  refine KP.of (by decide) (Nat.le_of_ble_eq_true rfl) (fun p e s m below meth c ls F hE hP hl => ?_)
  have F : kF p s m meth c cX11_hold 5 (some .int) _ RX11 := F
  obtain ⟨hx, hb, hr, hml, hown, hG, hlk⟩ := id F
  have hl : lv_has ls 5 [(0, .ref h0), (1, .int x0)] := hl
  refine lv_aload_n hx hb dX11_hold_0 rfl (lv_at hl 0 rfl) ?_
  refine va_get (D := D) (ci := 11) (v := .ref nw) (C := RX11) (T := TX11) (N := 11) hx hb hG inG_X11 hown hE.1 hP 0 rfl rfl 5 (by decide) (hG _ q_f_X11_43) (fun _ h9 => h9) rfl dX11_hold_1 ?_
  refine va_get (D := D) (ci := 4) (v := .ref fd) (C := RX4) (T := TX4) (N := 6) hx hb hG inG_X4 hown hE.1 hP 1 rfl rfl 0 (by decide) (hG _ q_f_X11_111) (fun _ h9 => h9) rfl dX11_hold_4 ?_
  refine lv_astore_n (lv' := [(2, .ref fd), (0, .ref h0), (1, .int x0)]) hx hb dX11_hold_7 rfl hl (by decide) rfl (fun ls hl => ?_)
  refine lv_aload_n hx hb dX11_hold_8 rfl (lv_at hl 0 rfl) ?_
  refine lv_iload_n hx hb dX11_hold_9 rfl (lv_at hl 2 rfl) ?_
  refine kcV (As := [.int x0]) (rest := []) F hE hP hl.1 (c_hasArcher l D cy (fd := fd) (x0 := x0) (fc := fc)) q_m_X11_139 mv_X1_hasArcher ⟨(Nat.le_of_ble_eq_true rfl), (Nat.le_of_ble_eq_true rfl)⟩ [2, 3] rfl rfl rfl rfl rfl rfl (Nat.le_of_ble_eq_true rfl) ⟨(Nat.le_of_ble_eq_true rfl), (Nat.le_of_ble_eq_true rfl)⟩ dX11_hold_10 (fun r_1 er_1 => ?_)
  subst er_1
  refine lv_if_ne (tgt := 18) hx hb dX11_hold_13 (by decide) (fun q => absurd q (by decide)) (fun _ => ?_)
  refine lv_iconst (v := (-1)) hx hb dX11_hold_16 (by decide) ?_
  exact KP.rt F rfl (rfl) dX11_hold_17

set_option maxHeartbeats 4000000 in
set_option maxRecDepth 100000 in
theorem x_leastSkill (l : Launch) (D : va_G) (cy : Nat → ClassId) (h0 tp gr rr ru nw im ac py fo su : Nat) (fd bg nt fc : Nat) (x0 : Int32) (x1 : Int32) : KP l yX11_leastSkill cX11_leastSkill 4 (some .int) 2 43 D (kTY cy) [.ref h0, .int x0, .int x1] [(h0, .inr (11, [.ref tp, .ref gr, .ref rr, .ref ru, .int 0, .ref nw, .ref im, .ref ac, .ref py, .ref fo, .ref su])), (nw, .inr (4, [.ref fd, .ref bg, .ref nt, .int (-1), .int 0, .int 0])), (fd, .inr (1, [.ref fc])), (fc, .inl (cy 0, 63, .inl (fun _ => 0)))] (fun r => r = (-1)) := by
  refine KP.of (by decide) (Nat.le_of_ble_eq_true rfl) (fun p e s m below meth c ls F hE hP hl => ?_)
  have F : kF p s m meth c cX11_leastSkill 4 (some .int) _ RX11 := F
  obtain ⟨hx, hb, hr, hml, hown, hG, hlk⟩ := id F
  have hl : lv_has ls 4 [(0, .ref h0), (1, .int x0), (2, .int x1)] := hl
  refine lv_aload_n hx hb dX11_leastSkill_0 rfl (lv_at hl 0 rfl) ?_
  refine va_get (D := D) (ci := 11) (v := .ref nw) (C := RX11) (T := TX11) (N := 11) hx hb hG inG_X11 hown hE.1 hP 0 rfl rfl 5 (by decide) (hG _ q_f_X11_43) (fun _ h9 => h9) rfl dX11_leastSkill_1 ?_
  refine va_get (D := D) (ci := 4) (v := .ref fd) (C := RX4) (T := TX4) (N := 6) hx hb hG inG_X4 hown hE.1 hP 1 rfl rfl 0 (by decide) (hG _ q_f_X11_111) (fun _ h9 => h9) rfl dX11_leastSkill_4 ?_
  refine lv_iload_n hx hb dX11_leastSkill_7 rfl (lv_at hl 1 rfl) ?_
  refine kcV (As := [.int x0]) (rest := []) F hE hP hl.1 (c_hasArcher l D cy (fd := fd) (x0 := x0) (fc := fc)) q_m_X11_139 mv_X1_hasArcher ⟨(Nat.le_of_ble_eq_true rfl), (Nat.le_of_ble_eq_true rfl)⟩ [2, 3] rfl rfl rfl rfl rfl rfl (Nat.le_of_ble_eq_true rfl) ⟨(Nat.le_of_ble_eq_true rfl), (Nat.le_of_ble_eq_true rfl)⟩ dX11_leastSkill_8 (fun r_1 er_1 => ?_)
  subst er_1
  refine lv_if_eq (tgt := 24) hx hb dX11_leastSkill_11 (by decide) (fun _ => ?_) (fun q => absurd q (by decide))
  refine lv_iconst (v := (-1)) hx hb dX11_leastSkill_24 (by decide) ?_
  exact KP.rt F rfl (rfl) dX11_leastSkill_25

set_option maxHeartbeats 4000000 in
set_option maxRecDepth 100000 in
theorem x_set (l : Launch) (D : va_G) (cy : Nat → ClassId) (h0 tp gr rr ru nw im ac py fo su : Nat) (fd bg nt fc : Nat) (x0 : Int32) (x1 : Int32) (x2 : Int32) : KP l yX11_set cX11_set 4 (some .int) 2 43 D (kTY cy) [.ref h0, .int x0, .int x1, .int x2] [(h0, .inr (11, [.ref tp, .ref gr, .ref rr, .ref ru, .int 0, .ref nw, .ref im, .ref ac, .ref py, .ref fo, .ref su])), (nw, .inr (4, [.ref fd, .ref bg, .ref nt, .int (-1), .int 0, .int 0])), (fd, .inr (1, [.ref fc])), (fc, .inl (cy 0, 63, .inl (fun _ => 0)))] (fun r => r = (-1)) := by
  refine KP.of (by decide) (Nat.le_of_ble_eq_true rfl) (fun p e s m below meth c ls F hE hP hl => ?_)
  have F : kF p s m meth c cX11_set 4 (some .int) _ RX11 := F
  obtain ⟨hx, hb, hr, hml, hown, hG, hlk⟩ := id F
  have hl : lv_has ls 4 [(0, .ref h0), (1, .int x0), (2, .int x1), (3, .int x2)] := hl
  refine lv_aload_n hx hb dX11_set_0 rfl (lv_at hl 0 rfl) ?_
  refine va_get (D := D) (ci := 11) (v := .ref nw) (C := RX11) (T := TX11) (N := 11) hx hb hG inG_X11 hown hE.1 hP 0 rfl rfl 5 (by decide) (hG _ q_f_X11_43) (fun _ h9 => h9) rfl dX11_set_1 ?_
  refine va_get (D := D) (ci := 4) (v := .ref fd) (C := RX4) (T := TX4) (N := 6) hx hb hG inG_X4 hown hE.1 hP 1 rfl rfl 0 (by decide) (hG _ q_f_X11_111) (fun _ h9 => h9) rfl dX11_set_4 ?_
  refine lv_iload_n hx hb dX11_set_7 rfl (lv_at hl 1 rfl) ?_
  refine kcV (As := [.int x0]) (rest := []) F hE hP hl.1 (c_hasRing l D cy (fd := fd) (x0 := x0) (fc := fc)) q_m_X11_136 mv_X1_hasRing ⟨(Nat.le_of_ble_eq_true rfl), (Nat.le_of_ble_eq_true rfl)⟩ [2, 3] rfl rfl rfl rfl rfl rfl (Nat.le_of_ble_eq_true rfl) ⟨(Nat.le_of_ble_eq_true rfl), (Nat.le_of_ble_eq_true rfl)⟩ dX11_set_8 (fun r_1 er_1 => ?_)
  subst er_1
  refine lv_if_eq (tgt := 33) hx hb dX11_set_11 (by decide) (fun _ => ?_) (fun q => absurd q (by decide))
  refine lv_iconst (v := (-1)) hx hb dX11_set_33 (by decide) ?_
  exact KP.rt F rfl (rfl) dX11_set_34

set_option maxHeartbeats 4000000 in
set_option maxRecDepth 100000 in
theorem x_given (l : Launch) (D : va_G) (cy : Nat → ClassId) (h0 tp gr rr ru nw im ac py fo su : Nat) (fd bg nt fc : Nat) (x0 : Int32) (x1 : Int32) : KP l yX11_given cX11_given 3 (some .int) 1 20 D (kTY cy) [.ref h0, .int x0, .int x1] [(h0, .inr (11, [.ref tp, .ref gr, .ref rr, .ref ru, .int 0, .ref nw, .ref im, .ref ac, .ref py, .ref fo, .ref su])), (nw, .inr (4, [.ref fd, .ref bg, .ref nt, .int (-1), .int 0, .int 0])), (fd, .inr (1, [.ref fc])), (fc, .inl (cy 0, 63, .inl (fun _ => 0)))] (fun r => r = (-2)) := by
  refine KP.of (by decide) (Nat.le_of_ble_eq_true rfl) (fun p e s m below meth c ls F hE hP hl => ?_)
  have F : kF p s m meth c cX11_given 3 (some .int) _ RX11 := F
  obtain ⟨hx, hb, hr, hml, hown, hG, hlk⟩ := id F
  have hl : lv_has ls 3 [(0, .ref h0), (1, .int x0), (2, .int x1)] := hl
  refine lv_aload_n hx hb dX11_given_0 rfl (lv_at hl 0 rfl) ?_
  refine va_get (D := D) (ci := 11) (v := .ref nw) (C := RX11) (T := TX11) (N := 11) hx hb hG inG_X11 hown hE.1 hP 0 rfl rfl 5 (by decide) (hG _ q_f_X11_43) (fun _ h9 => h9) rfl dX11_given_1 ?_
  refine va_get (D := D) (ci := 4) (v := .ref fd) (C := RX4) (T := TX4) (N := 6) hx hb hG inG_X4 hown hE.1 hP 1 rfl rfl 0 (by decide) (hG _ q_f_X11_111) (fun _ h9 => h9) rfl dX11_given_4 ?_
  refine kcV (As := []) (rest := []) F hE hP hl.1 (c_isTold l D cy (fd := fd) (fc := fc)) q_m_X11_152 mv_X1_isTold ⟨(Nat.le_of_ble_eq_true rfl), (Nat.le_of_ble_eq_true rfl)⟩ [2, 3] rfl rfl rfl rfl rfl rfl (Nat.le_of_ble_eq_true rfl) ⟨(Nat.le_of_ble_eq_true rfl), (Nat.le_of_ble_eq_true rfl)⟩ dX11_given_7 (fun r_1 er_1 => ?_)
  subst er_1
  refine lv_if_eq (tgt := 32) hx hb dX11_given_10 (by decide) (fun _ => ?_) (fun q => absurd q (by decide))
  refine lv_bipush (v := (-2)) hx hb dX11_given_32 (by decide) ?_
  exact KP.rt F rfl (rfl) dX11_given_34

set_option maxHeartbeats 4000000 in
set_option maxRecDepth 100000 in
theorem x_rests (l : Launch) (D : va_G) (cy : Nat → ClassId) (h0 tp gr rr ru nw im ac py fo su : Nat) (fd bg nt fc : Nat) (x0 : Int32) (x1 : Int32) (x2 : Int32) (x3 : Int32) : KP l yX11_rests cX11_rests 5 (some .int) 2 43 D (kTY cy) [.ref h0, .int x0, .int x1, .int x2, .int x3] [(h0, .inr (11, [.ref tp, .ref gr, .ref rr, .ref ru, .int 0, .ref nw, .ref im, .ref ac, .ref py, .ref fo, .ref su])), (nw, .inr (4, [.ref fd, .ref bg, .ref nt, .int (-1), .int 0, .int 0])), (fd, .inr (1, [.ref fc])), (fc, .inl (cy 0, 63, .inl (fun _ => 0)))] (fun r => r = (-1)) := by
  refine KP.of (by decide) (Nat.le_of_ble_eq_true rfl) (fun p e s m below meth c ls F hE hP hl => ?_)
  have F : kF p s m meth c cX11_rests 5 (some .int) _ RX11 := F
  obtain ⟨hx, hb, hr, hml, hown, hG, hlk⟩ := id F
  have hl : lv_has ls 5 [(0, .ref h0), (1, .int x0), (2, .int x1), (3, .int x2), (4, .int x3)] := hl
  refine lv_aload_n hx hb dX11_rests_0 rfl (lv_at hl 0 rfl) ?_
  refine va_get (D := D) (ci := 11) (v := .ref nw) (C := RX11) (T := TX11) (N := 11) hx hb hG inG_X11 hown hE.1 hP 0 rfl rfl 5 (by decide) (hG _ q_f_X11_43) (fun _ h9 => h9) rfl dX11_rests_1 ?_
  refine va_get (D := D) (ci := 4) (v := .ref fd) (C := RX4) (T := TX4) (N := 6) hx hb hG inG_X4 hown hE.1 hP 1 rfl rfl 0 (by decide) (hG _ q_f_X11_111) (fun _ h9 => h9) rfl dX11_rests_4 ?_
  refine lv_iload_n hx hb dX11_rests_7 rfl (lv_at hl 1 rfl) ?_
  refine kcV (As := [.int x0]) (rest := []) F hE hP hl.1 (c_hasArcher l D cy (fd := fd) (x0 := x0) (fc := fc)) q_m_X11_139 mv_X1_hasArcher ⟨(Nat.le_of_ble_eq_true rfl), (Nat.le_of_ble_eq_true rfl)⟩ [2, 3] rfl rfl rfl rfl rfl rfl (Nat.le_of_ble_eq_true rfl) ⟨(Nat.le_of_ble_eq_true rfl), (Nat.le_of_ble_eq_true rfl)⟩ dX11_rests_8 (fun r_1 er_1 => ?_)
  subst er_1
  refine lv_if_eq (tgt := 33) hx hb dX11_rests_11 (by decide) (fun _ => ?_) (fun q => absurd q (by decide))
  refine lv_iconst (v := (-1)) hx hb dX11_rests_33 (by decide) ?_
  exact KP.rt F rfl (rfl) dX11_rests_34

set_option maxHeartbeats 4000000 in
set_option maxRecDepth 100000 in
theorem x_pence (l : Launch) (D : va_G) (cy : Nat → ClassId) (h0 tp gr rr ru nw im ac py fo su : Nat) (fd bg nt fc : Nat) (x0 : Int32) (x1 : Int32) : KP l yX11_pence cX11_pence 3 (some .int) 2 43 D (kTY cy) [.ref h0, .int x0, .int x1] [(h0, .inr (11, [.ref tp, .ref gr, .ref rr, .ref ru, .int 0, .ref nw, .ref im, .ref ac, .ref py, .ref fo, .ref su])), (nw, .inr (4, [.ref fd, .ref bg, .ref nt, .int (-1), .int 0, .int 0])), (fd, .inr (1, [.ref fc])), (fc, .inl (cy 0, 63, .inl (fun _ => 0)))] (fun r => r = (-1)) := by
  refine KP.of (by decide) (Nat.le_of_ble_eq_true rfl) (fun p e s m below meth c ls F hE hP hl => ?_)
  have F : kF p s m meth c cX11_pence 3 (some .int) _ RX11 := F
  obtain ⟨hx, hb, hr, hml, hown, hG, hlk⟩ := id F
  have hl : lv_has ls 3 [(0, .ref h0), (1, .int x0), (2, .int x1)] := hl
  refine lv_iload_n hx hb dX11_pence_0 rfl (lv_at hl 1 rfl) ?_
  refine lv_iconst (v := 0) hx hb dX11_pence_1 (by decide) ?_
  refine lv_sipush (v := 9999) hx hb dX11_pence_2 (by decide) ?_
  refine kcS (As := [.int x0, .int 0, .int 9999]) (rest := []) F hE hP hl.1 (c_within l D cy (x0 := x0) (x1 := 0) (x2 := 9999)) q_m_X11_90 ms_X11_within ⟨(Nat.le_of_ble_eq_true rfl), (Nat.le_of_ble_eq_true rfl)⟩ [] rfl rfl rfl (Nat.le_of_ble_eq_true rfl) ⟨(Nat.le_of_ble_eq_true rfl), (Nat.le_of_ble_eq_true rfl)⟩ dX11_pence_5 (fun r_1 er_1 => ?_)
  refine lv_if_eq (tgt := 25) hx hb dX11_pence_8 (by decide) (fun c_2 => ?_) (fun c_2 => ?_)
  · refine lv_iconst (v := (-1)) hx hb dX11_pence_25 (by decide) ?_
    exact KP.rt F rfl (rfl) dX11_pence_26
  · refine lv_aload_n hx hb dX11_pence_11 rfl (lv_at hl 0 rfl) ?_
    refine va_get (D := D) (ci := 11) (v := .ref nw) (C := RX11) (T := TX11) (N := 11) hx hb hG inG_X11 hown hE.1 hP 0 rfl rfl 5 (by decide) (hG _ q_f_X11_43) (fun _ h9 => h9) rfl dX11_pence_12 ?_
    refine va_get (D := D) (ci := 4) (v := .ref fd) (C := RX4) (T := TX4) (N := 6) hx hb hG inG_X4 hown hE.1 hP 1 rfl rfl 0 (by decide) (hG _ q_f_X11_111) (fun _ h9 => h9) rfl dX11_pence_15 ?_
    refine lv_iload_n hx hb dX11_pence_18 rfl (lv_at hl 2 rfl) ?_
    refine kcV (As := [.int x1]) (rest := []) F hE hP hl.1 (c_hasRing l D cy (fd := fd) (x0 := x1) (fc := fc)) q_m_X11_136 mv_X1_hasRing ⟨(Nat.le_of_ble_eq_true rfl), (Nat.le_of_ble_eq_true rfl)⟩ [2, 3] rfl rfl rfl rfl rfl rfl (Nat.le_of_ble_eq_true rfl) ⟨(Nat.le_of_ble_eq_true rfl), (Nat.le_of_ble_eq_true rfl)⟩ dX11_pence_19 (fun r_3 er_3 => ?_)
    subst er_3
    refine lv_if_ne (tgt := 27) hx hb dX11_pence_22 (by decide) (fun q => absurd q (by decide)) (fun _ => ?_)
    refine lv_iconst (v := (-1)) hx hb dX11_pence_25 (by decide) ?_
    exact KP.rt F rfl (rfl) dX11_pence_26

set_option maxHeartbeats 4000000 in
set_option maxRecDepth 100000 in
theorem x_skilled (l : Launch) (D : va_G) (cy : Nat → ClassId) (h0 tp gr rr ru nw im ac py fo su : Nat) (fd bg nt fc : Nat) (x0 : Int32) : KP l yX11_skilled cX11_skilled 2 (some .int) 2 43 D (kTY cy) [.ref h0, .int x0] [(h0, .inr (11, [.ref tp, .ref gr, .ref rr, .ref ru, .int 0, .ref nw, .ref im, .ref ac, .ref py, .ref fo, .ref su])), (nw, .inr (4, [.ref fd, .ref bg, .ref nt, .int (-1), .int 0, .int 0])), (fd, .inr (1, [.ref fc])), (fc, .inl (cy 0, 63, .inl (fun _ => 0)))] (fun r => r = (-1)) := by
  refine KP.of (by decide) (Nat.le_of_ble_eq_true rfl) (fun p e s m below meth c ls F hE hP hl => ?_)
  have F : kF p s m meth c cX11_skilled 2 (some .int) _ RX11 := F
  obtain ⟨hx, hb, hr, hml, hown, hG, hlk⟩ := id F
  have hl : lv_has ls 2 [(0, .ref h0), (1, .int x0)] := hl
  refine lv_aload_n hx hb dX11_skilled_0 rfl (lv_at hl 0 rfl) ?_
  refine va_get (D := D) (ci := 11) (v := .ref nw) (C := RX11) (T := TX11) (N := 11) hx hb hG inG_X11 hown hE.1 hP 0 rfl rfl 5 (by decide) (hG _ q_f_X11_43) (fun _ h9 => h9) rfl dX11_skilled_1 ?_
  refine va_get (D := D) (ci := 4) (v := .ref fd) (C := RX4) (T := TX4) (N := 6) hx hb hG inG_X4 hown hE.1 hP 1 rfl rfl 0 (by decide) (hG _ q_f_X11_111) (fun _ h9 => h9) rfl dX11_skilled_4 ?_
  refine lv_iload_n hx hb dX11_skilled_7 rfl (lv_at hl 1 rfl) ?_
  refine kcV (As := [.int x0]) (rest := []) F hE hP hl.1 (c_hasArcher l D cy (fd := fd) (x0 := x0) (fc := fc)) q_m_X11_139 mv_X1_hasArcher ⟨(Nat.le_of_ble_eq_true rfl), (Nat.le_of_ble_eq_true rfl)⟩ [2, 3] rfl rfl rfl rfl rfl rfl (Nat.le_of_ble_eq_true rfl) ⟨(Nat.le_of_ble_eq_true rfl), (Nat.le_of_ble_eq_true rfl)⟩ dX11_skilled_8 (fun r_1 er_1 => ?_)
  subst er_1
  refine lv_if_ne (tgt := 16) hx hb dX11_skilled_11 (by decide) (fun q => absurd q (by decide)) (fun _ => ?_)
  refine lv_iconst (v := (-1)) hx hb dX11_skilled_14 (by decide) ?_
  exact KP.rt F rfl (rfl) dX11_skilled_15

set_option maxHeartbeats 4000000 in
set_option maxRecDepth 100000 in
theorem x_ails (l : Launch) (D : va_G) (cy : Nat → ClassId) (h0 tp gr rr ru nw im ac py fo su : Nat) (fd bg nt fc : Nat) (x0 : Int32) : KP l yX11_ails cX11_ails 3 (some .int) 2 43 D (kTY cy) [.ref h0, .int x0] [(h0, .inr (11, [.ref tp, .ref gr, .ref rr, .ref ru, .int 0, .ref nw, .ref im, .ref ac, .ref py, .ref fo, .ref su])), (nw, .inr (4, [.ref fd, .ref bg, .ref nt, .int (-1), .int 0, .int 0])), (fd, .inr (1, [.ref fc])), (fc, .inl (cy 0, 63, .inl (fun _ => 0)))] (fun r => r = (-1)) := by
  refine KP.of (by decide) (Nat.le_of_ble_eq_true rfl) (fun p e s m below meth c ls F hE hP hl => ?_)
  have F : kF p s m meth c cX11_ails 3 (some .int) _ RX11 := F
  obtain ⟨hx, hb, hr, hml, hown, hG, hlk⟩ := id F
  have hl : lv_has ls 3 [(0, .ref h0), (1, .int x0)] := hl
  refine lv_aload_n hx hb dX11_ails_0 rfl (lv_at hl 0 rfl) ?_
  refine va_get (D := D) (ci := 11) (v := .ref nw) (C := RX11) (T := TX11) (N := 11) hx hb hG inG_X11 hown hE.1 hP 0 rfl rfl 5 (by decide) (hG _ q_f_X11_43) (fun _ h9 => h9) rfl dX11_ails_1 ?_
  refine va_get (D := D) (ci := 4) (v := .ref fd) (C := RX4) (T := TX4) (N := 6) hx hb hG inG_X4 hown hE.1 hP 1 rfl rfl 0 (by decide) (hG _ q_f_X11_111) (fun _ h9 => h9) rfl dX11_ails_4 ?_
  refine lv_iload_n hx hb dX11_ails_7 rfl (lv_at hl 1 rfl) ?_
  refine kcV (As := [.int x0]) (rest := []) F hE hP hl.1 (c_hasArcher l D cy (fd := fd) (x0 := x0) (fc := fc)) q_m_X11_139 mv_X1_hasArcher ⟨(Nat.le_of_ble_eq_true rfl), (Nat.le_of_ble_eq_true rfl)⟩ [2, 3] rfl rfl rfl rfl rfl rfl (Nat.le_of_ble_eq_true rfl) ⟨(Nat.le_of_ble_eq_true rfl), (Nat.le_of_ble_eq_true rfl)⟩ dX11_ails_8 (fun r_1 er_1 => ?_)
  subst er_1
  refine lv_if_ne (tgt := 16) hx hb dX11_ails_11 (by decide) (fun q => absurd q (by decide)) (fun _ => ?_)
  refine lv_iconst (v := (-1)) hx hb dX11_ails_14 (by decide) ?_
  exact KP.rt F rfl (rfl) dX11_ails_15

set_option maxHeartbeats 4000000 in
set_option maxRecDepth 100000 in
theorem x_ruled (l : Launch) (D : va_G) (cy : Nat → ClassId) (h0 tp gr rr ru nw im ac py fo su : Nat) (fd bg nt fc : Nat) (x0 : Int32) : KP l yX11_ruled cX11_ruled 2 (some .int) 1 20 D (kTY cy) [.ref h0, .int x0] [(h0, .inr (11, [.ref tp, .ref gr, .ref rr, .ref ru, .int 0, .ref nw, .ref im, .ref ac, .ref py, .ref fo, .ref su])), (nw, .inr (4, [.ref fd, .ref bg, .ref nt, .int (-1), .int 0, .int 0])), (fd, .inr (1, [.ref fc])), (fc, .inl (cy 0, 63, .inl (fun _ => 0)))] (fun r => r = (-3)) := by
  refine KP.of (by decide) (Nat.le_of_ble_eq_true rfl) (fun p e s m below meth c ls F hE hP hl => ?_)
  have F : kF p s m meth c cX11_ruled 2 (some .int) _ RX11 := F
  obtain ⟨hx, hb, hr, hml, hown, hG, hlk⟩ := id F
  have hl : lv_has ls 2 [(0, .ref h0), (1, .int x0)] := hl
  refine lv_aload_n hx hb dX11_ruled_0 rfl (lv_at hl 0 rfl) ?_
  refine va_get (D := D) (ci := 11) (v := .ref nw) (C := RX11) (T := TX11) (N := 11) hx hb hG inG_X11 hown hE.1 hP 0 rfl rfl 5 (by decide) (hG _ q_f_X11_43) (fun _ h9 => h9) rfl dX11_ruled_1 ?_
  refine va_get (D := D) (ci := 4) (v := .ref fd) (C := RX4) (T := TX4) (N := 6) hx hb hG inG_X4 hown hE.1 hP 1 rfl rfl 0 (by decide) (hG _ q_f_X11_111) (fun _ h9 => h9) rfl dX11_ruled_4 ?_
  refine kcV (As := []) (rest := []) F hE hP hl.1 (c_isTold l D cy (fd := fd) (fc := fc)) q_m_X11_152 mv_X1_isTold ⟨(Nat.le_of_ble_eq_true rfl), (Nat.le_of_ble_eq_true rfl)⟩ [2, 3] rfl rfl rfl rfl rfl rfl (Nat.le_of_ble_eq_true rfl) ⟨(Nat.le_of_ble_eq_true rfl), (Nat.le_of_ble_eq_true rfl)⟩ dX11_ruled_7 (fun r_1 er_1 => ?_)
  subst er_1
  refine lv_if_eq (tgt := 22) hx hb dX11_ruled_10 (by decide) (fun _ => ?_) (fun q => absurd q (by decide))
  refine lv_bipush (v := (-3)) hx hb dX11_ruled_22 (by decide) ?_
  exact KP.rt F rfl (rfl) dX11_ruled_24

set_option maxHeartbeats 4000000 in
set_option maxRecDepth 100000 in
theorem x_look (l : Launch) (D : va_G) (cy : Nat → ClassId) (h0 tp gr rr ru nw im ac py fo su : Nat) (fd bg nt fc : Nat) (x0 : Int32) (x1 : Int32) : KP l yX11_look cX11_look 5 (some .int) 1 20 D (kTY cy) [.ref h0, .int x0, .int x1] [(h0, .inr (11, [.ref tp, .ref gr, .ref rr, .ref ru, .int 0, .ref nw, .ref im, .ref ac, .ref py, .ref fo, .ref su])), (nw, .inr (4, [.ref fd, .ref bg, .ref nt, .int (-1), .int 0, .int 0])), (fd, .inr (1, [.ref fc])), (fc, .inl (cy 0, 63, .inl (fun _ => 0)))] (fun r => r = (-1)) := by
  refine KP.of (by decide) (Nat.le_of_ble_eq_true rfl) (fun p e s m below meth c ls F hE hP hl => ?_)
  have F : kF p s m meth c cX11_look 5 (some .int) _ RX11 := F
  obtain ⟨hx, hb, hr, hml, hown, hG, hlk⟩ := id F
  have hl : lv_has ls 5 [(0, .ref h0), (1, .int x0), (2, .int x1)] := hl
  refine lv_aload_n hx hb dX11_look_0 rfl (lv_at hl 0 rfl) ?_
  refine va_get (D := D) (ci := 11) (v := .ref nw) (C := RX11) (T := TX11) (N := 11) hx hb hG inG_X11 hown hE.1 hP 0 rfl rfl 5 (by decide) (hG _ q_f_X11_43) (fun _ h9 => h9) rfl dX11_look_1 ?_
  refine va_get (D := D) (ci := 4) (v := .ref fd) (C := RX4) (T := TX4) (N := 6) hx hb hG inG_X4 hown hE.1 hP 1 rfl rfl 0 (by decide) (hG _ q_f_X11_111) (fun _ h9 => h9) rfl dX11_look_4 ?_
  refine kcV (As := []) (rest := []) F hE hP hl.1 (c_isTold l D cy (fd := fd) (fc := fc)) q_m_X11_152 mv_X1_isTold ⟨(Nat.le_of_ble_eq_true rfl), (Nat.le_of_ble_eq_true rfl)⟩ [2, 3] rfl rfl rfl rfl rfl rfl (Nat.le_of_ble_eq_true rfl) ⟨(Nat.le_of_ble_eq_true rfl), (Nat.le_of_ble_eq_true rfl)⟩ dX11_look_7 (fun r_1 er_1 => ?_)
  subst er_1
  refine lv_if_eq (tgt := 32) hx hb dX11_look_10 (by decide) (fun _ => ?_) (fun q => absurd q (by decide))
  refine lv_iconst (v := (-1)) hx hb dX11_look_32 (by decide) ?_
  exact KP.rt F rfl (rfl) dX11_look_33

set_option maxHeartbeats 4000000 in
set_option maxRecDepth 100000 in
theorem x_gusts (l : Launch) (D : va_G) (cy : Nat → ClassId) (h0 tp gr rr ru nw im ac py fo su : Nat) (fd bg nt fc : Nat) (x0 : Int32) (x1 : Int32) (x2 : Int32) (x3 : Int32) : KP l yX11_gusts cX11_gusts 8 (some .int) 1 20 D (kTY cy) [.ref h0, .int x0, .int x1, .int x2, .int x3] [(h0, .inr (11, [.ref tp, .ref gr, .ref rr, .ref ru, .int 0, .ref nw, .ref im, .ref ac, .ref py, .ref fo, .ref su])), (nw, .inr (4, [.ref fd, .ref bg, .ref nt, .int (-1), .int 0, .int 0])), (fd, .inr (1, [.ref fc])), (fc, .inl (cy 0, 63, .inl (fun _ => 0)))] (fun r => r = (-1)) := by
  refine KP.of (by decide) (Nat.le_of_ble_eq_true rfl) (fun p e s m below meth c ls F hE hP hl => ?_)
  have F : kF p s m meth c cX11_gusts 8 (some .int) _ RX11 := F
  obtain ⟨hx, hb, hr, hml, hown, hG, hlk⟩ := id F
  have hl : lv_has ls 8 [(0, .ref h0), (1, .int x0), (2, .int x1), (3, .int x2), (4, .int x3)] := hl
  refine lv_aload_n hx hb dX11_gusts_0 rfl (lv_at hl 0 rfl) ?_
  refine va_get (D := D) (ci := 11) (v := .ref nw) (C := RX11) (T := TX11) (N := 11) hx hb hG inG_X11 hown hE.1 hP 0 rfl rfl 5 (by decide) (hG _ q_f_X11_43) (fun _ h9 => h9) rfl dX11_gusts_1 ?_
  refine va_get (D := D) (ci := 4) (v := .ref fd) (C := RX4) (T := TX4) (N := 6) hx hb hG inG_X4 hown hE.1 hP 1 rfl rfl 0 (by decide) (hG _ q_f_X11_111) (fun _ h9 => h9) rfl dX11_gusts_4 ?_
  refine kcV (As := []) (rest := []) F hE hP hl.1 (c_isTold l D cy (fd := fd) (fc := fc)) q_m_X11_152 mv_X1_isTold ⟨(Nat.le_of_ble_eq_true rfl), (Nat.le_of_ble_eq_true rfl)⟩ [2, 3] rfl rfl rfl rfl rfl rfl (Nat.le_of_ble_eq_true rfl) ⟨(Nat.le_of_ble_eq_true rfl), (Nat.le_of_ble_eq_true rfl)⟩ dX11_gusts_7 (fun r_1 er_1 => ?_)
  subst er_1
  refine lv_if_eq (tgt := 33) hx hb dX11_gusts_10 (by decide) (fun _ => ?_) (fun q => absurd q (by decide))
  refine lv_iconst (v := (-1)) hx hb dX11_gusts_33 (by decide) ?_
  exact KP.rt F rfl (rfl) dX11_gusts_34

set_option maxHeartbeats 4000000 in
set_option maxRecDepth 100000 in
theorem x_undo (l : Launch) (D : va_G) (cy : Nat → ClassId) (h0 tp gr rr ru nw im ac py fo su : Nat) (aw : Nat) : KP l yX11_undo cX11_undo 1 (some .int) 0 0 D (kTY cy) [.ref h0] [(h0, .inr (11, [.ref tp, .ref gr, .ref rr, .ref ru, .int 0, .ref nw, .ref im, .ref ac, .ref py, .ref fo, .ref su])), (ac, .inr (0, [.ref aw, .int 0, .int 0]))] (fun r => r = -1) := by
  refine KP.of (by decide) (Nat.le_of_ble_eq_true rfl) (fun p e s m below meth c ls F hE hP hl => ?_)
  have F : kF p s m meth c cX11_undo 1 (some .int) _ RX11 := F
  obtain ⟨hx, hb, hr, hml, hown, hG, hlk⟩ := id F
  have hl : lv_has ls 1 [(0, .ref h0)] := hl
  refine lv_aload_n hx hb dX11_undo_0 rfl (lv_at hl 0 rfl) ?_
  refine va_get (D := D) (ci := 11) (v := .ref ac) (C := RX11) (T := TX11) (N := 11) hx hb hG inG_X11 hown hE.1 hP 0 rfl rfl 7 (by decide) (hG _ q_f_X11_54) (fun _ h9 => h9) rfl dX11_undo_1 ?_
  refine va_get (D := D) (ci := 0) (v := .int 0) (C := RX0) (T := TX0) (N := 3) hx hb hG inG_X0 hown hE.1 hP 1 rfl rfl 2 (by decide) (hG _ q_f_X11_123) (fun _ h9 => h9) rfl dX11_undo_4 ?_
  refine lv_iconst (v := 1) hx hb dX11_undo_7 (by decide) ?_
  refine lv_icmp_ge (tgt := 13) hx hb dX11_undo_8 (by decide) (fun q => absurd q (by decide)) (fun _ => ?_)
  refine lv_iconst (v := (-1)) hx hb dX11_undo_11 (by decide) ?_
  exact KP.rt F rfl (rfl) dX11_undo_12

/-- what count answers of a new object -/
def k_cnt (x : Int32) : Int32 := if x = 6 then -1 else if x = 0 ∨ x = 1 ∨ x = 2 ∨ x = 3 ∨ x = 4 ∨ x = 5 ∨ x = 7 ∨ x = 8 ∨ x = 9 ∨ x = 10 ∨ x = 11 ∨ x = 12 ∨ x = 13 ∨ x = 14 ∨ x = 15 then 0 else -1

set_option maxHeartbeats 4000000 in
set_option maxRecDepth 100000 in
theorem x_count (l : Launch) (D : va_G) (cy : Nat → ClassId) (h0 tp gr rr ru nw im ac py fo su : Nat) (fd bg nt fc : Nat) (n1 n2 n3 aw tby tki tva tpl : Nat) (x0 : Int32) : KP l yX11_count cX11_count 2 (some .int) 1 23 D (kTY cy) [.ref h0, .int x0] [(h0, .inr (11, [.ref tp, .ref gr, .ref rr, .ref ru, .int 0, .ref nw, .ref im, .ref ac, .ref py, .ref fo, .ref su])), (nw, .inr (4, [.ref fd, .ref bg, .ref nt, .int (-1), .int 0, .int 0])), (fd, .inr (1, [.ref fc])), (fc, .inl (cy 0, 63, .inl (fun _ => 0))), (nt, .inr (5, [.ref n1, .ref n2, .ref n3, .int 0])), (ac, .inr (0, [.ref aw, .int 0, .int 0])), (tp, .inr (10, [.ref tby, .int 0, .ref tki, .ref tva, .ref tpl, .int 0, .int 0, .int 0, .int 0, .int 0, .int 0]))] (fun r => r = k_cnt x0) := by
  refine KP.of (by decide) (Nat.le_of_ble_eq_true rfl) (fun p e s m below meth c ls F hE hP hl => ?_)
  have F : kF p s m meth c cX11_count 2 (some .int) _ RX11 := F
  obtain ⟨hx, hb, hr, hml, hown, hG, hlk⟩ := id F
  have hl : lv_has ls 2 [(0, .ref h0), (1, .int x0)] := hl
  refine lv_iload_n hx hb dX11_count_0 rfl (lv_at hl 1 rfl) ?_
  by_cases c_1 : x0 = 0
  · subst c_1
    refine lv_tableIn (off := 79) (tgt := 80) hx hb dX11_count_1 (by decide) (by decide) rfl (by decide) ?_
    refine lv_aload_n hx hb dX11_count_80 rfl (lv_at hl 0 rfl) ?_
    refine va_get (D := D) (ci := 11) (v := .ref nw) (C := RX11) (T := TX11) (N := 11) hx hb hG inG_X11 hown hE.1 hP 0 rfl rfl 5 (by decide) (hG _ q_f_X11_43) (fun _ h9 => h9) rfl dX11_count_81 ?_
    refine va_get (D := D) (ci := 4) (v := .ref fd) (C := RX4) (T := TX4) (N := 6) hx hb hG inG_X4 hown hE.1 hP 1 rfl rfl 0 (by decide) (hG _ q_f_X11_111) (fun _ h9 => h9) rfl dX11_count_84 ?_
    refine va_get (D := D) (ci := 1) (v := .ref fc) (C := RX1) (T := TX1) (N := 1) hx hb hG inG_X1 hown hE.1 hP 2 rfl rfl 0 (by decide) (hG _ q_f_X11_124) (fun _ h9 => h9) rfl dX11_count_87 ?_
    refine lv_iconst (v := 0) hx hb dX11_count_90 (by decide) ?_
    refine va_iald hx hb hE.1 hP 3 0 rfl rfl (by unfold vp_in; decide) dX11_count_91 ?_
    refine k_top (z := 0) rfl ?_
    exact KP.rt F rfl (by decide) dX11_count_92
  by_cases c_2 : x0 = 1
  · subst c_2
    refine lv_tableIn (off := 92) (tgt := 93) hx hb dX11_count_1 (by decide) (by decide) rfl (by decide) ?_
    refine lv_aload_n hx hb dX11_count_93 rfl (lv_at hl 0 rfl) ?_
    refine va_get (D := D) (ci := 11) (v := .ref nw) (C := RX11) (T := TX11) (N := 11) hx hb hG inG_X11 hown hE.1 hP 0 rfl rfl 5 (by decide) (hG _ q_f_X11_43) (fun _ h9 => h9) rfl dX11_count_94 ?_
    refine va_get (D := D) (ci := 4) (v := .ref fd) (C := RX4) (T := TX4) (N := 6) hx hb hG inG_X4 hown hE.1 hP 1 rfl rfl 0 (by decide) (hG _ q_f_X11_111) (fun _ h9 => h9) rfl dX11_count_97 ?_
    refine va_get (D := D) (ci := 1) (v := .ref fc) (C := RX1) (T := TX1) (N := 1) hx hb hG inG_X1 hown hE.1 hP 2 rfl rfl 0 (by decide) (hG _ q_f_X11_124) (fun _ h9 => h9) rfl dX11_count_100 ?_
    refine lv_iconst (v := 1) hx hb dX11_count_103 (by decide) ?_
    refine va_iald hx hb hE.1 hP 3 0 rfl rfl (by unfold vp_in; decide) dX11_count_104 ?_
    refine k_top (z := 0) rfl ?_
    exact KP.rt F rfl (by decide) dX11_count_105
  by_cases c_3 : x0 = 2
  · subst c_3
    refine lv_tableIn (off := 105) (tgt := 106) hx hb dX11_count_1 (by decide) (by decide) rfl (by decide) ?_
    refine lv_aload_n hx hb dX11_count_106 rfl (lv_at hl 0 rfl) ?_
    refine va_get (D := D) (ci := 11) (v := .ref nw) (C := RX11) (T := TX11) (N := 11) hx hb hG inG_X11 hown hE.1 hP 0 rfl rfl 5 (by decide) (hG _ q_f_X11_43) (fun _ h9 => h9) rfl dX11_count_107 ?_
    refine va_get (D := D) (ci := 4) (v := .ref fd) (C := RX4) (T := TX4) (N := 6) hx hb hG inG_X4 hown hE.1 hP 1 rfl rfl 0 (by decide) (hG _ q_f_X11_111) (fun _ h9 => h9) rfl dX11_count_110 ?_
    refine va_get (D := D) (ci := 1) (v := .ref fc) (C := RX1) (T := TX1) (N := 1) hx hb hG inG_X1 hown hE.1 hP 2 rfl rfl 0 (by decide) (hG _ q_f_X11_124) (fun _ h9 => h9) rfl dX11_count_113 ?_
    refine lv_iconst (v := 2) hx hb dX11_count_116 (by decide) ?_
    refine va_iald hx hb hE.1 hP 3 0 rfl rfl (by unfold vp_in; decide) dX11_count_117 ?_
    refine k_top (z := 0) rfl ?_
    exact KP.rt F rfl (by decide) dX11_count_118
  by_cases c_4 : x0 = 3
  · subst c_4
    refine lv_tableIn (off := 118) (tgt := 119) hx hb dX11_count_1 (by decide) (by decide) rfl (by decide) ?_
    refine lv_aload_n hx hb dX11_count_119 rfl (lv_at hl 0 rfl) ?_
    refine va_get (D := D) (ci := 11) (v := .ref nw) (C := RX11) (T := TX11) (N := 11) hx hb hG inG_X11 hown hE.1 hP 0 rfl rfl 5 (by decide) (hG _ q_f_X11_43) (fun _ h9 => h9) rfl dX11_count_120 ?_
    refine va_get (D := D) (ci := 4) (v := .ref fd) (C := RX4) (T := TX4) (N := 6) hx hb hG inG_X4 hown hE.1 hP 1 rfl rfl 0 (by decide) (hG _ q_f_X11_111) (fun _ h9 => h9) rfl dX11_count_123 ?_
    refine va_get (D := D) (ci := 1) (v := .ref fc) (C := RX1) (T := TX1) (N := 1) hx hb hG inG_X1 hown hE.1 hP 2 rfl rfl 0 (by decide) (hG _ q_f_X11_124) (fun _ h9 => h9) rfl dX11_count_126 ?_
    refine lv_iconst (v := 3) hx hb dX11_count_129 (by decide) ?_
    refine va_iald hx hb hE.1 hP 3 0 rfl rfl (by unfold vp_in; decide) dX11_count_130 ?_
    refine k_top (z := 0) rfl ?_
    exact KP.rt F rfl (by decide) dX11_count_131
  by_cases c_5 : x0 = 4
  · subst c_5
    refine lv_tableIn (off := 131) (tgt := 132) hx hb dX11_count_1 (by decide) (by decide) rfl (by decide) ?_
    refine lv_aload_n hx hb dX11_count_132 rfl (lv_at hl 0 rfl) ?_
    refine va_get (D := D) (ci := 11) (v := .ref nw) (C := RX11) (T := TX11) (N := 11) hx hb hG inG_X11 hown hE.1 hP 0 rfl rfl 5 (by decide) (hG _ q_f_X11_43) (fun _ h9 => h9) rfl dX11_count_133 ?_
    refine va_get (D := D) (ci := 4) (v := .ref fd) (C := RX4) (T := TX4) (N := 6) hx hb hG inG_X4 hown hE.1 hP 1 rfl rfl 0 (by decide) (hG _ q_f_X11_111) (fun _ h9 => h9) rfl dX11_count_136 ?_
    refine va_get (D := D) (ci := 1) (v := .ref fc) (C := RX1) (T := TX1) (N := 1) hx hb hG inG_X1 hown hE.1 hP 2 rfl rfl 0 (by decide) (hG _ q_f_X11_124) (fun _ h9 => h9) rfl dX11_count_139 ?_
    refine lv_iconst (v := 4) hx hb dX11_count_142 (by decide) ?_
    refine va_iald hx hb hE.1 hP 3 0 rfl rfl (by unfold vp_in; decide) dX11_count_143 ?_
    refine k_top (z := 0) rfl ?_
    exact KP.rt F rfl (by decide) dX11_count_144
  by_cases c_6 : x0 = 5
  · subst c_6
    refine lv_tableIn (off := 144) (tgt := 145) hx hb dX11_count_1 (by decide) (by decide) rfl (by decide) ?_
    refine lv_aload_n hx hb dX11_count_145 rfl (lv_at hl 0 rfl) ?_
    refine va_get (D := D) (ci := 11) (v := .int 0) (C := RX11) (T := TX11) (N := 11) hx hb hG inG_X11 hown hE.1 hP 0 rfl rfl 4 (by decide) (hG _ q_f_X11_36) (fun _ h9 => h9) rfl dX11_count_146 ?_
    exact KP.rt F rfl (by decide) dX11_count_149
  by_cases c_7 : x0 = 6
  · subst c_7
    refine lv_tableIn (off := 149) (tgt := 150) hx hb dX11_count_1 (by decide) (by decide) rfl (by decide) ?_
    refine lv_aload_n hx hb dX11_count_150 rfl (lv_at hl 0 rfl) ?_
    refine va_get (D := D) (ci := 11) (v := .ref nw) (C := RX11) (T := TX11) (N := 11) hx hb hG inG_X11 hown hE.1 hP 0 rfl rfl 5 (by decide) (hG _ q_f_X11_43) (fun _ h9 => h9) rfl dX11_count_151 ?_
    refine va_get (D := D) (ci := 4) (v := .int (-1)) (C := RX4) (T := TX4) (N := 6) hx hb hG inG_X4 hown hE.1 hP 1 rfl rfl 3 (by decide) (hG _ q_f_X11_133) (fun _ h9 => h9) rfl dX11_count_154 ?_
    exact KP.rt F rfl (by decide) dX11_count_157
  by_cases c_8 : x0 = 7
  · subst c_8
    refine lv_tableIn (off := 157) (tgt := 158) hx hb dX11_count_1 (by decide) (by decide) rfl (by decide) ?_
    refine lv_aload_n hx hb dX11_count_158 rfl (lv_at hl 0 rfl) ?_
    refine va_get (D := D) (ci := 11) (v := .ref nw) (C := RX11) (T := TX11) (N := 11) hx hb hG inG_X11 hown hE.1 hP 0 rfl rfl 5 (by decide) (hG _ q_f_X11_43) (fun _ h9 => h9) rfl dX11_count_159 ?_
    refine va_get (D := D) (ci := 4) (v := .ref fd) (C := RX4) (T := TX4) (N := 6) hx hb hG inG_X4 hown hE.1 hP 1 rfl rfl 0 (by decide) (hG _ q_f_X11_111) (fun _ h9 => h9) rfl dX11_count_162 ?_
    refine va_get (D := D) (ci := 1) (v := .ref fc) (C := RX1) (T := TX1) (N := 1) hx hb hG inG_X1 hown hE.1 hP 2 rfl rfl 0 (by decide) (hG _ q_f_X11_124) (fun _ h9 => h9) rfl dX11_count_165 ?_
    refine lv_iconst (v := 5) hx hb dX11_count_168 (by decide) ?_
    refine va_iald hx hb hE.1 hP 3 0 rfl rfl (by unfold vp_in; decide) dX11_count_169 ?_
    refine k_top (z := 0) rfl ?_
    exact KP.rt F rfl (by decide) dX11_count_170
  by_cases c_9 : x0 = 8
  · subst c_9
    refine lv_tableIn (off := 170) (tgt := 171) hx hb dX11_count_1 (by decide) (by decide) rfl (by decide) ?_
    refine lv_aload_n hx hb dX11_count_171 rfl (lv_at hl 0 rfl) ?_
    refine va_get (D := D) (ci := 11) (v := .ref nw) (C := RX11) (T := TX11) (N := 11) hx hb hG inG_X11 hown hE.1 hP 0 rfl rfl 5 (by decide) (hG _ q_f_X11_43) (fun _ h9 => h9) rfl dX11_count_172 ?_
    refine va_get (D := D) (ci := 4) (v := .ref fd) (C := RX4) (T := TX4) (N := 6) hx hb hG inG_X4 hown hE.1 hP 1 rfl rfl 0 (by decide) (hG _ q_f_X11_111) (fun _ h9 => h9) rfl dX11_count_175 ?_
    refine va_get (D := D) (ci := 1) (v := .ref fc) (C := RX1) (T := TX1) (N := 1) hx hb hG inG_X1 hown hE.1 hP 2 rfl rfl 0 (by decide) (hG _ q_f_X11_124) (fun _ h9 => h9) rfl dX11_count_178 ?_
    refine lv_bipush (v := 6) hx hb dX11_count_181 (by decide) ?_
    refine va_iald hx hb hE.1 hP 3 0 rfl rfl (by unfold vp_in; decide) dX11_count_183 ?_
    refine k_top (z := 0) rfl ?_
    exact KP.rt F rfl (by decide) dX11_count_184
  by_cases c_10 : x0 = 9
  · subst c_10
    refine lv_tableIn (off := 184) (tgt := 185) hx hb dX11_count_1 (by decide) (by decide) rfl (by decide) ?_
    refine lv_aload_n hx hb dX11_count_185 rfl (lv_at hl 0 rfl) ?_
    refine va_get (D := D) (ci := 11) (v := .ref nw) (C := RX11) (T := TX11) (N := 11) hx hb hG inG_X11 hown hE.1 hP 0 rfl rfl 5 (by decide) (hG _ q_f_X11_43) (fun _ h9 => h9) rfl dX11_count_186 ?_
    refine va_get (D := D) (ci := 4) (v := .ref fd) (C := RX4) (T := TX4) (N := 6) hx hb hG inG_X4 hown hE.1 hP 1 rfl rfl 0 (by decide) (hG _ q_f_X11_111) (fun _ h9 => h9) rfl dX11_count_189 ?_
    refine lv_bipush (v := 53) hx hb dX11_count_192 (by decide) ?_
    refine kcV (As := [.int 53]) (rest := []) F hE hP hl.1 (c_sumOfArchers l D cy (fd := fd) (x0 := 53) (fc := fc)) q_m_X11_146 mv_X1_sumOfArchers ⟨(Nat.le_of_ble_eq_true rfl), (Nat.le_of_ble_eq_true rfl)⟩ [2, 3] rfl rfl rfl rfl rfl rfl (Nat.le_of_ble_eq_true rfl) ⟨(Nat.le_of_ble_eq_true rfl), (Nat.le_of_ble_eq_true rfl)⟩ dX11_count_194 (fun r_11 er_11 => ?_)
    subst er_11
    exact KP.rt F rfl (by decide) dX11_count_197
  by_cases c_12 : x0 = 10
  · subst c_12
    refine lv_tableIn (off := 197) (tgt := 198) hx hb dX11_count_1 (by decide) (by decide) rfl (by decide) ?_
    refine lv_aload_n hx hb dX11_count_198 rfl (lv_at hl 0 rfl) ?_
    refine va_get (D := D) (ci := 11) (v := .ref nw) (C := RX11) (T := TX11) (N := 11) hx hb hG inG_X11 hown hE.1 hP 0 rfl rfl 5 (by decide) (hG _ q_f_X11_43) (fun _ h9 => h9) rfl dX11_count_199 ?_
    refine va_get (D := D) (ci := 4) (v := .ref fd) (C := RX4) (T := TX4) (N := 6) hx hb hG inG_X4 hown hE.1 hP 1 rfl rfl 0 (by decide) (hG _ q_f_X11_111) (fun _ h9 => h9) rfl dX11_count_202 ?_
    refine lv_bipush (v := 58) hx hb dX11_count_205 (by decide) ?_
    refine kcV (As := [.int 58]) (rest := []) F hE hP hl.1 (c_sumOfArchers l D cy (fd := fd) (x0 := 58) (fc := fc)) q_m_X11_146 mv_X1_sumOfArchers ⟨(Nat.le_of_ble_eq_true rfl), (Nat.le_of_ble_eq_true rfl)⟩ [2, 3] rfl rfl rfl rfl rfl rfl (Nat.le_of_ble_eq_true rfl) ⟨(Nat.le_of_ble_eq_true rfl), (Nat.le_of_ble_eq_true rfl)⟩ dX11_count_207 (fun r_13 er_13 => ?_)
    subst er_13
    exact KP.rt F rfl (by decide) dX11_count_210
  by_cases c_14 : x0 = 11
  · subst c_14
    refine lv_tableIn (off := 210) (tgt := 211) hx hb dX11_count_1 (by decide) (by decide) rfl (by decide) ?_
    refine lv_aload_n hx hb dX11_count_211 rfl (lv_at hl 0 rfl) ?_
    refine va_get (D := D) (ci := 11) (v := .ref nw) (C := RX11) (T := TX11) (N := 11) hx hb hG inG_X11 hown hE.1 hP 0 rfl rfl 5 (by decide) (hG _ q_f_X11_43) (fun _ h9 => h9) rfl dX11_count_212 ?_
    refine va_get (D := D) (ci := 4) (v := .ref fd) (C := RX4) (T := TX4) (N := 6) hx hb hG inG_X4 hown hE.1 hP 1 rfl rfl 0 (by decide) (hG _ q_f_X11_111) (fun _ h9 => h9) rfl dX11_count_215 ?_
    refine va_get (D := D) (ci := 1) (v := .ref fc) (C := RX1) (T := TX1) (N := 1) hx hb hG inG_X1 hown hE.1 hP 2 rfl rfl 0 (by decide) (hG _ q_f_X11_124) (fun _ h9 => h9) rfl dX11_count_218 ?_
    refine lv_bipush (v := 7) hx hb dX11_count_221 (by decide) ?_
    refine va_iald hx hb hE.1 hP 3 0 rfl rfl (by unfold vp_in; decide) dX11_count_223 ?_
    refine k_top (z := 0) rfl ?_
    exact KP.rt F rfl (by decide) dX11_count_224
  by_cases c_15 : x0 = 12
  · subst c_15
    refine lv_tableIn (off := 224) (tgt := 225) hx hb dX11_count_1 (by decide) (by decide) rfl (by decide) ?_
    refine lv_aload_n hx hb dX11_count_225 rfl (lv_at hl 0 rfl) ?_
    refine va_get (D := D) (ci := 11) (v := .ref nw) (C := RX11) (T := TX11) (N := 11) hx hb hG inG_X11 hown hE.1 hP 0 rfl rfl 5 (by decide) (hG _ q_f_X11_43) (fun _ h9 => h9) rfl dX11_count_226 ?_
    refine va_get (D := D) (ci := 4) (v := .ref nt) (C := RX4) (T := TX4) (N := 6) hx hb hG inG_X4 hown hE.1 hP 1 rfl rfl 2 (by decide) (hG _ q_f_X11_114) (fun _ h9 => h9) rfl dX11_count_229 ?_
    refine va_get (D := D) (ci := 5) (v := .int 0) (C := RX5) (T := TX5) (N := 4) hx hb hG inG_X5 hown hE.1 hP 4 rfl rfl 3 (by decide) (hG _ q_f_X11_118) (fun _ h9 => h9) rfl dX11_count_232 ?_
    exact KP.rt F rfl (by decide) dX11_count_235
  by_cases c_16 : x0 = 13
  · subst c_16
    refine lv_tableIn (off := 235) (tgt := 236) hx hb dX11_count_1 (by decide) (by decide) rfl (by decide) ?_
    refine lv_aload_n hx hb dX11_count_236 rfl (lv_at hl 0 rfl) ?_
    refine va_get (D := D) (ci := 11) (v := .ref ac) (C := RX11) (T := TX11) (N := 11) hx hb hG inG_X11 hown hE.1 hP 0 rfl rfl 7 (by decide) (hG _ q_f_X11_54) (fun _ h9 => h9) rfl dX11_count_237 ?_
    refine va_get (D := D) (ci := 0) (v := .int 0) (C := RX0) (T := TX0) (N := 3) hx hb hG inG_X0 hown hE.1 hP 5 rfl rfl 2 (by decide) (hG _ q_f_X11_123) (fun _ h9 => h9) rfl dX11_count_240 ?_
    exact KP.rt F rfl (by decide) dX11_count_243
  by_cases c_17 : x0 = 14
  · subst c_17
    refine lv_tableIn (off := 243) (tgt := 244) hx hb dX11_count_1 (by decide) (by decide) rfl (by decide) ?_
    refine lv_aload_n hx hb dX11_count_244 rfl (lv_at hl 0 rfl) ?_
    refine va_get (D := D) (ci := 11) (v := .ref nw) (C := RX11) (T := TX11) (N := 11) hx hb hG inG_X11 hown hE.1 hP 0 rfl rfl 5 (by decide) (hG _ q_f_X11_43) (fun _ h9 => h9) rfl dX11_count_245 ?_
    refine va_get (D := D) (ci := 4) (v := .int 0) (C := RX4) (T := TX4) (N := 6) hx hb hG inG_X4 hown hE.1 hP 1 rfl rfl 4 (by decide) (hG _ q_f_X11_149) (fun _ h9 => h9) rfl dX11_count_248 ?_
    exact KP.rt F rfl (by decide) dX11_count_251
  by_cases c_18 : x0 = 15
  · subst c_18
    refine lv_tableIn (off := 251) (tgt := 252) hx hb dX11_count_1 (by decide) (by decide) rfl (by decide) ?_
    refine lv_aload_n hx hb dX11_count_252 rfl (lv_at hl 0 rfl) ?_
    refine va_get (D := D) (ci := 11) (v := .ref tp) (C := RX11) (T := TX11) (N := 11) hx hb hG inG_X11 hown hE.1 hP 0 rfl rfl 0 (by decide) (hG _ q_f_X11_10) (fun _ h9 => h9) rfl dX11_count_253 ?_
    refine va_get (D := D) (ci := 10) (v := .int 0) (C := RX10) (T := TX10) (N := 11) hx hb hG inG_X10 hown hE.1 hP 6 rfl rfl 1 (by decide) (hG _ q_f_X11_87) (fun _ h9 => h9) rfl dX11_count_256 ?_
    exact KP.rt F rfl (by decide) dX11_count_259
  have nc_1 := lv_neT (a := 0) c_1 rfl
  have nc_2 := lv_neT (a := 1) c_2 rfl
  have nc_3 := lv_neT (a := 2) c_3 rfl
  have nc_4 := lv_neT (a := 3) c_4 rfl
  have nc_5 := lv_neT (a := 4) c_5 rfl
  have nc_6 := lv_neT (a := 5) c_6 rfl
  have nc_7 := lv_neT (a := 6) c_7 rfl
  have nc_8 := lv_neT (a := 7) c_8 rfl
  have nc_9 := lv_neT (a := 8) c_9 rfl
  have nc_10 := lv_neT (a := 9) c_10 rfl
  have nc_12 := lv_neT (a := 10) c_12 rfl
  have nc_14 := lv_neT (a := 11) c_14 rfl
  have nc_15 := lv_neT (a := 12) c_15 rfl
  have nc_16 := lv_neT (a := 13) c_16 rfl
  have nc_17 := lv_neT (a := 14) c_17 rfl
  have nc_18 := lv_neT (a := 15) c_18 rfl
  refine lv_tableOut (tgt := 260) hx hb dX11_count_1 (by omega) (by decide) ?_
  refine lv_iconst (v := (-1)) hx hb dX11_count_260 (by decide) ?_
  exact KP.rt F rfl (by simp [k_cnt, *]) dX11_count_261

set_option maxHeartbeats 4000000 in
set_option maxRecDepth 100000 in
theorem x_backOut (l : Launch) (D : va_G) (cy : Nat → ClassId) (h0 tp gr rr ru nw im ac py fo su : Nat) (x0 : Int32) (hk : x0 < 0 ∨ 3 < x0) : KP l yX11_back cX11_back 2 (some .int) 1 22 D (kTY cy) [.ref h0, .int x0] [(h0, .inr (11, [.ref tp, .ref gr, .ref rr, .ref ru, .int 0, .ref nw, .ref im, .ref ac, .ref py, .ref fo, .ref su]))] (fun r => r = -1) := by
  refine KP.of (by decide) (Nat.le_of_ble_eq_true rfl) (fun p e s m below meth c ls F hE hP hl => ?_)
  have F : kF p s m meth c cX11_back 2 (some .int) _ RX11 := F
  obtain ⟨hx, hb, hr, hml, hown, hG, hlk⟩ := id F
  have hl : lv_has ls 2 [(0, .ref h0), (1, .int x0)] := hl
  refine lv_iload_n hx hb dX11_back_0 rfl (lv_at hl 1 rfl) ?_
  refine lv_iconst (v := 0) hx hb dX11_back_1 (by decide) ?_
  refine lv_iconst (v := 3) hx hb dX11_back_2 (by decide) ?_
  refine kcS (As := [.int x0, .int 0, .int 3]) (rest := []) F hE hP hl.1 (c_within l D cy (x0 := x0) (x1 := 0) (x2 := 3)) q_m_X11_90 ms_X11_within ⟨(Nat.le_of_ble_eq_true rfl), (Nat.le_of_ble_eq_true rfl)⟩ [] rfl rfl rfl (Nat.le_of_ble_eq_true rfl) ⟨(Nat.le_of_ble_eq_true rfl), (Nat.le_of_ble_eq_true rfl)⟩ dX11_back_3 (fun r_1 er_1 => ?_)
  obtain rfl : r_1 = 0 := er_1.trans (if_pos hk)
  refine lv_if_eq (tgt := 21) hx hb dX11_back_6 (by decide) (fun _ => ?_) (fun q => absurd q (by decide))
  refine lv_iconst (v := (-1)) hx hb dX11_back_21 (by decide) ?_
  exact KP.rt F rfl (rfl) dX11_back_22

theorem k_in4 {x : Int32} (h : ¬ (x < 0 ∨ 3 < x)) : vp_in x 4 := by
  rw [vp_in_iff]
  rw [not_or, Int32.not_lt, Int32.not_lt, Int32.le_iff_toInt_le, Int32.le_iff_toInt_le] at h
  have h0 : (0 : Int32).toInt = 0 := by decide
  have h3 : (3 : Int32).toInt = 3 := by decide
  omega

set_option maxHeartbeats 4000000 in
set_option maxRecDepth 100000 in
theorem x_backIn (l : Launch) (D : va_G) (cy : Nat → ClassId) (h0 tp gr rr ru nw im ac py fo su : Nat) (x0 : Int32) (hk : ¬ (x0 < 0 ∨ 3 < x0)) (fi : Nat → Option Nat) (ik fk bk tk : Nat) (hfi : fi (Int32.toNatClampNeg x0) = some ik) : KP l yX11_back cX11_back 2 (some .int) 1 22 D (kTY cy) [.ref h0, .int x0] [(h0, .inr (11, [.ref tp, .ref gr, .ref rr, .ref ru, .int 0, .ref nw, .ref im, .ref ac, .ref py, .ref fo, .ref su])), (im, .inl (cy 4, 4, .inr (.inr (.inr (.inr (fi)))))), (ik, .inr (4, [.ref fk, .ref bk, .ref tk, .int (-1), .int 0, .int 0]))] (fun r => r = -1) := by
  refine KP.of (by decide) (Nat.le_of_ble_eq_true rfl) (fun p e s m below meth c ls F hE hP hl => ?_)
  have F : kF p s m meth c cX11_back 2 (some .int) _ RX11 := F
  obtain ⟨hx, hb, hr, hml, hown, hG, hlk⟩ := id F
  have hl : lv_has ls 2 [(0, .ref h0), (1, .int x0)] := hl
  refine lv_iload_n hx hb dX11_back_0 rfl (lv_at hl 1 rfl) ?_
  refine lv_iconst (v := 0) hx hb dX11_back_1 (by decide) ?_
  refine lv_iconst (v := 3) hx hb dX11_back_2 (by decide) ?_
  refine kcS (As := [.int x0, .int 0, .int 3]) (rest := []) F hE hP hl.1 (c_within l D cy (x0 := x0) (x1 := 0) (x2 := 3)) q_m_X11_90 ms_X11_within ⟨(Nat.le_of_ble_eq_true rfl), (Nat.le_of_ble_eq_true rfl)⟩ [] rfl rfl rfl (Nat.le_of_ble_eq_true rfl) ⟨(Nat.le_of_ble_eq_true rfl), (Nat.le_of_ble_eq_true rfl)⟩ dX11_back_3 (fun r_1 er_1 => ?_)
  obtain rfl : r_1 = 1 := er_1.trans (if_neg hk)
  refine lv_if_eq (tgt := 21) hx hb dX11_back_6 (by decide) (fun q => absurd q (by decide)) (fun _ => ?_)
  refine lv_aload_n hx hb dX11_back_9 rfl (lv_at hl 0 rfl) ?_
  refine va_get (D := D) (ci := 11) (v := .ref im) (C := RX11) (T := TX11) (N := 11) hx hb hG inG_X11 hown hE.1 hP 0 rfl rfl 6 (by decide) (hG _ q_f_X11_47) (fun _ h9 => h9) rfl dX11_back_10 ?_
  refine lv_iload_n hx hb dX11_back_13 rfl (lv_at hl 1 rfl) ?_
  refine va_aldq hx hb hE.1 hP 1 4 rfl rfl (k_in4 hk) dX11_back_14 ?_
  refine k_tv (z := .ref ik) (by rw [hfi]; rfl) ?_
  refine va_get (D := D) (ci := 4) (v := .int 0) (C := RX4) (T := TX4) (N := 6) hx hb hG inG_X4 hown hE.1 hP 2 rfl rfl 5 (by decide) (hG _ q_f_X11_273) (fun _ h9 => h9) rfl dX11_back_15 ?_
  refine lv_if_ne (tgt := 23) hx hb dX11_back_18 (by decide) (fun q => absurd q (by decide)) (fun _ => ?_)
  refine lv_iconst (v := (-1)) hx hb dX11_back_21 (by decide) ?_
  exact KP.rt F rfl (rfl) dX11_back_22
