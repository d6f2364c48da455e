theorem k_rfv (o : Option Nat) : va_rf o = .null ∨ ∃ a, va_rf o = .ref a := by
  cases o with
  | none => exact Or.inl rfl
  | some a => exact Or.inr ⟨a, rfl⟩

set_option maxHeartbeats 4000000 in
set_option maxRecDepth 100000 in
theorem cc_ruleInForce (l : Launch) (D : va_G) (cy : Nat → ClassId) (TT : va_W) (o : Nat) (ta : Nat) (gr : Nat) (rr : Nat) (ru : Nat) (nw : Nat) (im : Nat) (ac : Nat) (pl : Nat) (fc : Nat) (sd : Nat) (o_rc : Int32) (nwf : Nat) (nwb : Nat) (nwn : Nat) (nw_force : Int32) (nw_x : Int32) (nw_made : Int32) (g_ru : Nat → Option Nat) (hall : RAll TT (cy 0) g_ru) : KPr l yX11_ruleInForce cX11_ruleInForce 1 (some (.object "StrawButts$Rule")) 1 22 D (kTY cy) [.ref o] [(o, .inr (11, [.ref ta, .ref gr, .ref rr, .ref ru, .int o_rc, .ref nw, .ref im, .ref ac, .ref pl, .ref fc, .ref sd])), (nw, .inr (4, [.ref nwf, .ref nwb, .ref nwn, .int nw_force, .int nw_x, .int nw_made])), (ru, .inl (cy 5, 6, .inr (.inr (.inr (.inr g_ru)))))] (fun v => RIn TT (cy 0) v) := by
  refine KPr.of (by decide) (Nat.le_of_ble_eq_true rfl) (fun p e s m below meth c ls F hE hP hl => ?_)
  have F : kF p s m meth c cX11_ruleInForce 1 (some (.object "StrawButts$Rule")) _ RX11 := F
  obtain ⟨hx, hb, hr, hml, hown, hG, hlk⟩ := id F
  have hl : lv_has ls 1 [(0, .ref o)] := hl
  refine lv_aload_n hx hb dX11_ruleInForce_0 rfl (lv_at hl 0 rfl) ?_
  refine va_get (D := D) (ci := 11) (v := .ref nw) (C := RX11) (T := TX11) (N := 11) hx hb hG inG_X11 hown hE.1 hP 0 rfl rfl 5 (by decide) (hG _ q_f_X11_43) (fun _ h9 => h9) rfl dX11_ruleInForce_1 ?_
  refine va_get (D := D) (ci := 4) (v := .int nw_force) (C := RX4) (T := TX4) (N := 6) hx hb hG inG_X4 hown hE.1 hP 1 rfl rfl 3 (by decide) (hG _ q_f_X11_133) (fun _ h9 => h9) rfl dX11_ruleInForce_4 ?_
  refine lv_iconst (v := 0) hx hb dX11_ruleInForce_7 (by decide) ?_
  refine lv_iconst (v := 5) hx hb dX11_ruleInForce_8 (by decide) ?_
  have lt32_0 : (0 : Int32).toInt = 0 := by decide
  have lt32_1 : (5 : Int32).toInt = 5 := by decide
  refine kcS (As := [.int nw_force, .int 0, .int 5]) (rest := []) F hE hP hl.1 (cc_within l D cy (x0 := nw_force) (x1 := 0) (x2 := 5)) q_m_X11_90 ms_X11_within ⟨(Nat.le_of_ble_eq_true rfl), (Nat.le_of_ble_eq_true rfl)⟩ [] rfl rfl rfl (Nat.le_of_ble_eq_true rfl) ⟨(Nat.le_of_ble_eq_true rfl), (Nat.le_of_ble_eq_true rfl)⟩ dX11_ruleInForce_9 (fun r_3 er_3 => ?_)
  have er_3 : (r_3.toInt = 0 ∨ r_3.toInt = 1) ∧ ((r_3.toInt ≠ 0 → (0 : Int32).toInt ≤ nw_force.toInt ∧ nw_force.toInt ≤ (5 : Int32).toInt)) ∧ ((r_3.toInt = 0 → nw_force.toInt < (0 : Int32).toInt ∨ (5 : Int32).toInt < nw_force.toInt)) := er_3
  obtain ⟨er_3a, er_3b, er_3c⟩ := er_3
  refine lv_if_eq (tgt := 30) hx hb dX11_ruleInForce_12 (by decide) (fun c_4 => ?_) (fun c_4 => ?_)
  · have ic_4 : r_3.toInt = 0 := k_eq c_4 rfl (by decide)
    have fc_4 := er_3c ic_4
    clear er_3b er_3c er_3a
    refine lv_null hx hb dX11_ruleInForce_30 ?_
    exact KPr.rt F (Or.inl ⟨_, rfl⟩) (Or.inl rfl) (Or.inl rfl) dX11_ruleInForce_31
  · have ic_4 : r_3.toInt ≠ 0 := k_ne c_4 rfl (by decide)
    have fc_4 := er_3b ic_4
    clear er_3b er_3c er_3a
    obtain ⟨fc_4a, fc_4b⟩ := fc_4
    refine lv_aload_n hx hb dX11_ruleInForce_15 rfl (lv_at hl 0 rfl) ?_
    refine va_get (D := D) (ci := 11) (v := .ref ru) (C := RX11) (T := TX11) (N := 11) hx hb hG inG_X11 hown hE.1 hP 0 rfl rfl 3 (by decide) (hG _ q_f_X11_32) (fun _ h9 => h9) rfl dX11_ruleInForce_16 ?_
    refine lv_aload_n hx hb dX11_ruleInForce_19 rfl (lv_at hl 0 rfl) ?_
    refine va_get (D := D) (ci := 11) (v := .ref nw) (C := RX11) (T := TX11) (N := 11) hx hb hG inG_X11 hown hE.1 hP 0 rfl rfl 5 (by decide) (hG _ q_f_X11_43) (fun _ h9 => h9) rfl dX11_ruleInForce_20 ?_
    refine va_get (D := D) (ci := 4) (v := .int nw_force) (C := RX4) (T := TX4) (N := 6) hx hb hG inG_X4 hown hE.1 hP 1 rfl rfl 3 (by decide) (hG _ q_f_X11_133) (fun _ h9 => h9) rfl dX11_ruleInForce_23 ?_
    refine va_aldq hx hb hE.1 hP 2 5 rfl rfl (k_in (by omega)) dX11_ruleInForce_26 ?_
    have hri := hall (Int32.toNatClampNeg nw_force) (by rw [k_cl]; omega)
    refine lv_goto (tgt := 31) hx hb dX11_ruleInForce_27 (by decide) ?_
    exact KPr.rt F (Or.inl ⟨_, rfl⟩) (k_rfv _) hri dX11_ruleInForce_31

set_option maxHeartbeats 4000000 in
set_option maxRecDepth 100000 in
theorem cc_X11_feed (l : Launch) (D : va_G) (cy : Nat → ClassId) (o : Nat) (ta : Nat) (gr : Nat) (rr : Nat) (ru : Nat) (nw : Nat) (im : Nat) (ac : Nat) (pl : Nat) (fc : Nat) (sd : Nat) (o_rc : Int32) (ta_by : Nat) (ta_ki : Nat) (ta_va : Nat) (ta_pl : Nat) (ta_len : Int32) (ta_tok : Int32) (ta_at : Int32) (ta_kind : Int32) (ta_value : Int32) (ta_place : Int32) (ta_fault : Int32) (g_taby : Nat → Int32) (g_taki : Nat → Int32) (g_tava : Nat → Int32) (g_tapl : Nat → Int32) (x0 : Int32) (x1 : Int32) (x2 : Int32) (x3 : Int32) (x4 : Int32) (p0 : 0 ≤ o_rc.toInt) (p1 : o_rc.toInt ≤ 6) (p2 : 0 ≤ ta_len.toInt) (p3 : ta_len.toInt ≤ 400) (p4 : ta_kind.toInt = 1 ∨ ta_kind.toInt = 3 → 0 ≤ ta_value.toInt ∧ ta_value.toInt ≤ 99999) (p5 : 0 ≤ ta_place.toInt) (p6 : ta_place.toInt ≤ 400) (p7 : -1 ≤ ta_at.toInt) (p8 : ta_at.toInt ≤ 400) : KI l yX11_feed cX11_feed 6 (some .int) 1 22 D (kTY cy) [.ref o, .int x0, .int x1, .int x2, .int x3, .int x4] [(o, .inr (11, [.ref ta, .ref gr, .ref rr, .ref ru, .int o_rc, .ref nw, .ref im, .ref ac, .ref pl, .ref fc, .ref sd])), (ta, .inr (10, [.ref ta_by, .int ta_len, .ref ta_ki, .ref ta_va, .ref ta_pl, .int ta_tok, .int ta_at, .int ta_kind, .int ta_value, .int ta_place, .int ta_fault])), (ta_by, .inl (cy 0, 400, .inl g_taby)), (ta_ki, .inl (cy 0, 401, .inl g_taki)), (ta_va, .inl (cy 0, 401, .inl g_tava)), (ta_pl, .inl (cy 0, 401, .inl g_tapl))] (S := Int32 × (Nat → Int32)) (fun r u => (0 ≤ o_rc.toInt) ∧ (o_rc.toInt ≤ 6) ∧ (0 ≤ (u.1).toInt) ∧ ((u.1).toInt ≤ 400) ∧ (ta_kind.toInt = 1 ∨ ta_kind.toInt = 3 → 0 ≤ ta_value.toInt ∧ ta_value.toInt ≤ 99999) ∧ (0 ≤ ta_place.toInt) ∧ (ta_place.toInt ≤ 400) ∧ (-1 ≤ ta_at.toInt) ∧ (ta_at.toInt ≤ 400)) (fun u => [(o, .inr (11, [.ref ta, .ref gr, .ref rr, .ref ru, .int o_rc, .ref nw, .ref im, .ref ac, .ref pl, .ref fc, .ref sd])), (ta, .inr (10, [.ref ta_by, .int (u.1), .ref ta_ki, .ref ta_va, .ref ta_pl, .int ta_tok, .int ta_at, .int ta_kind, .int ta_value, .int ta_place, .int ta_fault])), (ta_by, .inl (cy 0, 400, .inl (u.2))), (ta_ki, .inl (cy 0, 401, .inl g_taki)), (ta_va, .inl (cy 0, 401, .inl g_tava)), (ta_pl, .inl (cy 0, 401, .inl g_tapl))]) 0 0 := by
  refine KI.of (by decide) (Nat.le_of_ble_eq_true rfl) (fun p e s m below meth c ls A F hE hP hD hA hS hl => ?_)
  have F : kF p s m meth c cX11_feed 6 (some .int) _ RX11 := F
  obtain ⟨hx, hb, hr, hml, hown, hG, hlk⟩ := id F
  have hl : lv_has ls 6 [(0, .ref o), (1, .int x0), (2, .int x1), (3, .int x2), (4, .int x3), (5, .int x4)] := hl
  refine lv_aload_n hx hb dX11_feed_0 rfl (lv_at hl 0 rfl) ?_
  refine va_get (D := D) (ci := 11) (v := .ref ta) (C := RX11) (T := TX11) (N := 11) hx hb hG inG_X11 hown hE.1 hP 0 rfl rfl 0 (by decide) (hG _ q_f_X11_10) (fun _ h9 => h9) rfl dX11_feed_1 ?_
  refine lv_bipush (v := 20) hx hb dX11_feed_4 (by decide) ?_
  have lt32_0 : (20 : Int32).toInt = 20 := by decide
  refine kcV (As := [.int 20]) (rest := []) F hE hP hl.1 (cc_X10_hasRoom l D cy (o := ta) (x0 := 20) (o_by := ta_by) (o_len := ta_len) (o_ki := ta_ki) (o_va := ta_va) (o_pl := ta_pl) (o_tok := ta_tok) (o_at := ta_at) (o_kind := ta_kind) (o_value := ta_value) (o_place := ta_place) (o_fault := ta_fault) (p0 := (by first | omega | assumption)) (p1 := (by first | omega | assumption)) (p2 := (by first | omega | assumption)) (p3 := (by first | omega | assumption))) q_m_X11_79 mv_X10_hasRoom ⟨(Nat.le_of_ble_eq_true rfl), (Nat.le_of_ble_eq_true rfl)⟩ [1] rfl rfl rfl rfl rfl rfl (Nat.le_of_ble_eq_true rfl) ⟨(Nat.le_of_ble_eq_true rfl), (Nat.le_of_ble_eq_true rfl)⟩ dX11_feed_6 (fun r_2 er_2 => ?_)
  have er_2 : (r_2.toInt = 0 ∨ r_2.toInt = 1) := er_2
  refine lv_if_ne (tgt := 14) hx hb dX11_feed_9 (by decide) (fun c_3 => ?_) (fun c_3 => ?_)
  · have ic_3 : r_2.toInt ≠ 0 := k_ne c_3 rfl (by decide)
    clear er_2
    refine lv_aload_n hx hb dX11_feed_14 rfl (lv_at hl 0 rfl) ?_
    refine va_get (D := D) (ci := 11) (v := .ref ta) (C := RX11) (T := TX11) (N := 11) hx hb hG inG_X11 hown hE.1 hP 0 rfl rfl 0 (by decide) (hG _ q_f_X11_10) (fun _ h9 => h9) rfl dX11_feed_15 ?_
    refine lv_iload_n hx hb dX11_feed_18 rfl (lv_at hl 1 rfl) ?_
    refine kwVV (wr := [(o, .inr (11, [.ref ta, .ref gr, .ref rr, .ref ru, .int o_rc, .ref nw, .ref im, .ref ac, .ref pl, .ref fc, .ref sd])), (ta_ki, .inl (cy 0, 401, .inl g_taki)), (ta_va, .inl (cy 0, 401, .inl g_tava)), (ta_pl, .inl (cy 0, 401, .inl g_tapl))]) (As := [.int x0]) (rest := []) F hE hP hD hS hA hl.1 (cc_X10_addBytes l D cy (o := ta) (x0 := x0) (o_by := ta_by) (o_len := ta_len) (o_ki := ta_ki) (o_va := ta_va) (o_pl := ta_pl) (o_tok := ta_tok) (o_at := ta_at) (o_kind := ta_kind) (o_value := ta_value) (o_place := ta_place) (o_fault := ta_fault) (g_oby := g_taby) (p0 := (by first | omega | assumption)) (p1 := (by first | omega | assumption))) q_m_X11_83 mv_X10_addBytes ⟨(Nat.le_of_ble_eq_true rfl), (Nat.le_of_ble_eq_true rfl)⟩ [1, 2] [0, 3, 4, 5] (by decide) rfl rfl (by decide) (by decide) rfl rfl rfl rfl rfl (Nat.le_of_ble_eq_true rfl) ⟨(Nat.le_of_ble_eq_true rfl), (Nat.le_of_ble_eq_true rfl)⟩ dX11_feed_19 (fun u_4 H locs eu_4 hP hD hS => ?_)
    obtain ⟨o_len_5, g_oby_6⟩ := u_4
    have eu_4 : (0 ≤ o_len_5.toInt) ∧ (o_len_5.toInt ≤ 400) := eu_4
    obtain ⟨eu_4a, eu_4b⟩ := eu_4
    have hP : va_P D vwCl [(o, .inr (11, [.ref ta, .ref gr, .ref rr, .ref ru, .int o_rc, .ref nw, .ref im, .ref ac, .ref pl, .ref fc, .ref sd])), (ta_ki, .inl (cy 0, 401, .inl g_taki)), (ta_va, .inl (cy 0, 401, .inl g_tava)), (ta_pl, .inl (cy 0, 401, .inl g_tapl)), (ta, .inr (10, [.ref ta_by, .int o_len_5, .ref ta_ki, .ref ta_va, .ref ta_pl, .int ta_tok, .int ta_at, .int ta_kind, .int ta_value, .int ta_place, .int ta_fault])), (ta_by, .inl (cy 0, 400, .inl g_oby_6))] H := hP
    have hD : va_D A [(o, .inr (11, [.ref ta, .ref gr, .ref rr, .ref ru, .int o_rc, .ref nw, .ref im, .ref ac, .ref pl, .ref fc, .ref sd])), (ta_ki, .inl (cy 0, 401, .inl g_taki)), (ta_va, .inl (cy 0, 401, .inl g_tava)), (ta_pl, .inl (cy 0, 401, .inl g_tapl)), (ta, .inr (10, [.ref ta_by, .int o_len_5, .ref ta_ki, .ref ta_va, .ref ta_pl, .int ta_tok, .int ta_at, .int ta_kind, .int ta_value, .int ta_place, .int ta_fault])), (ta_by, .inl (cy 0, 400, .inl g_oby_6))] := hD
    refine lv_aload_n hx hb dX11_feed_22 rfl (lv_at hl 0 rfl) ?_
    refine va_get (D := D) (ci := 11) (v := .ref ta) (C := RX11) (T := TX11) (N := 11) hx hb hG inG_X11 hown hE.1 hP 0 rfl rfl 0 (by decide) (hG _ q_f_X11_10) (fun _ h9 => h9) rfl dX11_feed_23 ?_
    refine lv_iload_n hx hb dX11_feed_26 rfl (lv_at hl 2 rfl) ?_
    refine kwVV (wr := [(o, .inr (11, [.ref ta, .ref gr, .ref rr, .ref ru, .int o_rc, .ref nw, .ref im, .ref ac, .ref pl, .ref fc, .ref sd])), (ta_ki, .inl (cy 0, 401, .inl g_taki)), (ta_va, .inl (cy 0, 401, .inl g_tava)), (ta_pl, .inl (cy 0, 401, .inl g_tapl))]) (As := [.int x1]) (rest := []) F hE hP hD hS hA hl.1 (cc_X10_addBytes l D cy (o := ta) (x0 := x1) (o_by := ta_by) (o_len := o_len_5) (o_ki := ta_ki) (o_va := ta_va) (o_pl := ta_pl) (o_tok := ta_tok) (o_at := ta_at) (o_kind := ta_kind) (o_value := ta_value) (o_place := ta_place) (o_fault := ta_fault) (g_oby := g_oby_6) (p0 := (by first | omega | assumption)) (p1 := (by first | omega | assumption))) q_m_X11_83 mv_X10_addBytes ⟨(Nat.le_of_ble_eq_true rfl), (Nat.le_of_ble_eq_true rfl)⟩ [4, 5] [0, 1, 2, 3] (by decide) rfl rfl (by decide) (by decide) rfl rfl rfl rfl rfl (Nat.le_of_ble_eq_true rfl) ⟨(Nat.le_of_ble_eq_true rfl), (Nat.le_of_ble_eq_true rfl)⟩ dX11_feed_27 (fun u_7 H locs eu_7 hP hD hS => ?_)
    obtain ⟨o_len_8, g_oby_9⟩ := u_7
    have eu_7 : (0 ≤ o_len_8.toInt) ∧ (o_len_8.toInt ≤ 400) := eu_7
    obtain ⟨eu_7a, eu_7b⟩ := eu_7
    have hP : va_P D vwCl [(o, .inr (11, [.ref ta, .ref gr, .ref rr, .ref ru, .int o_rc, .ref nw, .ref im, .ref ac, .ref pl, .ref fc, .ref sd])), (ta_ki, .inl (cy 0, 401, .inl g_taki)), (ta_va, .inl (cy 0, 401, .inl g_tava)), (ta_pl, .inl (cy 0, 401, .inl g_tapl)), (ta, .inr (10, [.ref ta_by, .int o_len_8, .ref ta_ki, .ref ta_va, .ref ta_pl, .int ta_tok, .int ta_at, .int ta_kind, .int ta_value, .int ta_place, .int ta_fault])), (ta_by, .inl (cy 0, 400, .inl g_oby_9))] H := hP
    have hD : va_D A [(o, .inr (11, [.ref ta, .ref gr, .ref rr, .ref ru, .int o_rc, .ref nw, .ref im, .ref ac, .ref pl, .ref fc, .ref sd])), (ta_ki, .inl (cy 0, 401, .inl g_taki)), (ta_va, .inl (cy 0, 401, .inl g_tava)), (ta_pl, .inl (cy 0, 401, .inl g_tapl)), (ta, .inr (10, [.ref ta_by, .int o_len_8, .ref ta_ki, .ref ta_va, .ref ta_pl, .int ta_tok, .int ta_at, .int ta_kind, .int ta_value, .int ta_place, .int ta_fault])), (ta_by, .inl (cy 0, 400, .inl g_oby_9))] := hD
    refine lv_aload_n hx hb dX11_feed_30 rfl (lv_at hl 0 rfl) ?_
    refine va_get (D := D) (ci := 11) (v := .ref ta) (C := RX11) (T := TX11) (N := 11) hx hb hG inG_X11 hown hE.1 hP 0 rfl rfl 0 (by decide) (hG _ q_f_X11_10) (fun _ h9 => h9) rfl dX11_feed_31 ?_
    refine lv_iload_n hx hb dX11_feed_34 rfl (lv_at hl 3 rfl) ?_
    refine kwVV (wr := [(o, .inr (11, [.ref ta, .ref gr, .ref rr, .ref ru, .int o_rc, .ref nw, .ref im, .ref ac, .ref pl, .ref fc, .ref sd])), (ta_ki, .inl (cy 0, 401, .inl g_taki)), (ta_va, .inl (cy 0, 401, .inl g_tava)), (ta_pl, .inl (cy 0, 401, .inl g_tapl))]) (As := [.int x2]) (rest := []) F hE hP hD hS hA hl.1 (cc_X10_addBytes l D cy (o := ta) (x0 := x2) (o_by := ta_by) (o_len := o_len_8) (o_ki := ta_ki) (o_va := ta_va) (o_pl := ta_pl) (o_tok := ta_tok) (o_at := ta_at) (o_kind := ta_kind) (o_value := ta_value) (o_place := ta_place) (o_fault := ta_fault) (g_oby := g_oby_9) (p0 := (by first | omega | assumption)) (p1 := (by first | omega | assumption))) q_m_X11_83 mv_X10_addBytes ⟨(Nat.le_of_ble_eq_true rfl), (Nat.le_of_ble_eq_true rfl)⟩ [4, 5] [0, 1, 2, 3] (by decide) rfl rfl (by decide) (by decide) rfl rfl rfl rfl rfl (Nat.le_of_ble_eq_true rfl) ⟨(Nat.le_of_ble_eq_true rfl), (Nat.le_of_ble_eq_true rfl)⟩ dX11_feed_35 (fun u_10 H locs eu_10 hP hD hS => ?_)
    obtain ⟨o_len_11, g_oby_12⟩ := u_10
    have eu_10 : (0 ≤ o_len_11.toInt) ∧ (o_len_11.toInt ≤ 400) := eu_10
    obtain ⟨eu_10a, eu_10b⟩ := eu_10
    have hP : va_P D vwCl [(o, .inr (11, [.ref ta, .ref gr, .ref rr, .ref ru, .int o_rc, .ref nw, .ref im, .ref ac, .ref pl, .ref fc, .ref sd])), (ta_ki, .inl (cy 0, 401, .inl g_taki)), (ta_va, .inl (cy 0, 401, .inl g_tava)), (ta_pl, .inl (cy 0, 401, .inl g_tapl)), (ta, .inr (10, [.ref ta_by, .int o_len_11, .ref ta_ki, .ref ta_va, .ref ta_pl, .int ta_tok, .int ta_at, .int ta_kind, .int ta_value, .int ta_place, .int ta_fault])), (ta_by, .inl (cy 0, 400, .inl g_oby_12))] H := hP
    have hD : va_D A [(o, .inr (11, [.ref ta, .ref gr, .ref rr, .ref ru, .int o_rc, .ref nw, .ref im, .ref ac, .ref pl, .ref fc, .ref sd])), (ta_ki, .inl (cy 0, 401, .inl g_taki)), (ta_va, .inl (cy 0, 401, .inl g_tava)), (ta_pl, .inl (cy 0, 401, .inl g_tapl)), (ta, .inr (10, [.ref ta_by, .int o_len_11, .ref ta_ki, .ref ta_va, .ref ta_pl, .int ta_tok, .int ta_at, .int ta_kind, .int ta_value, .int ta_place, .int ta_fault])), (ta_by, .inl (cy 0, 400, .inl g_oby_12))] := hD
    refine lv_aload_n hx hb dX11_feed_38 rfl (lv_at hl 0 rfl) ?_
    refine va_get (D := D) (ci := 11) (v := .ref ta) (C := RX11) (T := TX11) (N := 11) hx hb hG inG_X11 hown hE.1 hP 0 rfl rfl 0 (by decide) (hG _ q_f_X11_10) (fun _ h9 => h9) rfl dX11_feed_39 ?_
    refine lv_iload hx hb dX11_feed_42 (lv_at hl 4 rfl) ?_
    refine kwVV (wr := [(o, .inr (11, [.ref ta, .ref gr, .ref rr, .ref ru, .int o_rc, .ref nw, .ref im, .ref ac, .ref pl, .ref fc, .ref sd])), (ta_ki, .inl (cy 0, 401, .inl g_taki)), (ta_va, .inl (cy 0, 401, .inl g_tava)), (ta_pl, .inl (cy 0, 401, .inl g_tapl))]) (As := [.int x3]) (rest := []) F hE hP hD hS hA hl.1 (cc_X10_addBytes l D cy (o := ta) (x0 := x3) (o_by := ta_by) (o_len := o_len_11) (o_ki := ta_ki) (o_va := ta_va) (o_pl := ta_pl) (o_tok := ta_tok) (o_at := ta_at) (o_kind := ta_kind) (o_value := ta_value) (o_place := ta_place) (o_fault := ta_fault) (g_oby := g_oby_12) (p0 := (by first | omega | assumption)) (p1 := (by first | omega | assumption))) q_m_X11_83 mv_X10_addBytes ⟨(Nat.le_of_ble_eq_true rfl), (Nat.le_of_ble_eq_true rfl)⟩ [4, 5] [0, 1, 2, 3] (by decide) rfl rfl (by decide) (by decide) rfl rfl rfl rfl rfl (Nat.le_of_ble_eq_true rfl) ⟨(Nat.le_of_ble_eq_true rfl), (Nat.le_of_ble_eq_true rfl)⟩ dX11_feed_44 (fun u_13 H locs eu_13 hP hD hS => ?_)
    obtain ⟨o_len_14, g_oby_15⟩ := u_13
    have eu_13 : (0 ≤ o_len_14.toInt) ∧ (o_len_14.toInt ≤ 400) := eu_13
    obtain ⟨eu_13a, eu_13b⟩ := eu_13
    have hP : va_P D vwCl [(o, .inr (11, [.ref ta, .ref gr, .ref rr, .ref ru, .int o_rc, .ref nw, .ref im, .ref ac, .ref pl, .ref fc, .ref sd])), (ta_ki, .inl (cy 0, 401, .inl g_taki)), (ta_va, .inl (cy 0, 401, .inl g_tava)), (ta_pl, .inl (cy 0, 401, .inl g_tapl)), (ta, .inr (10, [.ref ta_by, .int o_len_14, .ref ta_ki, .ref ta_va, .ref ta_pl, .int ta_tok, .int ta_at, .int ta_kind, .int ta_value, .int ta_place, .int ta_fault])), (ta_by, .inl (cy 0, 400, .inl g_oby_15))] H := hP
    have hD : va_D A [(o, .inr (11, [.ref ta, .ref gr, .ref rr, .ref ru, .int o_rc, .ref nw, .ref im, .ref ac, .ref pl, .ref fc, .ref sd])), (ta_ki, .inl (cy 0, 401, .inl g_taki)), (ta_va, .inl (cy 0, 401, .inl g_tava)), (ta_pl, .inl (cy 0, 401, .inl g_tapl)), (ta, .inr (10, [.ref ta_by, .int o_len_14, .ref ta_ki, .ref ta_va, .ref ta_pl, .int ta_tok, .int ta_at, .int ta_kind, .int ta_value, .int ta_place, .int ta_fault])), (ta_by, .inl (cy 0, 400, .inl g_oby_15))] := hD
    refine lv_aload_n hx hb dX11_feed_47 rfl (lv_at hl 0 rfl) ?_
    refine va_get (D := D) (ci := 11) (v := .ref ta) (C := RX11) (T := TX11) (N := 11) hx hb hG inG_X11 hown hE.1 hP 0 rfl rfl 0 (by decide) (hG _ q_f_X11_10) (fun _ h9 => h9) rfl dX11_feed_48 ?_
    refine lv_iload hx hb dX11_feed_51 (lv_at hl 5 rfl) ?_
    refine kwVV (wr := [(o, .inr (11, [.ref ta, .ref gr, .ref rr, .ref ru, .int o_rc, .ref nw, .ref im, .ref ac, .ref pl, .ref fc, .ref sd])), (ta_ki, .inl (cy 0, 401, .inl g_taki)), (ta_va, .inl (cy 0, 401, .inl g_tava)), (ta_pl, .inl (cy 0, 401, .inl g_tapl))]) (As := [.int x4]) (rest := []) F hE hP hD hS hA hl.1 (cc_X10_addBytes l D cy (o := ta) (x0 := x4) (o_by := ta_by) (o_len := o_len_14) (o_ki := ta_ki) (o_va := ta_va) (o_pl := ta_pl) (o_tok := ta_tok) (o_at := ta_at) (o_kind := ta_kind) (o_value := ta_value) (o_place := ta_place) (o_fault := ta_fault) (g_oby := g_oby_15) (p0 := (by first | omega | assumption)) (p1 := (by first | omega | assumption))) q_m_X11_83 mv_X10_addBytes ⟨(Nat.le_of_ble_eq_true rfl), (Nat.le_of_ble_eq_true rfl)⟩ [4, 5] [0, 1, 2, 3] (by decide) rfl rfl (by decide) (by decide) rfl rfl rfl rfl rfl (Nat.le_of_ble_eq_true rfl) ⟨(Nat.le_of_ble_eq_true rfl), (Nat.le_of_ble_eq_true rfl)⟩ dX11_feed_53 (fun u_16 H locs eu_16 hP hD hS => ?_)
    obtain ⟨o_len_17, g_oby_18⟩ := u_16
    have eu_16 : (0 ≤ o_len_17.toInt) ∧ (o_len_17.toInt ≤ 400) := eu_16
    obtain ⟨eu_16a, eu_16b⟩ := eu_16
    have hP : va_P D vwCl [(o, .inr (11, [.ref ta, .ref gr, .ref rr, .ref ru, .int o_rc, .ref nw, .ref im, .ref ac, .ref pl, .ref fc, .ref sd])), (ta_ki, .inl (cy 0, 401, .inl g_taki)), (ta_va, .inl (cy 0, 401, .inl g_tava)), (ta_pl, .inl (cy 0, 401, .inl g_tapl)), (ta, .inr (10, [.ref ta_by, .int o_len_17, .ref ta_ki, .ref ta_va, .ref ta_pl, .int ta_tok, .int ta_at, .int ta_kind, .int ta_value, .int ta_place, .int ta_fault])), (ta_by, .inl (cy 0, 400, .inl g_oby_18))] H := hP
    have hD : va_D A [(o, .inr (11, [.ref ta, .ref gr, .ref rr, .ref ru, .int o_rc, .ref nw, .ref im, .ref ac, .ref pl, .ref fc, .ref sd])), (ta_ki, .inl (cy 0, 401, .inl g_taki)), (ta_va, .inl (cy 0, 401, .inl g_tava)), (ta_pl, .inl (cy 0, 401, .inl g_tapl)), (ta, .inr (10, [.ref ta_by, .int o_len_17, .ref ta_ki, .ref ta_va, .ref ta_pl, .int ta_tok, .int ta_at, .int ta_kind, .int ta_value, .int ta_place, .int ta_fault])), (ta_by, .inl (cy 0, 400, .inl g_oby_18))] := hD
    refine lv_aload_n hx hb dX11_feed_56 rfl (lv_at hl 0 rfl) ?_
    refine va_get (D := D) (ci := 11) (v := .ref ta) (C := RX11) (T := TX11) (N := 11) hx hb hG inG_X11 hown hE.1 hP 0 rfl rfl 0 (by decide) (hG _ q_f_X11_10) (fun _ h9 => h9) rfl dX11_feed_57 ?_
    refine va_get (D := D) (ci := 10) (v := .int o_len_17) (C := RX10) (T := TX10) (N := 11) hx hb hG inG_X10 hown hE.1 hP 4 rfl rfl 1 (by decide) (hG _ q_f_X11_87) (fun _ h9 => h9) rfl dX11_feed_60 ?_
    exact KI.rt ⟨o_len_17, g_oby_18⟩ F rfl (hP.sub [0, 4, 5, 1, 2, 3] rfl) (hD.sub [0, 4, 5, 1, 2, 3] (by decide) rfl) hS (show (0 ≤ o_rc.toInt) ∧ (o_rc.toInt ≤ 6) ∧ (0 ≤ o_len_17.toInt) ∧ (o_len_17.toInt ≤ 400) ∧ (ta_kind.toInt = 1 ∨ ta_kind.toInt = 3 → 0 ≤ ta_value.toInt ∧ ta_value.toInt ≤ 99999) ∧ (0 ≤ ta_place.toInt) ∧ (ta_place.toInt ≤ 400) ∧ (-1 ≤ ta_at.toInt) ∧ (ta_at.toInt ≤ 400) from ⟨(by first | omega | assumption), (by first | omega | assumption), (by first | omega | assumption), (by first | omega | assumption), (by first | omega | assumption), (by first | omega | assumption), (by first | omega | assumption), (by first | omega | assumption), (by first | omega | assumption)⟩) (Nat.le_of_ble_eq_true rfl) (Nat.le_of_ble_eq_true rfl) dX11_feed_63
  · have ic_3 : r_2.toInt = 0 := k_eq c_3 rfl (by decide)
    clear er_2
    refine lv_iconst (v := (-1)) hx hb dX11_feed_12 (by decide) ?_
    have lit0 : ((-1) : Int32).toInt = (-1) := by decide
    exact KI.rt ⟨ta_len, g_taby⟩ F rfl (hP.sub [0, 1, 2, 3, 4, 5] rfl) (hD.sub [0, 1, 2, 3, 4, 5] (by decide) rfl) hS (show (0 ≤ o_rc.toInt) ∧ (o_rc.toInt ≤ 6) ∧ (0 ≤ ta_len.toInt) ∧ (ta_len.toInt ≤ 400) ∧ (ta_kind.toInt = 1 ∨ ta_kind.toInt = 3 → 0 ≤ ta_value.toInt ∧ ta_value.toInt ≤ 99999) ∧ (0 ≤ ta_place.toInt) ∧ (ta_place.toInt ≤ 400) ∧ (-1 ≤ ta_at.toInt) ∧ (ta_at.toInt ≤ 400) from ⟨(by first | omega | assumption), (by first | omega | assumption), (by first | omega | assumption), (by first | omega | assumption), (by first | omega | assumption), (by first | omega | assumption), (by first | omega | assumption), (by first | omega | assumption), (by first | omega | assumption)⟩) (Nat.le_of_ble_eq_true rfl) (Nat.le_of_ble_eq_true rfl) dX11_feed_13

set_option maxHeartbeats 4000000 in
set_option maxRecDepth 100000 in
theorem cc_X11_end (l : Launch) (D : va_G) (cy : Nat → ClassId) (o : Nat) (ta : Nat) (gr : Nat) (rr : Nat) (ru : Nat) (nw : Nat) (im : Nat) (ac : Nat) (pl : Nat) (fc : Nat) (sd : Nat) (o_rc : Int32) (ta_by : Nat) (ta_ki : Nat) (ta_va : Nat) (ta_pl : Nat) (ta_len : Int32) (ta_tok : Int32) (ta_at : Int32) (ta_kind : Int32) (ta_value : Int32) (ta_place : Int32) (ta_fault : Int32) (g_taby : Nat → Int32) (g_taki : Nat → Int32) (g_tava : Nat → Int32) (g_tapl : Nat → Int32) (x0 : Int32) (p0 : 0 ≤ o_rc.toInt) (p1 : o_rc.toInt ≤ 6) (p2 : 0 ≤ ta_len.toInt) (p3 : ta_len.toInt ≤ 400) (p4 : ta_kind.toInt = 1 ∨ ta_kind.toInt = 3 → 0 ≤ ta_value.toInt ∧ ta_value.toInt ≤ 99999) (p5 : 0 ≤ ta_place.toInt) (p6 : ta_place.toInt ≤ 400) (p7 : -1 ≤ ta_at.toInt) (p8 : ta_at.toInt ≤ 400) : KI l yX11_end cX11_end 2 (some .int) 1 22 D (kTY cy) [.ref o, .int x0] [(o, .inr (11, [.ref ta, .ref gr, .ref rr, .ref ru, .int o_rc, .ref nw, .ref im, .ref ac, .ref pl, .ref fc, .ref sd])), (ta, .inr (10, [.ref ta_by, .int ta_len, .ref ta_ki, .ref ta_va, .ref ta_pl, .int ta_tok, .int ta_at, .int ta_kind, .int ta_value, .int ta_place, .int ta_fault])), (ta_by, .inl (cy 0, 400, .inl g_taby)), (ta_ki, .inl (cy 0, 401, .inl g_taki)), (ta_va, .inl (cy 0, 401, .inl g_tava)), (ta_pl, .inl (cy 0, 401, .inl g_tapl))] (S := Int32) (fun r u => (0 ≤ o_rc.toInt) ∧ (o_rc.toInt ≤ 6) ∧ (0 ≤ u.toInt) ∧ (u.toInt ≤ 400) ∧ (ta_kind.toInt = 1 ∨ ta_kind.toInt = 3 → 0 ≤ ta_value.toInt ∧ ta_value.toInt ≤ 99999) ∧ (0 ≤ ta_place.toInt) ∧ (ta_place.toInt ≤ 400) ∧ (-1 ≤ ta_at.toInt) ∧ (ta_at.toInt ≤ 400)) (fun u => [(o, .inr (11, [.ref ta, .ref gr, .ref rr, .ref ru, .int o_rc, .ref nw, .ref im, .ref ac, .ref pl, .ref fc, .ref sd])), (ta, .inr (10, [.ref ta_by, .int u, .ref ta_ki, .ref ta_va, .ref ta_pl, .int ta_tok, .int ta_at, .int ta_kind, .int ta_value, .int ta_place, .int ta_fault])), (ta_by, .inl (cy 0, 400, .inl g_taby)), (ta_ki, .inl (cy 0, 401, .inl g_taki)), (ta_va, .inl (cy 0, 401, .inl g_tava)), (ta_pl, .inl (cy 0, 401, .inl g_tapl))]) 0 0 := by
  refine KI.of (by decide) (Nat.le_of_ble_eq_true rfl) (fun p e s m below meth c ls A F hE hP hD hA hS hl => ?_)
  have F : kF p s m meth c cX11_end 2 (some .int) _ RX11 := F
  obtain ⟨hx, hb, hr, hml, hown, hG, hlk⟩ := id F
  have hl : lv_has ls 2 [(0, .ref o), (1, .int x0)] := hl
  refine lv_iload_n hx hb dX11_end_0 rfl (lv_at hl 1 rfl) ?_
  refine lv_iconst (v := 0) hx hb dX11_end_1 (by decide) ?_
  refine lv_aload_n hx hb dX11_end_2 rfl (lv_at hl 0 rfl) ?_
  refine va_get (D := D) (ci := 11) (v := .ref ta) (C := RX11) (T := TX11) (N := 11) hx hb hG inG_X11 hown hE.1 hP 0 rfl rfl 0 (by decide) (hG _ q_f_X11_10) (fun _ h9 => h9) rfl dX11_end_3 ?_
  refine va_get (D := D) (ci := 10) (v := .int ta_len) (C := RX10) (T := TX10) (N := 11) hx hb hG inG_X10 hown hE.1 hP 1 rfl rfl 1 (by decide) (hG _ q_f_X11_87) (fun _ h9 => h9) rfl dX11_end_6 ?_
  have lt32_0 : (0 : Int32).toInt = 0 := by decide
  refine kcS (As := [.int x0, .int 0, .int ta_len]) (rest := []) F hE hP hl.1 (cc_within l D cy (x0 := x0) (x1 := 0) (x2 := ta_len)) q_m_X11_90 ms_X11_within ⟨(Nat.le_of_ble_eq_true rfl), (Nat.le_of_ble_eq_true rfl)⟩ [] rfl rfl rfl (Nat.le_of_ble_eq_true rfl) ⟨(Nat.le_of_ble_eq_true rfl), (Nat.le_of_ble_eq_true rfl)⟩ dX11_end_9 (fun r_2 er_2 => ?_)
  have er_2 : (r_2.toInt = 0 ∨ r_2.toInt = 1) ∧ ((r_2.toInt ≠ 0 → (0 : Int32).toInt ≤ x0.toInt ∧ x0.toInt ≤ ta_len.toInt)) ∧ ((r_2.toInt = 0 → x0.toInt < (0 : Int32).toInt ∨ ta_len.toInt < x0.toInt)) := er_2
  obtain ⟨er_2a, er_2b, er_2c⟩ := er_2
  refine lv_if_ne (tgt := 17) hx hb dX11_end_12 (by decide) (fun c_3 => ?_) (fun c_3 => ?_)
  · have ic_3 : r_2.toInt ≠ 0 := k_ne c_3 rfl (by decide)
    have fc_3 := er_2b ic_3
    clear er_2b er_2c er_2a
    obtain ⟨fc_3a, fc_3b⟩ := fc_3
    refine lv_aload_n hx hb dX11_end_17 rfl (lv_at hl 0 rfl) ?_
    refine va_get (D := D) (ci := 11) (v := .ref ta) (C := RX11) (T := TX11) (N := 11) hx hb hG inG_X11 hown hE.1 hP 0 rfl rfl 0 (by decide) (hG _ q_f_X11_10) (fun _ h9 => h9) rfl dX11_end_18 ?_
    refine lv_iload_n hx hb dX11_end_21 rfl (lv_at hl 1 rfl) ?_
    refine va_put (D := D) (ci := 10) (v := .int x0) (ty := .int) (C := RX10) (T := TX10) (N := 11) hx hb hG inG_X10 tyX10 tyX10_ok nmX10 hown hE.1 hP hD hS 1 rfl rfl 1 (by decide) (hG _ q_f_X11_87) (fun _ h9 => h9) rfl (by decide +kernel) rfl rfl (Nat.le_of_ble_eq_true rfl) dX11_end_22 (fun H locs hP hD hS => ?_)
    have hP : va_P D vwCl [(o, .inr (11, [.ref ta, .ref gr, .ref rr, .ref ru, .int o_rc, .ref nw, .ref im, .ref ac, .ref pl, .ref fc, .ref sd])), (ta, .inr (10, [.ref ta_by, .int x0, .ref ta_ki, .ref ta_va, .ref ta_pl, .int ta_tok, .int ta_at, .int ta_kind, .int ta_value, .int ta_place, .int ta_fault])), (ta_by, .inl (cy 0, 400, .inl g_taby)), (ta_ki, .inl (cy 0, 401, .inl g_taki)), (ta_va, .inl (cy 0, 401, .inl g_tava)), (ta_pl, .inl (cy 0, 401, .inl g_tapl))] H := hP
    have hD : va_D A [(o, .inr (11, [.ref ta, .ref gr, .ref rr, .ref ru, .int o_rc, .ref nw, .ref im, .ref ac, .ref pl, .ref fc, .ref sd])), (ta, .inr (10, [.ref ta_by, .int x0, .ref ta_ki, .ref ta_va, .ref ta_pl, .int ta_tok, .int ta_at, .int ta_kind, .int ta_value, .int ta_place, .int ta_fault])), (ta_by, .inl (cy 0, 400, .inl g_taby)), (ta_ki, .inl (cy 0, 401, .inl g_taki)), (ta_va, .inl (cy 0, 401, .inl g_tava)), (ta_pl, .inl (cy 0, 401, .inl g_tapl))] := hD
    refine lv_iload_n hx hb dX11_end_25 rfl (lv_at hl 1 rfl) ?_
    exact KI.rt x0 F rfl (hP.sub [0, 1, 2, 3, 4, 5] rfl) (hD.sub [0, 1, 2, 3, 4, 5] (by decide) rfl) hS (show (0 ≤ o_rc.toInt) ∧ (o_rc.toInt ≤ 6) ∧ (0 ≤ x0.toInt) ∧ (x0.toInt ≤ 400) ∧ (ta_kind.toInt = 1 ∨ ta_kind.toInt = 3 → 0 ≤ ta_value.toInt ∧ ta_value.toInt ≤ 99999) ∧ (0 ≤ ta_place.toInt) ∧ (ta_place.toInt ≤ 400) ∧ (-1 ≤ ta_at.toInt) ∧ (ta_at.toInt ≤ 400) from ⟨(by first | omega | assumption), (by first | omega | assumption), (by first | omega | assumption), (by first | omega | assumption), (by first | omega | assumption), (by first | omega | assumption), (by first | omega | assumption), (by first | omega | assumption), (by first | omega | assumption)⟩) (Nat.le_of_ble_eq_true rfl) (Nat.le_of_ble_eq_true rfl) dX11_end_26
  · have ic_3 : r_2.toInt = 0 := k_eq c_3 rfl (by decide)
    have fc_3 := er_2c ic_3
    clear er_2b er_2c er_2a
    refine lv_iconst (v := (-1)) hx hb dX11_end_15 (by decide) ?_
    have lit0 : ((-1) : Int32).toInt = (-1) := by decide
    exact KI.rt ta_len F rfl (hP.sub [0, 1, 2, 3, 4, 5] rfl) (hD.sub [0, 1, 2, 3, 4, 5] (by decide) rfl) hS (show (0 ≤ o_rc.toInt) ∧ (o_rc.toInt ≤ 6) ∧ (0 ≤ ta_len.toInt) ∧ (ta_len.toInt ≤ 400) ∧ (ta_kind.toInt = 1 ∨ ta_kind.toInt = 3 → 0 ≤ ta_value.toInt ∧ ta_value.toInt ≤ 99999) ∧ (0 ≤ ta_place.toInt) ∧ (ta_place.toInt ≤ 400) ∧ (-1 ≤ ta_at.toInt) ∧ (ta_at.toInt ≤ 400) from ⟨(by first | omega | assumption), (by first | omega | assumption), (by first | omega | assumption), (by first | omega | assumption), (by first | omega | assumption), (by first | omega | assumption), (by first | omega | assumption), (by first | omega | assumption), (by first | omega | assumption)⟩) (Nat.le_of_ble_eq_true rfl) (Nat.le_of_ble_eq_true rfl) dX11_end_16

set_option maxHeartbeats 4000000 in
set_option maxRecDepth 100000 in
theorem cc_X11_force (l : Launch) (D : va_G) (cy : Nat → ClassId) (o : Nat) (ta : Nat) (gr : Nat) (rr : Nat) (ru : Nat) (nw : Nat) (im : Nat) (ac : Nat) (pl : Nat) (fc : Nat) (sd : Nat) (o_rc : Int32) (nwf : Nat) (nwf_c : Nat) (g_nwf : Nat → Int32) (nwb : Nat) (nwb_c : Nat) (g_nwb : Nat → Int32) (nwn : Nat) (nwn_r : Nat) (nwn_a : Nat) (nwn_p : Nat) (nwn_size : Int32) (g_nwnr : Nat → Int32) (g_nwna : Nat → Int32) (g_nwnp : Nat → Int32) (nw_force : Int32) (nw_x : Int32) (nw_made : Int32) (x0 : Int32) (h_g_nwf : FV g_nwf) (h_g_nwb : FV g_nwb) (h_g_nwnr : NRV g_nwnr) (h_g_nwna : NV g_nwna) (p0 : 0 ≤ o_rc.toInt) (p1 : o_rc.toInt ≤ 6) (p2 : 0 ≤ nwn_size.toInt) (p3 : nwn_size.toInt ≤ 10) : KI l yX11_force cX11_force 3 (some .int) 1 22 D (kTY cy) [.ref o, .int x0] [(o, .inr (11, [.ref ta, .ref gr, .ref rr, .ref ru, .int o_rc, .ref nw, .ref im, .ref ac, .ref pl, .ref fc, .ref sd])), (nw, .inr (4, [.ref nwf, .ref nwb, .ref nwn, .int nw_force, .int nw_x, .int nw_made])), (nwf, .inr (1, [.ref nwf_c])), (nwf_c, .inl (cy 0, 63, .inl g_nwf)), (nwb, .inr (1, [.ref nwb_c])), (nwb_c, .inl (cy 0, 63, .inl g_nwb)), (nwn, .inr (5, [.ref nwn_r, .ref nwn_a, .ref nwn_p, .int nwn_size])), (nwn_r, .inl (cy 0, 10, .inl g_nwnr)), (nwn_a, .inl (cy 0, 10, .inl g_nwna)), (nwn_p, .inl (cy 0, 10, .inl g_nwnp))] (S := Int32) (fun r u => (0 ≤ o_rc.toInt) ∧ (o_rc.toInt ≤ 6) ∧ (0 ≤ nwn_size.toInt) ∧ (nwn_size.toInt ≤ 10)) (fun u => [(o, .inr (11, [.ref ta, .ref gr, .ref rr, .ref ru, .int o_rc, .ref nw, .ref im, .ref ac, .ref pl, .ref fc, .ref sd])), (nw, .inr (4, [.ref nwf, .ref nwb, .ref nwn, .int u, .int nw_x, .int nw_made])), (nwf, .inr (1, [.ref nwf_c])), (nwf_c, .inl (cy 0, 63, .inl g_nwf)), (nwb, .inr (1, [.ref nwb_c])), (nwb_c, .inl (cy 0, 63, .inl g_nwb)), (nwn, .inr (5, [.ref nwn_r, .ref nwn_a, .ref nwn_p, .int nwn_size])), (nwn_r, .inl (cy 0, 10, .inl g_nwnr)), (nwn_a, .inl (cy 0, 10, .inl g_nwna)), (nwn_p, .inl (cy 0, 10, .inl g_nwnp))]) 0 0 := by
  refine KI.of (by decide) (Nat.le_of_ble_eq_true rfl) (fun p e s m below meth c ls A F hE hP hD hA hS hl => ?_)
  have F : kF p s m meth c cX11_force 3 (some .int) _ RX11 := F
  obtain ⟨hx, hb, hr, hml, hown, hG, hlk⟩ := id F
  have hl : lv_has ls 3 [(0, .ref o), (1, .int x0)] := hl
  obtain ⟨⟨b_1a, b_1b⟩, ⟨b_1c, b_1d⟩, ⟨b_1e, b_1f⟩⟩ := FV.bounds h_g_nwf
  obtain ⟨⟨b_2a, b_2b⟩, ⟨b_2c, b_2d⟩, ⟨b_2e, b_2f⟩⟩ := FV.bounds h_g_nwb
  refine lv_iload_n hx hb dX11_force_0 rfl (lv_at hl 1 rfl) ?_
  refine lv_iconst (v := (-1)) hx hb dX11_force_1 (by decide) ?_
  refine lv_aload_n hx hb dX11_force_2 rfl (lv_at hl 0 rfl) ?_
  refine va_get (D := D) (ci := 11) (v := .int o_rc) (C := RX11) (T := TX11) (N := 11) hx hb hG inG_X11 hown hE.1 hP 0 rfl rfl 4 (by decide) (hG _ q_f_X11_36) (fun _ h9 => h9) rfl dX11_force_3 ?_
  refine lv_iconst (v := 1) hx hb dX11_force_6 (by decide) ?_
  refine lv_isub hx hb dX11_force_7 ?_
  refine lv_topi (fun z_3 ez_3 => ?_)
  have iz_3 : z_3.toInt = o_rc.toInt - 1 := k_subI ez_3 rfl (by decide) (by omega)
  have lt32_3 : ((-1) : Int32).toInt = (-1) := by decide
  refine kcS (As := [.int x0, .int (-1), .int z_3]) (rest := []) F hE hP hl.1 (cc_within l D cy (x0 := x0) (x1 := (-1)) (x2 := z_3)) q_m_X11_90 ms_X11_within ⟨(Nat.le_of_ble_eq_true rfl), (Nat.le_of_ble_eq_true rfl)⟩ [] rfl rfl rfl (Nat.le_of_ble_eq_true rfl) ⟨(Nat.le_of_ble_eq_true rfl), (Nat.le_of_ble_eq_true rfl)⟩ dX11_force_8 (fun r_5 er_5 => ?_)
  have er_5 : (r_5.toInt = 0 ∨ r_5.toInt = 1) ∧ ((r_5.toInt ≠ 0 → ((-1) : Int32).toInt ≤ x0.toInt ∧ x0.toInt ≤ z_3.toInt)) ∧ ((r_5.toInt = 0 → x0.toInt < ((-1) : Int32).toInt ∨ z_3.toInt < x0.toInt)) := er_5
  obtain ⟨er_5a, er_5b, er_5c⟩ := er_5
  refine lv_if_ne (tgt := 17) hx hb dX11_force_11 (by decide) (fun c_6 => ?_) (fun c_6 => ?_)
  · have ic_6 : r_5.toInt ≠ 0 := k_ne c_6 rfl (by decide)
    have fc_6 := er_5b ic_6
    clear er_5b er_5c er_5a
    obtain ⟨fc_6a, fc_6b⟩ := fc_6
    refine lv_aload_n hx hb dX11_force_17 rfl (lv_at hl 0 rfl) ?_
    refine va_get (D := D) (ci := 11) (v := .ref nw) (C := RX11) (T := TX11) (N := 11) hx hb hG inG_X11 hown hE.1 hP 0 rfl rfl 5 (by decide) (hG _ q_f_X11_43) (fun _ h9 => h9) rfl dX11_force_18 ?_
    refine va_get (D := D) (ci := 4) (v := .int nw_force) (C := RX4) (T := TX4) (N := 6) hx hb hG inG_X4 hown hE.1 hP 1 rfl rfl 3 (by decide) (hG _ q_f_X11_133) (fun _ h9 => h9) rfl dX11_force_21 ?_
    refine lv_istore_n (lv' := [(2, .int nw_force), (0, .ref o), (1, .int x0)]) hx hb dX11_force_24 rfl hl (by decide) rfl (fun ls hl => ?_)
    refine lv_aload_n hx hb dX11_force_25 rfl (lv_at hl 1 rfl) ?_
    refine va_get (D := D) (ci := 11) (v := .ref nw) (C := RX11) (T := TX11) (N := 11) hx hb hG inG_X11 hown hE.1 hP 0 rfl rfl 5 (by decide) (hG _ q_f_X11_43) (fun _ h9 => h9) rfl dX11_force_26 ?_
    refine lv_iload_n hx hb dX11_force_29 rfl (lv_at hl 2 rfl) ?_
    refine va_put (D := D) (ci := 4) (v := .int x0) (ty := .int) (C := RX4) (T := TX4) (N := 6) hx hb hG inG_X4 tyX4 tyX4_ok nmX4 hown hE.1 hP hD hS 1 rfl rfl 3 (by decide) (hG _ q_f_X11_133) (fun _ h9 => h9) rfl (by decide +kernel) rfl rfl (Nat.le_of_ble_eq_true rfl) dX11_force_30 (fun H locs hP hD hS => ?_)
    have hP : va_P D vwCl [(o, .inr (11, [.ref ta, .ref gr, .ref rr, .ref ru, .int o_rc, .ref nw, .ref im, .ref ac, .ref pl, .ref fc, .ref sd])), (nw, .inr (4, [.ref nwf, .ref nwb, .ref nwn, .int x0, .int nw_x, .int nw_made])), (nwf, .inr (1, [.ref nwf_c])), (nwf_c, .inl (cy 0, 63, .inl g_nwf)), (nwb, .inr (1, [.ref nwb_c])), (nwb_c, .inl (cy 0, 63, .inl g_nwb)), (nwn, .inr (5, [.ref nwn_r, .ref nwn_a, .ref nwn_p, .int nwn_size])), (nwn_r, .inl (cy 0, 10, .inl g_nwnr)), (nwn_a, .inl (cy 0, 10, .inl g_nwna)), (nwn_p, .inl (cy 0, 10, .inl g_nwnp))] H := hP
    have hD : va_D A [(o, .inr (11, [.ref ta, .ref gr, .ref rr, .ref ru, .int o_rc, .ref nw, .ref im, .ref ac, .ref pl, .ref fc, .ref sd])), (nw, .inr (4, [.ref nwf, .ref nwb, .ref nwn, .int x0, .int nw_x, .int nw_made])), (nwf, .inr (1, [.ref nwf_c])), (nwf_c, .inl (cy 0, 63, .inl g_nwf)), (nwb, .inr (1, [.ref nwb_c])), (nwb_c, .inl (cy 0, 63, .inl g_nwb)), (nwn, .inr (5, [.ref nwn_r, .ref nwn_a, .ref nwn_p, .int nwn_size])), (nwn_r, .inl (cy 0, 10, .inl g_nwnr)), (nwn_a, .inl (cy 0, 10, .inl g_nwna)), (nwn_p, .inl (cy 0, 10, .inl g_nwnp))] := hD
    refine lv_iload_n hx hb dX11_force_33 rfl (lv_at hl 0 rfl) ?_
    exact KI.rt x0 F rfl (hP.sub [0, 1, 2, 3, 4, 5, 6, 7, 8, 9] rfl) (hD.sub [0, 1, 2, 3, 4, 5, 6, 7, 8, 9] (by decide) rfl) hS (show (0 ≤ o_rc.toInt) ∧ (o_rc.toInt ≤ 6) ∧ (0 ≤ nwn_size.toInt) ∧ (nwn_size.toInt ≤ 10) from ⟨(by first | omega | assumption), (by first | omega | assumption), (by first | omega | assumption), (by first | omega | assumption)⟩) (Nat.le_of_ble_eq_true rfl) (Nat.le_of_ble_eq_true rfl) dX11_force_34
  · have ic_6 : r_5.toInt = 0 := k_eq c_6 rfl (by decide)
    have fc_6 := er_5c ic_6
    clear er_5b er_5c er_5a
    refine lv_bipush (v := (-2)) hx hb dX11_force_14 (by decide) ?_
    have lit0 : ((-2) : Int32).toInt = (-2) := by decide
    exact KI.rt nw_force F rfl (hP.sub [0, 1, 2, 3, 4, 5, 6, 7, 8, 9] rfl) (hD.sub [0, 1, 2, 3, 4, 5, 6, 7, 8, 9] (by decide) rfl) hS (show (0 ≤ o_rc.toInt) ∧ (o_rc.toInt ≤ 6) ∧ (0 ≤ nwn_size.toInt) ∧ (nwn_size.toInt ≤ 10) from ⟨(by first | omega | assumption), (by first | omega | assumption), (by first | omega | assumption), (by first | omega | assumption)⟩) (Nat.le_of_ble_eq_true rfl) (Nat.le_of_ble_eq_true rfl) dX11_force_16

set_option maxHeartbeats 4000000 in
set_option maxRecDepth 100000 in
theorem cc_X11_ring (l : Launch) (D : va_G) (cy : Nat → ClassId) (o : Nat) (ta : Nat) (gr : Nat) (rr : Nat) (ru : Nat) (nw : Nat) (im : Nat) (ac : Nat) (pl : Nat) (fc : Nat) (sd : Nat) (o_rc : Int32) (nwf : Nat) (nwf_c : Nat) (g_nwf : Nat → Int32) (nwb : Nat) (nwb_c : Nat) (g_nwb : Nat → Int32) (nwn : Nat) (nwn_r : Nat) (nwn_a : Nat) (nwn_p : Nat) (nwn_size : Int32) (g_nwnr : Nat → Int32) (g_nwna : Nat → Int32) (g_nwnp : Nat → Int32) (nw_force : Int32) (nw_x : Int32) (nw_made : Int32) (x0 : Int32) (x1 : Int32) (h_g_nwf : FV g_nwf) (h_g_nwb : FV g_nwb) (h_g_nwnr : NRV g_nwnr) (h_g_nwna : NV g_nwna) (p0 : 0 ≤ o_rc.toInt) (p1 : o_rc.toInt ≤ 6) (p2 : 0 ≤ nwn_size.toInt) (p3 : nwn_size.toInt ≤ 10) : KP l yX11_ring cX11_ring 3 (some .int) 2 43 D (kTY cy) [.ref o, .int x0, .int x1] [(o, .inr (11, [.ref ta, .ref gr, .ref rr, .ref ru, .int o_rc, .ref nw, .ref im, .ref ac, .ref pl, .ref fc, .ref sd])), (nw, .inr (4, [.ref nwf, .ref nwb, .ref nwn, .int nw_force, .int nw_x, .int nw_made])), (nwf, .inr (1, [.ref nwf_c])), (nwf_c, .inl (cy 0, 63, .inl g_nwf)), (nwb, .inr (1, [.ref nwb_c])), (nwb_c, .inl (cy 0, 63, .inl g_nwb)), (nwn, .inr (5, [.ref nwn_r, .ref nwn_a, .ref nwn_p, .int nwn_size])), (nwn_r, .inl (cy 0, 10, .inl g_nwnr)), (nwn_a, .inl (cy 0, 10, .inl g_nwna)), (nwn_p, .inl (cy 0, 10, .inl g_nwnp))] (fun r => (0 ≤ o_rc.toInt) ∧ (o_rc.toInt ≤ 6) ∧ (0 ≤ nwn_size.toInt) ∧ (nwn_size.toInt ≤ 10)) := by
  refine KP.of (by decide) (Nat.le_of_ble_eq_true rfl) (fun p e s m below meth c ls F hE hP hl => ?_)
  have F : kF p s m meth c cX11_ring 3 (some .int) _ RX11 := F
  obtain ⟨hx, hb, hr, hml, hown, hG, hlk⟩ := id F
  have hl : lv_has ls 3 [(0, .ref o), (1, .int x0), (2, .int x1)] := hl
  obtain ⟨⟨b_1a, b_1b⟩, ⟨b_1c, b_1d⟩, ⟨b_1e, b_1f⟩⟩ := FV.bounds h_g_nwf
  obtain ⟨⟨b_2a, b_2b⟩, ⟨b_2c, b_2d⟩, ⟨b_2e, b_2f⟩⟩ := FV.bounds h_g_nwb
  refine lv_aload_n hx hb dX11_ring_0 rfl (lv_at hl 0 rfl) ?_
  refine va_get (D := D) (ci := 11) (v := .ref nw) (C := RX11) (T := TX11) (N := 11) hx hb hG inG_X11 hown hE.1 hP 0 rfl rfl 5 (by decide) (hG _ q_f_X11_43) (fun _ h9 => h9) rfl dX11_ring_1 ?_
  refine va_get (D := D) (ci := 4) (v := .ref nwf) (C := RX4) (T := TX4) (N := 6) hx hb hG inG_X4 hown hE.1 hP 1 rfl rfl 0 (by decide) (hG _ q_f_X11_111) (fun _ h9 => h9) rfl dX11_ring_4 ?_
  refine lv_iload_n hx hb dX11_ring_7 rfl (lv_at hl 1 rfl) ?_
  refine kcV (As := [.int x0]) (rest := []) F hE hP hl.1 (cc_X1_hasRing l D cy (o := nwf) (x0 := x0) (o_c := nwf_c) (g_o := g_nwf) (h_g_o := h_g_nwf)) q_m_X11_136 mv_X1_hasRing ⟨(Nat.le_of_ble_eq_true rfl), (Nat.le_of_ble_eq_true rfl)⟩ [2, 3] rfl rfl rfl rfl rfl rfl (Nat.le_of_ble_eq_true rfl) ⟨(Nat.le_of_ble_eq_true rfl), (Nat.le_of_ble_eq_true rfl)⟩ dX11_ring_8 (fun r_3 er_3 => ?_)
  have er_3 : (r_3.toInt = 0 ∨ r_3.toInt = 1) ∧ ((r_3.toInt ≠ 0 → 0 ≤ x0.toInt ∧ x0.toInt < (g_nwf 3).toInt)) := er_3
  obtain ⟨er_3a, er_3b⟩ := er_3
  refine lv_if_ne (tgt := 16) hx hb dX11_ring_11 (by decide) (fun c_4 => ?_) (fun c_4 => ?_)
  · have ic_4 : r_3.toInt ≠ 0 := k_ne c_4 rfl (by decide)
    have fc_4 := er_3b ic_4
    clear er_3b er_3a
    obtain ⟨fc_4a, fc_4b⟩ := fc_4
    refine lv_iload_n hx hb dX11_ring_16 rfl (lv_at hl 2 rfl) ?_
    by_cases c_5 : x1.toInt = 0
    · refine lv_tableIn (off := 27) (tgt := 44) hx hb dX11_ring_17 (by omega) (by omega) (by rw [c_5]; rfl) (by decide) ?_
      refine lv_aload_n hx hb dX11_ring_44 rfl (lv_at hl 0 rfl) ?_
      refine va_get (D := D) (ci := 11) (v := .ref nw) (C := RX11) (T := TX11) (N := 11) hx hb hG inG_X11 hown hE.1 hP 0 rfl rfl 5 (by decide) (hG _ q_f_X11_43) (fun _ h9 => h9) rfl dX11_ring_45 ?_
      refine va_get (D := D) (ci := 4) (v := .ref nwf) (C := RX4) (T := TX4) (N := 6) hx hb hG inG_X4 hown hE.1 hP 1 rfl rfl 0 (by decide) (hG _ q_f_X11_111) (fun _ h9 => h9) rfl dX11_ring_48 ?_
      refine va_get (D := D) (ci := 1) (v := .ref nwf_c) (C := RX1) (T := TX1) (N := 1) hx hb hG inG_X1 hown hE.1 hP 2 rfl rfl 0 (by decide) (hG _ q_f_X11_124) (fun _ h9 => h9) rfl dX11_ring_51 ?_
      refine lv_bipush (v := 20) hx hb dX11_ring_54 (by decide) ?_
      refine lv_iload_n hx hb dX11_ring_56 rfl (lv_at hl 1 rfl) ?_
      refine lv_iadd hx hb dX11_ring_57 ?_
      refine lv_topi (fun z_6 ez_6 => ?_)
      have iz_6 : z_6.toInt = 20 + x0.toInt := k_addI ez_6 (by decide) rfl (by omega)
      refine va_iald hx hb hE.1 hP 3 0 rfl rfl (k_in (by omega)) dX11_ring_58 ?_
      refine k_top (z := (g_nwf (Int32.toNatClampNeg z_6))) rfl ?_
      exact KP.rt F rfl (show (0 ≤ o_rc.toInt) ∧ (o_rc.toInt ≤ 6) ∧ (0 ≤ nwn_size.toInt) ∧ (nwn_size.toInt ≤ 10) from ⟨(by first | omega | assumption), (by first | omega | assumption), (by first | omega | assumption), (by first | omega | assumption)⟩) dX11_ring_59
    by_cases c_7 : x1.toInt = 1
    · refine lv_tableIn (off := 43) (tgt := 60) hx hb dX11_ring_17 (by omega) (by omega) (by rw [c_7]; rfl) (by decide) ?_
      refine lv_aload_n hx hb dX11_ring_60 rfl (lv_at hl 0 rfl) ?_
      refine va_get (D := D) (ci := 11) (v := .ref nw) (C := RX11) (T := TX11) (N := 11) hx hb hG inG_X11 hown hE.1 hP 0 rfl rfl 5 (by decide) (hG _ q_f_X11_43) (fun _ h9 => h9) rfl dX11_ring_61 ?_
      refine va_get (D := D) (ci := 4) (v := .ref nwf) (C := RX4) (T := TX4) (N := 6) hx hb hG inG_X4 hown hE.1 hP 1 rfl rfl 0 (by decide) (hG _ q_f_X11_111) (fun _ h9 => h9) rfl dX11_ring_64 ?_
      refine va_get (D := D) (ci := 1) (v := .ref nwf_c) (C := RX1) (T := TX1) (N := 1) hx hb hG inG_X1 hown hE.1 hP 2 rfl rfl 0 (by decide) (hG _ q_f_X11_124) (fun _ h9 => h9) rfl dX11_ring_67 ?_
      refine lv_bipush (v := 26) hx hb dX11_ring_70 (by decide) ?_
      refine lv_iload_n hx hb dX11_ring_72 rfl (lv_at hl 1 rfl) ?_
      refine lv_iadd hx hb dX11_ring_73 ?_
      refine lv_topi (fun z_8 ez_8 => ?_)
      have iz_8 : z_8.toInt = 26 + x0.toInt := k_addI ez_8 (by decide) rfl (by omega)
      refine va_iald hx hb hE.1 hP 3 0 rfl rfl (k_in (by omega)) dX11_ring_74 ?_
      refine k_top (z := (g_nwf (Int32.toNatClampNeg z_8))) rfl ?_
      exact KP.rt F rfl (show (0 ≤ o_rc.toInt) ∧ (o_rc.toInt ≤ 6) ∧ (0 ≤ nwn_size.toInt) ∧ (nwn_size.toInt ≤ 10) from ⟨(by first | omega | assumption), (by first | omega | assumption), (by first | omega | assumption), (by first | omega | assumption)⟩) dX11_ring_75
    by_cases c_9 : x1.toInt = 2
    · refine lv_tableIn (off := 59) (tgt := 76) hx hb dX11_ring_17 (by omega) (by omega) (by rw [c_9]; rfl) (by decide) ?_
      refine lv_aload_n hx hb dX11_ring_76 rfl (lv_at hl 0 rfl) ?_
      refine va_get (D := D) (ci := 11) (v := .ref nw) (C := RX11) (T := TX11) (N := 11) hx hb hG inG_X11 hown hE.1 hP 0 rfl rfl 5 (by decide) (hG _ q_f_X11_43) (fun _ h9 => h9) rfl dX11_ring_77 ?_
      refine va_get (D := D) (ci := 4) (v := .ref nwf) (C := RX4) (T := TX4) (N := 6) hx hb hG inG_X4 hown hE.1 hP 1 rfl rfl 0 (by decide) (hG _ q_f_X11_111) (fun _ h9 => h9) rfl dX11_ring_80 ?_
      refine va_get (D := D) (ci := 1) (v := .ref nwf_c) (C := RX1) (T := TX1) (N := 1) hx hb hG inG_X1 hown hE.1 hP 2 rfl rfl 0 (by decide) (hG _ q_f_X11_124) (fun _ h9 => h9) rfl dX11_ring_83 ?_
      refine lv_bipush (v := 32) hx hb dX11_ring_86 (by decide) ?_
      refine lv_iload_n hx hb dX11_ring_88 rfl (lv_at hl 1 rfl) ?_
      refine lv_iadd hx hb dX11_ring_89 ?_
      refine lv_topi (fun z_10 ez_10 => ?_)
      have iz_10 : z_10.toInt = 32 + x0.toInt := k_addI ez_10 (by decide) rfl (by omega)
      refine va_iald hx hb hE.1 hP 3 0 rfl rfl (k_in (by omega)) dX11_ring_90 ?_
      refine k_top (z := (g_nwf (Int32.toNatClampNeg z_10))) rfl ?_
      exact KP.rt F rfl (show (0 ≤ o_rc.toInt) ∧ (o_rc.toInt ≤ 6) ∧ (0 ≤ nwn_size.toInt) ∧ (nwn_size.toInt ≤ 10) from ⟨(by first | omega | assumption), (by first | omega | assumption), (by first | omega | assumption), (by first | omega | assumption)⟩) dX11_ring_91
    refine lv_tableOut (tgt := 92) hx hb dX11_ring_17 (by omega) (by decide) ?_
    refine lv_iconst (v := (-1)) hx hb dX11_ring_92 (by decide) ?_
    have lit0 : ((-1) : Int32).toInt = (-1) := by decide
    exact KP.rt F rfl (show (0 ≤ o_rc.toInt) ∧ (o_rc.toInt ≤ 6) ∧ (0 ≤ nwn_size.toInt) ∧ (nwn_size.toInt ≤ 10) from ⟨(by first | omega | assumption), (by first | omega | assumption), (by first | omega | assumption), (by first | omega | assumption)⟩) dX11_ring_93
  · have ic_4 : r_3.toInt = 0 := k_eq c_4 rfl (by decide)
    clear er_3b er_3a
    refine lv_iconst (v := (-1)) hx hb dX11_ring_14 (by decide) ?_
    have lit0 : ((-1) : Int32).toInt = (-1) := by decide
    exact KP.rt F rfl (show (0 ≤ o_rc.toInt) ∧ (o_rc.toInt ≤ 6) ∧ (0 ≤ nwn_size.toInt) ∧ (nwn_size.toInt ≤ 10) from ⟨(by first | omega | assumption), (by first | omega | assumption), (by first | omega | assumption), (by first | omega | assumption)⟩) dX11_ring_15

set_option maxHeartbeats 4000000 in
set_option maxRecDepth 100000 in
theorem cc_X11_archer (l : Launch) (D : va_G) (cy : Nat → ClassId) (o : Nat) (ta : Nat) (gr : Nat) (rr : Nat) (ru : Nat) (nw : Nat) (im : Nat) (ac : Nat) (pl : Nat) (fc : Nat) (sd : Nat) (o_rc : Int32) (nwf : Nat) (nwf_c : Nat) (g_nwf : Nat → Int32) (nwb : Nat) (nwb_c : Nat) (g_nwb : Nat → Int32) (nwn : Nat) (nwn_r : Nat) (nwn_a : Nat) (nwn_p : Nat) (nwn_size : Int32) (g_nwnr : Nat → Int32) (g_nwna : Nat → Int32) (g_nwnp : Nat → Int32) (nw_force : Int32) (nw_x : Int32) (nw_made : Int32) (x0 : Int32) (x1 : Int32) (h_g_nwf : FV g_nwf) (h_g_nwb : FV g_nwb) (h_g_nwnr : NRV g_nwnr) (h_g_nwna : NV g_nwna) (p0 : 0 ≤ o_rc.toInt) (p1 : o_rc.toInt ≤ 6) (p2 : 0 ≤ nwn_size.toInt) (p3 : nwn_size.toInt ≤ 10) : KP l yX11_archer cX11_archer 3 (some .int) 2 43 D (kTY cy) [.ref o, .int x0, .int x1] [(o, .inr (11, [.ref ta, .ref gr, .ref rr, .ref ru, .int o_rc, .ref nw, .ref im, .ref ac, .ref pl, .ref fc, .ref sd])), (nw, .inr (4, [.ref nwf, .ref nwb, .ref nwn, .int nw_force, .int nw_x, .int nw_made])), (nwf, .inr (1, [.ref nwf_c])), (nwf_c, .inl (cy 0, 63, .inl g_nwf)), (nwb, .inr (1, [.ref nwb_c])), (nwb_c, .inl (cy 0, 63, .inl g_nwb)), (nwn, .inr (5, [.ref nwn_r, .ref nwn_a, .ref nwn_p, .int nwn_size])), (nwn_r, .inl (cy 0, 10, .inl g_nwnr)), (nwn_a, .inl (cy 0, 10, .inl g_nwna)), (nwn_p, .inl (cy 0, 10, .inl g_nwnp))] (fun r => (0 ≤ o_rc.toInt) ∧ (o_rc.toInt ≤ 6) ∧ (0 ≤ nwn_size.toInt) ∧ (nwn_size.toInt ≤ 10)) := by
  refine KP.of (by decide) (Nat.le_of_ble_eq_true rfl) (fun p e s m below meth c ls F hE hP hl => ?_)
  have F : kF p s m meth c cX11_archer 3 (some .int) _ RX11 := F
  obtain ⟨hx, hb, hr, hml, hown, hG, hlk⟩ := id F
  have hl : lv_has ls 3 [(0, .ref o), (1, .int x0), (2, .int x1)] := hl
  obtain ⟨⟨b_1a, b_1b⟩, ⟨b_1c, b_1d⟩, ⟨b_1e, b_1f⟩⟩ := FV.bounds h_g_nwf
  obtain ⟨⟨b_2a, b_2b⟩, ⟨b_2c, b_2d⟩, ⟨b_2e, b_2f⟩⟩ := FV.bounds h_g_nwb
  refine lv_aload_n hx hb dX11_archer_0 rfl (lv_at hl 0 rfl) ?_
  refine va_get (D := D) (ci := 11) (v := .ref nw) (C := RX11) (T := TX11) (N := 11) hx hb hG inG_X11 hown hE.1 hP 0 rfl rfl 5 (by decide) (hG _ q_f_X11_43) (fun _ h9 => h9) rfl dX11_archer_1 ?_
  refine va_get (D := D) (ci := 4) (v := .ref nwf) (C := RX4) (T := TX4) (N := 6) hx hb hG inG_X4 hown hE.1 hP 1 rfl rfl 0 (by decide) (hG _ q_f_X11_111) (fun _ h9 => h9) rfl dX11_archer_4 ?_
  refine lv_iload_n hx hb dX11_archer_7 rfl (lv_at hl 1 rfl) ?_
  refine kcV (As := [.int x0]) (rest := []) F hE hP hl.1 (cc_X1_hasArcher l D cy (o := nwf) (x0 := x0) (o_c := nwf_c) (g_o := g_nwf) (h_g_o := h_g_nwf)) q_m_X11_139 mv_X1_hasArcher ⟨(Nat.le_of_ble_eq_true rfl), (Nat.le_of_ble_eq_true rfl)⟩ [2, 3] rfl rfl rfl rfl rfl rfl (Nat.le_of_ble_eq_true rfl) ⟨(Nat.le_of_ble_eq_true rfl), (Nat.le_of_ble_eq_true rfl)⟩ dX11_archer_8 (fun r_3 er_3 => ?_)
  have er_3 : (r_3.toInt = 0 ∨ r_3.toInt = 1) ∧ ((r_3.toInt ≠ 0 → 0 ≤ x0.toInt ∧ x0.toInt < (g_nwf 4).toInt)) := er_3
  obtain ⟨er_3a, er_3b⟩ := er_3
  refine lv_if_ne (tgt := 16) hx hb dX11_archer_11 (by decide) (fun c_4 => ?_) (fun c_4 => ?_)
  · have ic_4 : r_3.toInt ≠ 0 := k_ne c_4 rfl (by decide)
    have fc_4 := er_3b ic_4
    clear er_3b er_3a
    obtain ⟨fc_4a, fc_4b⟩ := fc_4
    refine lv_iload_n hx hb dX11_archer_16 rfl (lv_at hl 2 rfl) ?_
    by_cases c_5 : x1.toInt = 0
    · refine lv_tableIn (off := 35) (tgt := 52) hx hb dX11_archer_17 (by omega) (by omega) (by rw [c_5]; rfl) (by decide) ?_
      refine lv_aload_n hx hb dX11_archer_52 rfl (lv_at hl 0 rfl) ?_
      refine va_get (D := D) (ci := 11) (v := .ref nw) (C := RX11) (T := TX11) (N := 11) hx hb hG inG_X11 hown hE.1 hP 0 rfl rfl 5 (by decide) (hG _ q_f_X11_43) (fun _ h9 => h9) rfl dX11_archer_53 ?_
      refine va_get (D := D) (ci := 4) (v := .ref nwf) (C := RX4) (T := TX4) (N := 6) hx hb hG inG_X4 hown hE.1 hP 1 rfl rfl 0 (by decide) (hG _ q_f_X11_111) (fun _ h9 => h9) rfl dX11_archer_56 ?_
      refine va_get (D := D) (ci := 1) (v := .ref nwf_c) (C := RX1) (T := TX1) (N := 1) hx hb hG inG_X1 hown hE.1 hP 2 rfl rfl 0 (by decide) (hG _ q_f_X11_124) (fun _ h9 => h9) rfl dX11_archer_59 ?_
      refine lv_bipush (v := 38) hx hb dX11_archer_62 (by decide) ?_
      refine lv_iload_n hx hb dX11_archer_64 rfl (lv_at hl 1 rfl) ?_
      refine lv_iadd hx hb dX11_archer_65 ?_
      refine lv_topi (fun z_6 ez_6 => ?_)
      have iz_6 : z_6.toInt = 38 + x0.toInt := k_addI ez_6 (by decide) rfl (by omega)
      refine va_iald hx hb hE.1 hP 3 0 rfl rfl (k_in (by omega)) dX11_archer_66 ?_
      refine k_top (z := (g_nwf (Int32.toNatClampNeg z_6))) rfl ?_
      have ow_7 := FV.own h_g_nwf z_6 (by omega)
      exact KP.rt F rfl (show (0 ≤ o_rc.toInt) ∧ (o_rc.toInt ≤ 6) ∧ (0 ≤ nwn_size.toInt) ∧ (nwn_size.toInt ≤ 10) from ⟨(by first | omega | assumption), (by first | omega | assumption), (by first | omega | assumption), (by first | omega | assumption)⟩) dX11_archer_67
    by_cases c_8 : x1.toInt = 1
    · refine lv_tableIn (off := 51) (tgt := 68) hx hb dX11_archer_17 (by omega) (by omega) (by rw [c_8]; rfl) (by decide) ?_
      refine lv_aload_n hx hb dX11_archer_68 rfl (lv_at hl 0 rfl) ?_
      refine va_get (D := D) (ci := 11) (v := .ref nw) (C := RX11) (T := TX11) (N := 11) hx hb hG inG_X11 hown hE.1 hP 0 rfl rfl 5 (by decide) (hG _ q_f_X11_43) (fun _ h9 => h9) rfl dX11_archer_69 ?_
      refine va_get (D := D) (ci := 4) (v := .ref nwf) (C := RX4) (T := TX4) (N := 6) hx hb hG inG_X4 hown hE.1 hP 1 rfl rfl 0 (by decide) (hG _ q_f_X11_111) (fun _ h9 => h9) rfl dX11_archer_72 ?_
      refine va_get (D := D) (ci := 1) (v := .ref nwf_c) (C := RX1) (T := TX1) (N := 1) hx hb hG inG_X1 hown hE.1 hP 2 rfl rfl 0 (by decide) (hG _ q_f_X11_124) (fun _ h9 => h9) rfl dX11_archer_75 ?_
      refine lv_bipush (v := 43) hx hb dX11_archer_78 (by decide) ?_
      refine lv_iload_n hx hb dX11_archer_80 rfl (lv_at hl 1 rfl) ?_
      refine lv_iadd hx hb dX11_archer_81 ?_
      refine lv_topi (fun z_9 ez_9 => ?_)
      have iz_9 : z_9.toInt = 43 + x0.toInt := k_addI ez_9 (by decide) rfl (by omega)
      refine va_iald hx hb hE.1 hP 3 0 rfl rfl (k_in (by omega)) dX11_archer_82 ?_
      refine k_top (z := (g_nwf (Int32.toNatClampNeg z_9))) rfl ?_
      exact KP.rt F rfl (show (0 ≤ o_rc.toInt) ∧ (o_rc.toInt ≤ 6) ∧ (0 ≤ nwn_size.toInt) ∧ (nwn_size.toInt ≤ 10) from ⟨(by first | omega | assumption), (by first | omega | assumption), (by first | omega | assumption), (by first | omega | assumption)⟩) dX11_archer_83
    by_cases c_10 : x1.toInt = 2
    · refine lv_tableIn (off := 67) (tgt := 84) hx hb dX11_archer_17 (by omega) (by omega) (by rw [c_10]; rfl) (by decide) ?_
      refine lv_aload_n hx hb dX11_archer_84 rfl (lv_at hl 0 rfl) ?_
      refine va_get (D := D) (ci := 11) (v := .ref nw) (C := RX11) (T := TX11) (N := 11) hx hb hG inG_X11 hown hE.1 hP 0 rfl rfl 5 (by decide) (hG _ q_f_X11_43) (fun _ h9 => h9) rfl dX11_archer_85 ?_
      refine va_get (D := D) (ci := 4) (v := .ref nwf) (C := RX4) (T := TX4) (N := 6) hx hb hG inG_X4 hown hE.1 hP 1 rfl rfl 0 (by decide) (hG _ q_f_X11_111) (fun _ h9 => h9) rfl dX11_archer_88 ?_
      refine va_get (D := D) (ci := 1) (v := .ref nwf_c) (C := RX1) (T := TX1) (N := 1) hx hb hG inG_X1 hown hE.1 hP 2 rfl rfl 0 (by decide) (hG _ q_f_X11_124) (fun _ h9 => h9) rfl dX11_archer_91 ?_
      refine lv_bipush (v := 48) hx hb dX11_archer_94 (by decide) ?_
      refine lv_iload_n hx hb dX11_archer_96 rfl (lv_at hl 1 rfl) ?_
      refine lv_iadd hx hb dX11_archer_97 ?_
      refine lv_topi (fun z_11 ez_11 => ?_)
      have iz_11 : z_11.toInt = 48 + x0.toInt := k_addI ez_11 (by decide) rfl (by omega)
      refine va_iald hx hb hE.1 hP 3 0 rfl rfl (k_in (by omega)) dX11_archer_98 ?_
      refine k_top (z := (g_nwf (Int32.toNatClampNeg z_11))) rfl ?_
      exact KP.rt F rfl (show (0 ≤ o_rc.toInt) ∧ (o_rc.toInt ≤ 6) ∧ (0 ≤ nwn_size.toInt) ∧ (nwn_size.toInt ≤ 10) from ⟨(by first | omega | assumption), (by first | omega | assumption), (by first | omega | assumption), (by first | omega | assumption)⟩) dX11_archer_99
    by_cases c_12 : x1.toInt = 3
    · refine lv_tableIn (off := 83) (tgt := 100) hx hb dX11_archer_17 (by omega) (by omega) (by rw [c_12]; rfl) (by decide) ?_
      refine lv_aload_n hx hb dX11_archer_100 rfl (lv_at hl 0 rfl) ?_
      refine va_get (D := D) (ci := 11) (v := .ref nw) (C := RX11) (T := TX11) (N := 11) hx hb hG inG_X11 hown hE.1 hP 0 rfl rfl 5 (by decide) (hG _ q_f_X11_43) (fun _ h9 => h9) rfl dX11_archer_101 ?_
      refine va_get (D := D) (ci := 4) (v := .ref nwf) (C := RX4) (T := TX4) (N := 6) hx hb hG inG_X4 hown hE.1 hP 1 rfl rfl 0 (by decide) (hG _ q_f_X11_111) (fun _ h9 => h9) rfl dX11_archer_104 ?_
      refine va_get (D := D) (ci := 1) (v := .ref nwf_c) (C := RX1) (T := TX1) (N := 1) hx hb hG inG_X1 hown hE.1 hP 2 rfl rfl 0 (by decide) (hG _ q_f_X11_124) (fun _ h9 => h9) rfl dX11_archer_107 ?_
      refine lv_bipush (v := 53) hx hb dX11_archer_110 (by decide) ?_
      refine lv_iload_n hx hb dX11_archer_112 rfl (lv_at hl 1 rfl) ?_
      refine lv_iadd hx hb dX11_archer_113 ?_
      refine lv_topi (fun z_13 ez_13 => ?_)
      have iz_13 : z_13.toInt = 53 + x0.toInt := k_addI ez_13 (by decide) rfl (by omega)
      refine va_iald hx hb hE.1 hP 3 0 rfl rfl (k_in (by omega)) dX11_archer_114 ?_
      refine k_top (z := (g_nwf (Int32.toNatClampNeg z_13))) rfl ?_
      exact KP.rt F rfl (show (0 ≤ o_rc.toInt) ∧ (o_rc.toInt ≤ 6) ∧ (0 ≤ nwn_size.toInt) ∧ (nwn_size.toInt ≤ 10) from ⟨(by first | omega | assumption), (by first | omega | assumption), (by first | omega | assumption), (by first | omega | assumption)⟩) dX11_archer_115
    by_cases c_14 : x1.toInt = 4
    · refine lv_tableIn (off := 99) (tgt := 116) hx hb dX11_archer_17 (by omega) (by omega) (by rw [c_14]; rfl) (by decide) ?_
      refine lv_aload_n hx hb dX11_archer_116 rfl (lv_at hl 0 rfl) ?_
      refine va_get (D := D) (ci := 11) (v := .ref nw) (C := RX11) (T := TX11) (N := 11) hx hb hG inG_X11 hown hE.1 hP 0 rfl rfl 5 (by decide) (hG _ q_f_X11_43) (fun _ h9 => h9) rfl dX11_archer_117 ?_
      refine va_get (D := D) (ci := 4) (v := .ref nwf) (C := RX4) (T := TX4) (N := 6) hx hb hG inG_X4 hown hE.1 hP 1 rfl rfl 0 (by decide) (hG _ q_f_X11_111) (fun _ h9 => h9) rfl dX11_archer_120 ?_
      refine va_get (D := D) (ci := 1) (v := .ref nwf_c) (C := RX1) (T := TX1) (N := 1) hx hb hG inG_X1 hown hE.1 hP 2 rfl rfl 0 (by decide) (hG _ q_f_X11_124) (fun _ h9 => h9) rfl dX11_archer_123 ?_
      refine lv_bipush (v := 58) hx hb dX11_archer_126 (by decide) ?_
      refine lv_iload_n hx hb dX11_archer_128 rfl (lv_at hl 1 rfl) ?_
      refine lv_iadd hx hb dX11_archer_129 ?_
      refine lv_topi (fun z_15 ez_15 => ?_)
      have iz_15 : z_15.toInt = 58 + x0.toInt := k_addI ez_15 (by decide) rfl (by omega)
      refine va_iald hx hb hE.1 hP 3 0 rfl rfl (k_in (by omega)) dX11_archer_130 ?_
      refine k_top (z := (g_nwf (Int32.toNatClampNeg z_15))) rfl ?_
      exact KP.rt F rfl (show (0 ≤ o_rc.toInt) ∧ (o_rc.toInt ≤ 6) ∧ (0 ≤ nwn_size.toInt) ∧ (nwn_size.toInt ≤ 10) from ⟨(by first | omega | assumption), (by first | omega | assumption), (by first | omega | assumption), (by first | omega | assumption)⟩) dX11_archer_131
    refine lv_tableOut (tgt := 132) hx hb dX11_archer_17 (by omega) (by decide) ?_
    refine lv_iconst (v := (-1)) hx hb dX11_archer_132 (by decide) ?_
    have lit0 : ((-1) : Int32).toInt = (-1) := by decide
    exact KP.rt F rfl (show (0 ≤ o_rc.toInt) ∧ (o_rc.toInt ≤ 6) ∧ (0 ≤ nwn_size.toInt) ∧ (nwn_size.toInt ≤ 10) from ⟨(by first | omega | assumption), (by first | omega | assumption), (by first | omega | assumption), (by first | omega | assumption)⟩) dX11_archer_133
  · have ic_4 : r_3.toInt = 0 := k_eq c_4 rfl (by decide)
    clear er_3b er_3a
    refine lv_iconst (v := (-1)) hx hb dX11_archer_14 (by decide) ?_
    have lit0 : ((-1) : Int32).toInt = (-1) := by decide
    exact KP.rt F rfl (show (0 ≤ o_rc.toInt) ∧ (o_rc.toInt ≤ 6) ∧ (0 ≤ nwn_size.toInt) ∧ (nwn_size.toInt ≤ 10) from ⟨(by first | omega | assumption), (by first | omega | assumption), (by first | omega | assumption), (by first | omega | assumption)⟩) dX11_archer_15

set_option maxHeartbeats 4000000 in
set_option maxRecDepth 100000 in
theorem cc_X11_wind (l : Launch) (D : va_G) (cy : Nat → ClassId) (o : Nat) (ta : Nat) (gr : Nat) (rr : Nat) (ru : Nat) (nw : Nat) (im : Nat) (ac : Nat) (pl : Nat) (fc : Nat) (sd : Nat) (o_rc : Int32) (nwf : Nat) (nwf_c : Nat) (g_nwf : Nat → Int32) (nwb : Nat) (nwb_c : Nat) (g_nwb : Nat → Int32) (nwn : Nat) (nwn_r : Nat) (nwn_a : Nat) (nwn_p : Nat) (nwn_size : Int32) (g_nwnr : Nat → Int32) (g_nwna : Nat → Int32) (g_nwnp : Nat → Int32) (nw_force : Int32) (nw_x : Int32) (nw_made : Int32) (x0 : Int32) (h_g_nwf : FV g_nwf) (h_g_nwb : FV g_nwb) (h_g_nwnr : NRV g_nwnr) (h_g_nwna : NV g_nwna) (p0 : 0 ≤ o_rc.toInt) (p1 : o_rc.toInt ≤ 6) (p2 : 0 ≤ nwn_size.toInt) (p3 : nwn_size.toInt ≤ 10) : KP l yX11_wind cX11_wind 2 (some .int) 1 22 D (kTY cy) [.ref o, .int x0] [(o, .inr (11, [.ref ta, .ref gr, .ref rr, .ref ru, .int o_rc, .ref nw, .ref im, .ref ac, .ref pl, .ref fc, .ref sd])), (nw, .inr (4, [.ref nwf, .ref nwb, .ref nwn, .int nw_force, .int nw_x, .int nw_made])), (nwf, .inr (1, [.ref nwf_c])), (nwf_c, .inl (cy 0, 63, .inl g_nwf)), (nwb, .inr (1, [.ref nwb_c])), (nwb_c, .inl (cy 0, 63, .inl g_nwb)), (nwn, .inr (5, [.ref nwn_r, .ref nwn_a, .ref nwn_p, .int nwn_size])), (nwn_r, .inl (cy 0, 10, .inl g_nwnr)), (nwn_a, .inl (cy 0, 10, .inl g_nwna)), (nwn_p, .inl (cy 0, 10, .inl g_nwnp))] (fun r => (0 ≤ o_rc.toInt) ∧ (o_rc.toInt ≤ 6) ∧ (0 ≤ nwn_size.toInt) ∧ (nwn_size.toInt ≤ 10)) := by
  refine KP.of (by decide) (Nat.le_of_ble_eq_true rfl) (fun p e s m below meth c ls F hE hP hl => ?_)
  have F : kF p s m meth c cX11_wind 2 (some .int) _ RX11 := F
  obtain ⟨hx, hb, hr, hml, hown, hG, hlk⟩ := id F
  have hl : lv_has ls 2 [(0, .ref o), (1, .int x0)] := hl
  obtain ⟨⟨b_1a, b_1b⟩, ⟨b_1c, b_1d⟩, ⟨b_1e, b_1f⟩⟩ := FV.bounds h_g_nwf
  obtain ⟨⟨b_2a, b_2b⟩, ⟨b_2c, b_2d⟩, ⟨b_2e, b_2f⟩⟩ := FV.bounds h_g_nwb
  refine lv_iload_n hx hb dX11_wind_0 rfl (lv_at hl 1 rfl) ?_
  refine lv_iconst (v := 0) hx hb dX11_wind_1 (by decide) ?_
  refine lv_aload_n hx hb dX11_wind_2 rfl (lv_at hl 0 rfl) ?_
  refine va_get (D := D) (ci := 11) (v := .ref nw) (C := RX11) (T := TX11) (N := 11) hx hb hG inG_X11 hown hE.1 hP 0 rfl rfl 5 (by decide) (hG _ q_f_X11_43) (fun _ h9 => h9) rfl dX11_wind_3 ?_
  refine va_get (D := D) (ci := 4) (v := .ref nwf) (C := RX4) (T := TX4) (N := 6) hx hb hG inG_X4 hown hE.1 hP 1 rfl rfl 0 (by decide) (hG _ q_f_X11_111) (fun _ h9 => h9) rfl dX11_wind_6 ?_
  refine va_get (D := D) (ci := 1) (v := .ref nwf_c) (C := RX1) (T := TX1) (N := 1) hx hb hG inG_X1 hown hE.1 hP 2 rfl rfl 0 (by decide) (hG _ q_f_X11_124) (fun _ h9 => h9) rfl dX11_wind_9 ?_
  refine lv_iconst (v := 2) hx hb dX11_wind_12 (by decide) ?_
  refine va_iald hx hb hE.1 hP 3 0 rfl rfl (by unfold vp_in; decide) dX11_wind_13 ?_
  refine k_top (z := (g_nwf 2)) rfl ?_
  refine lv_iconst (v := 1) hx hb dX11_wind_14 (by decide) ?_
  refine lv_isub hx hb dX11_wind_15 ?_
  refine lv_topi (fun z_3 ez_3 => ?_)
  have iz_3 : z_3.toInt = (g_nwf 2).toInt - 1 := k_subI ez_3 rfl (by decide) (by omega)
  have lt32_3 : (0 : Int32).toInt = 0 := by decide
  refine kcS (As := [.int x0, .int 0, .int z_3]) (rest := []) F hE hP hl.1 (cc_within l D cy (x0 := x0) (x1 := 0) (x2 := z_3)) q_m_X11_90 ms_X11_within ⟨(Nat.le_of_ble_eq_true rfl), (Nat.le_of_ble_eq_true rfl)⟩ [] rfl rfl rfl (Nat.le_of_ble_eq_true rfl) ⟨(Nat.le_of_ble_eq_true rfl), (Nat.le_of_ble_eq_true rfl)⟩ dX11_wind_16 (fun r_5 er_5 => ?_)
  have er_5 : (r_5.toInt = 0 ∨ r_5.toInt = 1) ∧ ((r_5.toInt ≠ 0 → (0 : Int32).toInt ≤ x0.toInt ∧ x0.toInt ≤ z_3.toInt)) ∧ ((r_5.toInt = 0 → x0.toInt < (0 : Int32).toInt ∨ z_3.toInt < x0.toInt)) := er_5
  obtain ⟨er_5a, er_5b, er_5c⟩ := er_5
  refine lv_if_eq (tgt := 36) hx hb dX11_wind_19 (by decide) (fun c_6 => ?_) (fun c_6 => ?_)
  · have ic_6 : r_5.toInt = 0 := k_eq c_6 rfl (by decide)
    have fc_6 := er_5c ic_6
    clear er_5b er_5c er_5a
    refine lv_iconst (v := (-1)) hx hb dX11_wind_36 (by decide) ?_
    have lit0 : ((-1) : Int32).toInt = (-1) := by decide
    exact KP.rt F rfl (show (0 ≤ o_rc.toInt) ∧ (o_rc.toInt ≤ 6) ∧ (0 ≤ nwn_size.toInt) ∧ (nwn_size.toInt ≤ 10) from ⟨(by first | omega | assumption), (by first | omega | assumption), (by first | omega | assumption), (by first | omega | assumption)⟩) dX11_wind_37
  · have ic_6 : r_5.toInt ≠ 0 := k_ne c_6 rfl (by decide)
    have fc_6 := er_5b ic_6
    clear er_5b er_5c er_5a
    obtain ⟨fc_6a, fc_6b⟩ := fc_6
    refine lv_aload_n hx hb dX11_wind_22 rfl (lv_at hl 0 rfl) ?_
    refine va_get (D := D) (ci := 11) (v := .ref nw) (C := RX11) (T := TX11) (N := 11) hx hb hG inG_X11 hown hE.1 hP 0 rfl rfl 5 (by decide) (hG _ q_f_X11_43) (fun _ h9 => h9) rfl dX11_wind_23 ?_
    refine va_get (D := D) (ci := 4) (v := .ref nwf) (C := RX4) (T := TX4) (N := 6) hx hb hG inG_X4 hown hE.1 hP 1 rfl rfl 0 (by decide) (hG _ q_f_X11_111) (fun _ h9 => h9) rfl dX11_wind_26 ?_
    refine lv_iload_n hx hb dX11_wind_29 rfl (lv_at hl 1 rfl) ?_
    refine kcV (As := [.int x0]) (rest := []) F hE hP hl.1 (cc_X1_windOf l D cy (o := nwf) (x0 := x0) (o_c := nwf_c) (g_o := g_nwf) (h_g_o := h_g_nwf)) q_m_X11_142 mv_X1_windOf ⟨(Nat.le_of_ble_eq_true rfl), (Nat.le_of_ble_eq_true rfl)⟩ [2, 3] rfl rfl rfl rfl rfl rfl (Nat.le_of_ble_eq_true rfl) ⟨(Nat.le_of_ble_eq_true rfl), (Nat.le_of_ble_eq_true rfl)⟩ dX11_wind_30 (fun r_7 er_7 => ?_)
    refine lv_goto (tgt := 37) hx hb dX11_wind_33 (by decide) ?_
    exact KP.rt F rfl (show (0 ≤ o_rc.toInt) ∧ (o_rc.toInt ≤ 6) ∧ (0 ≤ nwn_size.toInt) ∧ (nwn_size.toInt ≤ 10) from ⟨(by first | omega | assumption), (by first | omega | assumption), (by first | omega | assumption), (by first | omega | assumption)⟩) dX11_wind_37

set_option maxHeartbeats 4000000 in
set_option maxRecDepth 100000 in
theorem cc_X11_count (l : Launch) (D : va_G) (cy : Nat → ClassId) (o : Nat) (ta : Nat) (gr : Nat) (rr : Nat) (ru : Nat) (nw : Nat) (im : Nat) (ac : Nat) (pl : Nat) (fc : Nat) (sd : Nat) (o_rc : Int32) (ta_by : Nat) (ta_ki : Nat) (ta_va : Nat) (ta_pl : Nat) (ta_len : Int32) (ta_tok : Int32) (ta_at : Int32) (ta_kind : Int32) (ta_value : Int32) (ta_place : Int32) (ta_fault : Int32) (g_taby : Nat → Int32) (g_taki : Nat → Int32) (g_tava : Nat → Int32) (g_tapl : Nat → Int32) (nwf : Nat) (nwf_c : Nat) (g_nwf : Nat → Int32) (nwb : Nat) (nwb_c : Nat) (g_nwb : Nat → Int32) (nwn : Nat) (nwn_r : Nat) (nwn_a : Nat) (nwn_p : Nat) (nwn_size : Int32) (g_nwnr : Nat → Int32) (g_nwna : Nat → Int32) (g_nwnp : Nat → Int32) (nw_force : Int32) (nw_x : Int32) (nw_made : Int32) (ac_aw : Nat) (ac_next : Int32) (ac_size : Int32) (ac_rw : Nat → Option Nat) (ac_r0 : Nat) (ac_r1 : Nat) (ac_r2 : Nat) (ac_r3 : Nat) (ac_r4 : Nat) (ac_r5 : Nat) (ac_r6 : Nat) (ac_r7 : Nat) (ac_r8 : Nat) (ac_r9 : Nat) (ac_r10 : Nat) (ac_r11 : Nat) (ac_r12 : Nat) (ac_r13 : Nat) (ac_r14 : Nat) (ac_r15 : Nat) (ac_r16 : Nat) (ac_r17 : Nat) (ac_r18 : Nat) (ac_r19 : Nat) (g_ac_r0 : Nat → Int32) (g_ac_r1 : Nat → Int32) (g_ac_r2 : Nat → Int32) (g_ac_r3 : Nat → Int32) (g_ac_r4 : Nat → Int32) (g_ac_r5 : Nat → Int32) (g_ac_r6 : Nat → Int32) (g_ac_r7 : Nat → Int32) (g_ac_r8 : Nat → Int32) (g_ac_r9 : Nat → Int32) (g_ac_r10 : Nat → Int32) (g_ac_r11 : Nat → Int32) (g_ac_r12 : Nat → Int32) (g_ac_r13 : Nat → Int32) (g_ac_r14 : Nat → Int32) (g_ac_r15 : Nat → Int32) (g_ac_r16 : Nat → Int32) (g_ac_r17 : Nat → Int32) (g_ac_r18 : Nat → Int32) (g_ac_r19 : Nat → Int32) (x0 : Int32) (h_g_nwf : FV g_nwf) (h_g_nwb : FV g_nwb) (h_g_nwnr : NRV g_nwnr) (h_g_nwna : NV g_nwna) (h_g_ac_r0 : FV g_ac_r0) (h_g_ac_r1 : FV g_ac_r1) (h_g_ac_r2 : FV g_ac_r2) (h_g_ac_r3 : FV g_ac_r3) (h_g_ac_r4 : FV g_ac_r4) (h_g_ac_r5 : FV g_ac_r5) (h_g_ac_r6 : FV g_ac_r6) (h_g_ac_r7 : FV g_ac_r7) (h_g_ac_r8 : FV g_ac_r8) (h_g_ac_r9 : FV g_ac_r9) (h_g_ac_r10 : FV g_ac_r10) (h_g_ac_r11 : FV g_ac_r11) (h_g_ac_r12 : FV g_ac_r12) (h_g_ac_r13 : FV g_ac_r13) (h_g_ac_r14 : FV g_ac_r14) (h_g_ac_r15 : FV g_ac_r15) (h_g_ac_r16 : FV g_ac_r16) (h_g_ac_r17 : FV g_ac_r17) (h_g_ac_r18 : FV g_ac_r18) (h_g_ac_r19 : FV g_ac_r19) (p0 : 0 ≤ o_rc.toInt) (p1 : o_rc.toInt ≤ 6) (p2 : 0 ≤ ta_len.toInt) (p3 : ta_len.toInt ≤ 400) (p4 : ta_kind.toInt = 1 ∨ ta_kind.toInt = 3 → 0 ≤ ta_value.toInt ∧ ta_value.toInt ≤ 99999) (p5 : 0 ≤ ta_place.toInt) (p6 : ta_place.toInt ≤ 400) (p7 : -1 ≤ ta_at.toInt) (p8 : ta_at.toInt ≤ 400) (p9 : 0 ≤ nwn_size.toInt) (p10 : nwn_size.toInt ≤ 10) (p11 : 0 ≤ ac_next.toInt) (p12 : ac_next.toInt ≤ 19) (p13 : 0 ≤ ac_size.toInt) (p14 : ac_size.toInt ≤ 20) (hw_ac0 : ac_rw 0 = some ac_r0) (hw_ac1 : ac_rw 1 = some ac_r1) (hw_ac2 : ac_rw 2 = some ac_r2) (hw_ac3 : ac_rw 3 = some ac_r3) (hw_ac4 : ac_rw 4 = some ac_r4) (hw_ac5 : ac_rw 5 = some ac_r5) (hw_ac6 : ac_rw 6 = some ac_r6) (hw_ac7 : ac_rw 7 = some ac_r7) (hw_ac8 : ac_rw 8 = some ac_r8) (hw_ac9 : ac_rw 9 = some ac_r9) (hw_ac10 : ac_rw 10 = some ac_r10) (hw_ac11 : ac_rw 11 = some ac_r11) (hw_ac12 : ac_rw 12 = some ac_r12) (hw_ac13 : ac_rw 13 = some ac_r13) (hw_ac14 : ac_rw 14 = some ac_r14) (hw_ac15 : ac_rw 15 = some ac_r15) (hw_ac16 : ac_rw 16 = some ac_r16) (hw_ac17 : ac_rw 17 = some ac_r17) (hw_ac18 : ac_rw 18 = some ac_r18) (hw_ac19 : ac_rw 19 = some ac_r19) : KP l yX11_count cX11_count 2 (some .int) 1 23 D (kTY cy) [.ref o, .int x0] [(o, .inr (11, [.ref ta, .ref gr, .ref rr, .ref ru, .int o_rc, .ref nw, .ref im, .ref ac, .ref pl, .ref fc, .ref sd])), (ta, .inr (10, [.ref ta_by, .int ta_len, .ref ta_ki, .ref ta_va, .ref ta_pl, .int ta_tok, .int ta_at, .int ta_kind, .int ta_value, .int ta_place, .int ta_fault])), (ta_by, .inl (cy 0, 400, .inl g_taby)), (ta_ki, .inl (cy 0, 401, .inl g_taki)), (ta_va, .inl (cy 0, 401, .inl g_tava)), (ta_pl, .inl (cy 0, 401, .inl g_tapl)), (nw, .inr (4, [.ref nwf, .ref nwb, .ref nwn, .int nw_force, .int nw_x, .int nw_made])), (nwf, .inr (1, [.ref nwf_c])), (nwf_c, .inl (cy 0, 63, .inl g_nwf)), (nwb, .inr (1, [.ref nwb_c])), (nwb_c, .inl (cy 0, 63, .inl g_nwb)), (nwn, .inr (5, [.ref nwn_r, .ref nwn_a, .ref nwn_p, .int nwn_size])), (nwn_r, .inl (cy 0, 10, .inl g_nwnr)), (nwn_a, .inl (cy 0, 10, .inl g_nwna)), (nwn_p, .inl (cy 0, 10, .inl g_nwnp)), (ac, .inr (0, [.ref ac_aw, .int ac_next, .int ac_size])), (ac_aw, .inl (cy 6, 20, .inr (.inr (.inr (.inr ac_rw))))), (ac_r0, .inl (cy 0, 63, .inl g_ac_r0)), (ac_r1, .inl (cy 0, 63, .inl g_ac_r1)), (ac_r2, .inl (cy 0, 63, .inl g_ac_r2)), (ac_r3, .inl (cy 0, 63, .inl g_ac_r3)), (ac_r4, .inl (cy 0, 63, .inl g_ac_r4)), (ac_r5, .inl (cy 0, 63, .inl g_ac_r5)), (ac_r6, .inl (cy 0, 63, .inl g_ac_r6)), (ac_r7, .inl (cy 0, 63, .inl g_ac_r7)), (ac_r8, .inl (cy 0, 63, .inl g_ac_r8)), (ac_r9, .inl (cy 0, 63, .inl g_ac_r9)), (ac_r10, .inl (cy 0, 63, .inl g_ac_r10)), (ac_r11, .inl (cy 0, 63, .inl g_ac_r11)), (ac_r12, .inl (cy 0, 63, .inl g_ac_r12)), (ac_r13, .inl (cy 0, 63, .inl g_ac_r13)), (ac_r14, .inl (cy 0, 63, .inl g_ac_r14)), (ac_r15, .inl (cy 0, 63, .inl g_ac_r15)), (ac_r16, .inl (cy 0, 63, .inl g_ac_r16)), (ac_r17, .inl (cy 0, 63, .inl g_ac_r17)), (ac_r18, .inl (cy 0, 63, .inl g_ac_r18)), (ac_r19, .inl (cy 0, 63, .inl g_ac_r19))] (fun r => (0 ≤ o_rc.toInt) ∧ (o_rc.toInt ≤ 6) ∧ (0 ≤ ta_len.toInt) ∧ (ta_len.toInt ≤ 400) ∧ (ta_kind.toInt = 1 ∨ ta_kind.toInt = 3 → 0 ≤ ta_value.toInt ∧ ta_value.toInt ≤ 99999) ∧ (0 ≤ ta_place.toInt) ∧ (ta_place.toInt ≤ 400) ∧ (-1 ≤ ta_at.toInt) ∧ (ta_at.toInt ≤ 400) ∧ (0 ≤ nwn_size.toInt) ∧ (nwn_size.toInt ≤ 10) ∧ (0 ≤ ac_next.toInt) ∧ (ac_next.toInt ≤ 19) ∧ (0 ≤ ac_size.toInt) ∧ (ac_size.toInt ≤ 20)) := by
  refine KP.of (by decide) (Nat.le_of_ble_eq_true rfl) (fun p e s m below meth c ls F hE hP hl => ?_)
  have F : kF p s m meth c cX11_count 2 (some .int) _ RX11 := F
  obtain ⟨hx, hb, hr, hml, hown, hG, hlk⟩ := id F
  have hl : lv_has ls 2 [(0, .ref o), (1, .int x0)] := hl
  obtain ⟨⟨b_1a, b_1b⟩, ⟨b_1c, b_1d⟩, ⟨b_1e, b_1f⟩⟩ := FV.bounds h_g_nwf
  obtain ⟨⟨b_2a, b_2b⟩, ⟨b_2c, b_2d⟩, ⟨b_2e, b_2f⟩⟩ := FV.bounds h_g_nwb
  obtain ⟨⟨b_3a, b_3b⟩, ⟨b_3c, b_3d⟩, ⟨b_3e, b_3f⟩⟩ := FV.bounds h_g_ac_r0
  obtain ⟨⟨b_4a, b_4b⟩, ⟨b_4c, b_4d⟩, ⟨b_4e, b_4f⟩⟩ := FV.bounds h_g_ac_r1
  obtain ⟨⟨b_5a, b_5b⟩, ⟨b_5c, b_5d⟩, ⟨b_5e, b_5f⟩⟩ := FV.bounds h_g_ac_r2
  obtain ⟨⟨b_6a, b_6b⟩, ⟨b_6c, b_6d⟩, ⟨b_6e, b_6f⟩⟩ := FV.bounds h_g_ac_r3
  obtain ⟨⟨b_7a, b_7b⟩, ⟨b_7c, b_7d⟩, ⟨b_7e, b_7f⟩⟩ := FV.bounds h_g_ac_r4
  obtain ⟨⟨b_8a, b_8b⟩, ⟨b_8c, b_8d⟩, ⟨b_8e, b_8f⟩⟩ := FV.bounds h_g_ac_r5
  obtain ⟨⟨b_9a, b_9b⟩, ⟨b_9c, b_9d⟩, ⟨b_9e, b_9f⟩⟩ := FV.bounds h_g_ac_r6
  obtain ⟨⟨b_10a, b_10b⟩, ⟨b_10c, b_10d⟩, ⟨b_10e, b_10f⟩⟩ := FV.bounds h_g_ac_r7
  obtain ⟨⟨b_11a, b_11b⟩, ⟨b_11c, b_11d⟩, ⟨b_11e, b_11f⟩⟩ := FV.bounds h_g_ac_r8
  obtain ⟨⟨b_12a, b_12b⟩, ⟨b_12c, b_12d⟩, ⟨b_12e, b_12f⟩⟩ := FV.bounds h_g_ac_r9
  obtain ⟨⟨b_13a, b_13b⟩, ⟨b_13c, b_13d⟩, ⟨b_13e, b_13f⟩⟩ := FV.bounds h_g_ac_r10
  obtain ⟨⟨b_14a, b_14b⟩, ⟨b_14c, b_14d⟩, ⟨b_14e, b_14f⟩⟩ := FV.bounds h_g_ac_r11
  obtain ⟨⟨b_15a, b_15b⟩, ⟨b_15c, b_15d⟩, ⟨b_15e, b_15f⟩⟩ := FV.bounds h_g_ac_r12
  obtain ⟨⟨b_16a, b_16b⟩, ⟨b_16c, b_16d⟩, ⟨b_16e, b_16f⟩⟩ := FV.bounds h_g_ac_r13
  obtain ⟨⟨b_17a, b_17b⟩, ⟨b_17c, b_17d⟩, ⟨b_17e, b_17f⟩⟩ := FV.bounds h_g_ac_r14
  obtain ⟨⟨b_18a, b_18b⟩, ⟨b_18c, b_18d⟩, ⟨b_18e, b_18f⟩⟩ := FV.bounds h_g_ac_r15
  obtain ⟨⟨b_19a, b_19b⟩, ⟨b_19c, b_19d⟩, ⟨b_19e, b_19f⟩⟩ := FV.bounds h_g_ac_r16
  obtain ⟨⟨b_20a, b_20b⟩, ⟨b_20c, b_20d⟩, ⟨b_20e, b_20f⟩⟩ := FV.bounds h_g_ac_r17
  obtain ⟨⟨b_21a, b_21b⟩, ⟨b_21c, b_21d⟩, ⟨b_21e, b_21f⟩⟩ := FV.bounds h_g_ac_r18
  obtain ⟨⟨b_22a, b_22b⟩, ⟨b_22c, b_22d⟩, ⟨b_22e, b_22f⟩⟩ := FV.bounds h_g_ac_r19
  refine lv_iload_n hx hb dX11_count_0 rfl (lv_at hl 1 rfl) ?_
  by_cases c_23 : x0.toInt = 0
  · refine lv_tableIn (off := 79) (tgt := 80) hx hb dX11_count_1 (by omega) (by omega) (by rw [c_23]; rfl) (by decide) ?_
    refine lv_aload_n hx hb dX11_count_80 rfl (lv_at hl 0 rfl) ?_
    refine va_get (D := D) (ci := 11) (v := .ref nw) (C := RX11) (T := TX11) (N := 11) hx hb hG inG_X11 hown hE.1 hP 0 rfl rfl 5 (by decide) (hG _ q_f_X11_43) (fun _ h9 => h9) rfl dX11_count_81 ?_
    refine va_get (D := D) (ci := 4) (v := .ref nwf) (C := RX4) (T := TX4) (N := 6) hx hb hG inG_X4 hown hE.1 hP 6 rfl rfl 0 (by decide) (hG _ q_f_X11_111) (fun _ h9 => h9) rfl dX11_count_84 ?_
    refine va_get (D := D) (ci := 1) (v := .ref nwf_c) (C := RX1) (T := TX1) (N := 1) hx hb hG inG_X1 hown hE.1 hP 7 rfl rfl 0 (by decide) (hG _ q_f_X11_124) (fun _ h9 => h9) rfl dX11_count_87 ?_
    refine lv_iconst (v := 0) hx hb dX11_count_90 (by decide) ?_
    refine va_iald hx hb hE.1 hP 8 0 rfl rfl (by unfold vp_in; decide) dX11_count_91 ?_
    refine k_top (z := (g_nwf 0)) rfl ?_
    exact KP.rt F rfl (show (0 ≤ o_rc.toInt) ∧ (o_rc.toInt ≤ 6) ∧ (0 ≤ ta_len.toInt) ∧ (ta_len.toInt ≤ 400) ∧ (ta_kind.toInt = 1 ∨ ta_kind.toInt = 3 → 0 ≤ ta_value.toInt ∧ ta_value.toInt ≤ 99999) ∧ (0 ≤ ta_place.toInt) ∧ (ta_place.toInt ≤ 400) ∧ (-1 ≤ ta_at.toInt) ∧ (ta_at.toInt ≤ 400) ∧ (0 ≤ nwn_size.toInt) ∧ (nwn_size.toInt ≤ 10) ∧ (0 ≤ ac_next.toInt) ∧ (ac_next.toInt ≤ 19) ∧ (0 ≤ ac_size.toInt) ∧ (ac_size.toInt ≤ 20) from ⟨(by first | omega | assumption), (by first | omega | assumption), (by first | omega | assumption), (by first | omega | assumption), (by first | omega | assumption), (by first | omega | assumption), (by first | omega | assumption), (by first | omega | assumption), (by first | omega | assumption), (by first | omega | assumption), (by first | omega | assumption), (by first | omega | assumption), (by first | omega | assumption), (by first | omega | assumption), (by first | omega | assumption)⟩) dX11_count_92
  by_cases c_24 : x0.toInt = 1
  · refine lv_tableIn (off := 92) (tgt := 93) hx hb dX11_count_1 (by omega) (by omega) (by rw [c_24]; rfl) (by decide) ?_
    refine lv_aload_n hx hb dX11_count_93 rfl (lv_at hl 0 rfl) ?_
    refine va_get (D := D) (ci := 11) (v := .ref nw) (C := RX11) (T := TX11) (N := 11) hx hb hG inG_X11 hown hE.1 hP 0 rfl rfl 5 (by decide) (hG _ q_f_X11_43) (fun _ h9 => h9) rfl dX11_count_94 ?_
    refine va_get (D := D) (ci := 4) (v := .ref nwf) (C := RX4) (T := TX4) (N := 6) hx hb hG inG_X4 hown hE.1 hP 6 rfl rfl 0 (by decide) (hG _ q_f_X11_111) (fun _ h9 => h9) rfl dX11_count_97 ?_
    refine va_get (D := D) (ci := 1) (v := .ref nwf_c) (C := RX1) (T := TX1) (N := 1) hx hb hG inG_X1 hown hE.1 hP 7 rfl rfl 0 (by decide) (hG _ q_f_X11_124) (fun _ h9 => h9) rfl dX11_count_100 ?_
    refine lv_iconst (v := 1) hx hb dX11_count_103 (by decide) ?_
    refine va_iald hx hb hE.1 hP 8 0 rfl rfl (by unfold vp_in; decide) dX11_count_104 ?_
    refine k_top (z := (g_nwf 1)) rfl ?_
    exact KP.rt F rfl (show (0 ≤ o_rc.toInt) ∧ (o_rc.toInt ≤ 6) ∧ (0 ≤ ta_len.toInt) ∧ (ta_len.toInt ≤ 400) ∧ (ta_kind.toInt = 1 ∨ ta_kind.toInt = 3 → 0 ≤ ta_value.toInt ∧ ta_value.toInt ≤ 99999) ∧ (0 ≤ ta_place.toInt) ∧ (ta_place.toInt ≤ 400) ∧ (-1 ≤ ta_at.toInt) ∧ (ta_at.toInt ≤ 400) ∧ (0 ≤ nwn_size.toInt) ∧ (nwn_size.toInt ≤ 10) ∧ (0 ≤ ac_next.toInt) ∧ (ac_next.toInt ≤ 19) ∧ (0 ≤ ac_size.toInt) ∧ (ac_size.toInt ≤ 20) from ⟨(by first | omega | assumption), (by first | omega | assumption), (by first | omega | assumption), (by first | omega | assumption), (by first | omega | assumption), (by first | omega | assumption), (by first | omega | assumption), (by first | omega | assumption), (by first | omega | assumption), (by first | omega | assumption), (by first | omega | assumption), (by first | omega | assumption), (by first | omega | assumption), (by first | omega | assumption), (by first | omega | assumption)⟩) dX11_count_105
  by_cases c_25 : x0.toInt = 2
  · refine lv_tableIn (off := 105) (tgt := 106) hx hb dX11_count_1 (by omega) (by omega) (by rw [c_25]; rfl) (by decide) ?_
    refine lv_aload_n hx hb dX11_count_106 rfl (lv_at hl 0 rfl) ?_
    refine va_get (D := D) (ci := 11) (v := .ref nw) (C := RX11) (T := TX11) (N := 11) hx hb hG inG_X11 hown hE.1 hP 0 rfl rfl 5 (by decide) (hG _ q_f_X11_43) (fun _ h9 => h9) rfl dX11_count_107 ?_
    refine va_get (D := D) (ci := 4) (v := .ref nwf) (C := RX4) (T := TX4) (N := 6) hx hb hG inG_X4 hown hE.1 hP 6 rfl rfl 0 (by decide) (hG _ q_f_X11_111) (fun _ h9 => h9) rfl dX11_count_110 ?_
    refine va_get (D := D) (ci := 1) (v := .ref nwf_c) (C := RX1) (T := TX1) (N := 1) hx hb hG inG_X1 hown hE.1 hP 7 rfl rfl 0 (by decide) (hG _ q_f_X11_124) (fun _ h9 => h9) rfl dX11_count_113 ?_
    refine lv_iconst (v := 2) hx hb dX11_count_116 (by decide) ?_
    refine va_iald hx hb hE.1 hP 8 0 rfl rfl (by unfold vp_in; decide) dX11_count_117 ?_
    refine k_top (z := (g_nwf 2)) rfl ?_
    exact KP.rt F rfl (show (0 ≤ o_rc.toInt) ∧ (o_rc.toInt ≤ 6) ∧ (0 ≤ ta_len.toInt) ∧ (ta_len.toInt ≤ 400) ∧ (ta_kind.toInt = 1 ∨ ta_kind.toInt = 3 → 0 ≤ ta_value.toInt ∧ ta_value.toInt ≤ 99999) ∧ (0 ≤ ta_place.toInt) ∧ (ta_place.toInt ≤ 400) ∧ (-1 ≤ ta_at.toInt) ∧ (ta_at.toInt ≤ 400) ∧ (0 ≤ nwn_size.toInt) ∧ (nwn_size.toInt ≤ 10) ∧ (0 ≤ ac_next.toInt) ∧ (ac_next.toInt ≤ 19) ∧ (0 ≤ ac_size.toInt) ∧ (ac_size.toInt ≤ 20) from ⟨(by first | omega | assumption), (by first | omega | assumption), (by first | omega | assumption), (by first | omega | assumption), (by first | omega | assumption), (by first | omega | assumption), (by first | omega | assumption), (by first | omega | assumption), (by first | omega | assumption), (by first | omega | assumption), (by first | omega | assumption), (by first | omega | assumption), (by first | omega | assumption), (by first | omega | assumption), (by first | omega | assumption)⟩) dX11_count_118
  by_cases c_26 : x0.toInt = 3
  · refine lv_tableIn (off := 118) (tgt := 119) hx hb dX11_count_1 (by omega) (by omega) (by rw [c_26]; rfl) (by decide) ?_
    refine lv_aload_n hx hb dX11_count_119 rfl (lv_at hl 0 rfl) ?_
    refine va_get (D := D) (ci := 11) (v := .ref nw) (C := RX11) (T := TX11) (N := 11) hx hb hG inG_X11 hown hE.1 hP 0 rfl rfl 5 (by decide) (hG _ q_f_X11_43) (fun _ h9 => h9) rfl dX11_count_120 ?_
    refine va_get (D := D) (ci := 4) (v := .ref nwf) (C := RX4) (T := TX4) (N := 6) hx hb hG inG_X4 hown hE.1 hP 6 rfl rfl 0 (by decide) (hG _ q_f_X11_111) (fun _ h9 => h9) rfl dX11_count_123 ?_
    refine va_get (D := D) (ci := 1) (v := .ref nwf_c) (C := RX1) (T := TX1) (N := 1) hx hb hG inG_X1 hown hE.1 hP 7 rfl rfl 0 (by decide) (hG _ q_f_X11_124) (fun _ h9 => h9) rfl dX11_count_126 ?_
    refine lv_iconst (v := 3) hx hb dX11_count_129 (by decide) ?_
    refine va_iald hx hb hE.1 hP 8 0 rfl rfl (by unfold vp_in; decide) dX11_count_130 ?_
    refine k_top (z := (g_nwf 3)) rfl ?_
    exact KP.rt F rfl (show (0 ≤ o_rc.toInt) ∧ (o_rc.toInt ≤ 6) ∧ (0 ≤ ta_len.toInt) ∧ (ta_len.toInt ≤ 400) ∧ (ta_kind.toInt = 1 ∨ ta_kind.toInt = 3 → 0 ≤ ta_value.toInt ∧ ta_value.toInt ≤ 99999) ∧ (0 ≤ ta_place.toInt) ∧ (ta_place.toInt ≤ 400) ∧ (-1 ≤ ta_at.toInt) ∧ (ta_at.toInt ≤ 400) ∧ (0 ≤ nwn_size.toInt) ∧ (nwn_size.toInt ≤ 10) ∧ (0 ≤ ac_next.toInt) ∧ (ac_next.toInt ≤ 19) ∧ (0 ≤ ac_size.toInt) ∧ (ac_size.toInt ≤ 20) from ⟨(by first | omega | assumption), (by first | omega | assumption), (by first | omega | assumption), (by first | omega | assumption), (by first | omega | assumption), (by first | omega | assumption), (by first | omega | assumption), (by first | omega | assumption), (by first | omega | assumption), (by first | omega | assumption), (by first | omega | assumption), (by first | omega | assumption), (by first | omega | assumption), (by first | omega | assumption), (by first | omega | assumption)⟩) dX11_count_131
  by_cases c_27 : x0.toInt = 4
  · refine lv_tableIn (off := 131) (tgt := 132) hx hb dX11_count_1 (by omega) (by omega) (by rw [c_27]; rfl) (by decide) ?_
    refine lv_aload_n hx hb dX11_count_132 rfl (lv_at hl 0 rfl) ?_
    refine va_get (D := D) (ci := 11) (v := .ref nw) (C := RX11) (T := TX11) (N := 11) hx hb hG inG_X11 hown hE.1 hP 0 rfl rfl 5 (by decide) (hG _ q_f_X11_43) (fun _ h9 => h9) rfl dX11_count_133 ?_
    refine va_get (D := D) (ci := 4) (v := .ref nwf) (C := RX4) (T := TX4) (N := 6) hx hb hG inG_X4 hown hE.1 hP 6 rfl rfl 0 (by decide) (hG _ q_f_X11_111) (fun _ h9 => h9) rfl dX11_count_136 ?_
    refine va_get (D := D) (ci := 1) (v := .ref nwf_c) (C := RX1) (T := TX1) (N := 1) hx hb hG inG_X1 hown hE.1 hP 7 rfl rfl 0 (by decide) (hG _ q_f_X11_124) (fun _ h9 => h9) rfl dX11_count_139 ?_
    refine lv_iconst (v := 4) hx hb dX11_count_142 (by decide) ?_
    refine va_iald hx hb hE.1 hP 8 0 rfl rfl (by unfold vp_in; decide) dX11_count_143 ?_
    refine k_top (z := (g_nwf 4)) rfl ?_
    exact KP.rt F rfl (show (0 ≤ o_rc.toInt) ∧ (o_rc.toInt ≤ 6) ∧ (0 ≤ ta_len.toInt) ∧ (ta_len.toInt ≤ 400) ∧ (ta_kind.toInt = 1 ∨ ta_kind.toInt = 3 → 0 ≤ ta_value.toInt ∧ ta_value.toInt ≤ 99999) ∧ (0 ≤ ta_place.toInt) ∧ (ta_place.toInt ≤ 400) ∧ (-1 ≤ ta_at.toInt) ∧ (ta_at.toInt ≤ 400) ∧ (0 ≤ nwn_size.toInt) ∧ (nwn_size.toInt ≤ 10) ∧ (0 ≤ ac_next.toInt) ∧ (ac_next.toInt ≤ 19) ∧ (0 ≤ ac_size.toInt) ∧ (ac_size.toInt ≤ 20) from ⟨(by first | omega | assumption), (by first | omega | assumption), (by first | omega | assumption), (by first | omega | assumption), (by first | omega | assumption), (by first | omega | assumption), (by first | omega | assumption), (by first | omega | assumption), (by first | omega | assumption), (by first | omega | assumption), (by first | omega | assumption), (by first | omega | assumption), (by first | omega | assumption), (by first | omega | assumption), (by first | omega | assumption)⟩) dX11_count_144
  by_cases c_28 : x0.toInt = 5
  · refine lv_tableIn (off := 144) (tgt := 145) hx hb dX11_count_1 (by omega) (by omega) (by rw [c_28]; rfl) (by decide) ?_
    refine lv_aload_n hx hb dX11_count_145 rfl (lv_at hl 0 rfl) ?_
    refine va_get (D := D) (ci := 11) (v := .int o_rc) (C := RX11) (T := TX11) (N := 11) hx hb hG inG_X11 hown hE.1 hP 0 rfl rfl 4 (by decide) (hG _ q_f_X11_36) (fun _ h9 => h9) rfl dX11_count_146 ?_
    exact KP.rt F rfl (show (0 ≤ o_rc.toInt) ∧ (o_rc.toInt ≤ 6) ∧ (0 ≤ ta_len.toInt) ∧ (ta_len.toInt ≤ 400) ∧ (ta_kind.toInt = 1 ∨ ta_kind.toInt = 3 → 0 ≤ ta_value.toInt ∧ ta_value.toInt ≤ 99999) ∧ (0 ≤ ta_place.toInt) ∧ (ta_place.toInt ≤ 400) ∧ (-1 ≤ ta_at.toInt) ∧ (ta_at.toInt ≤ 400) ∧ (0 ≤ nwn_size.toInt) ∧ (nwn_size.toInt ≤ 10) ∧ (0 ≤ ac_next.toInt) ∧ (ac_next.toInt ≤ 19) ∧ (0 ≤ ac_size.toInt) ∧ (ac_size.toInt ≤ 20) from ⟨(by first | omega | assumption), (by first | omega | assumption), (by first | omega | assumption), (by first | omega | assumption), (by first | omega | assumption), (by first | omega | assumption), (by first | omega | assumption), (by first | omega | assumption), (by first | omega | assumption), (by first | omega | assumption), (by first | omega | assumption), (by first | omega | assumption), (by first | omega | assumption), (by first | omega | assumption), (by first | omega | assumption)⟩) dX11_count_149
  by_cases c_29 : x0.toInt = 6
  · refine lv_tableIn (off := 149) (tgt := 150) hx hb dX11_count_1 (by omega) (by omega) (by rw [c_29]; rfl) (by decide) ?_
    refine lv_aload_n hx hb dX11_count_150 rfl (lv_at hl 0 rfl) ?_
    refine va_get (D := D) (ci := 11) (v := .ref nw) (C := RX11) (T := TX11) (N := 11) hx hb hG inG_X11 hown hE.1 hP 0 rfl rfl 5 (by decide) (hG _ q_f_X11_43) (fun _ h9 => h9) rfl dX11_count_151 ?_
    refine va_get (D := D) (ci := 4) (v := .int nw_force) (C := RX4) (T := TX4) (N := 6) hx hb hG inG_X4 hown hE.1 hP 6 rfl rfl 3 (by decide) (hG _ q_f_X11_133) (fun _ h9 => h9) rfl dX11_count_154 ?_
    exact KP.rt F rfl (show (0 ≤ o_rc.toInt) ∧ (o_rc.toInt ≤ 6) ∧ (0 ≤ ta_len.toInt) ∧ (ta_len.toInt ≤ 400) ∧ (ta_kind.toInt = 1 ∨ ta_kind.toInt = 3 → 0 ≤ ta_value.toInt ∧ ta_value.toInt ≤ 99999) ∧ (0 ≤ ta_place.toInt) ∧ (ta_place.toInt ≤ 400) ∧ (-1 ≤ ta_at.toInt) ∧ (ta_at.toInt ≤ 400) ∧ (0 ≤ nwn_size.toInt) ∧ (nwn_size.toInt ≤ 10) ∧ (0 ≤ ac_next.toInt) ∧ (ac_next.toInt ≤ 19) ∧ (0 ≤ ac_size.toInt) ∧ (ac_size.toInt ≤ 20) from ⟨(by first | omega | assumption), (by first | omega | assumption), (by first | omega | assumption), (by first | omega | assumption), (by first | omega | assumption), (by first | omega | assumption), (by first | omega | assumption), (by first | omega | assumption), (by first | omega | assumption), (by first | omega | assumption), (by first | omega | assumption), (by first | omega | assumption), (by first | omega | assumption), (by first | omega | assumption), (by first | omega | assumption)⟩) dX11_count_157
  by_cases c_30 : x0.toInt = 7
  · refine lv_tableIn (off := 157) (tgt := 158) hx hb dX11_count_1 (by omega) (by omega) (by rw [c_30]; rfl) (by decide) ?_
    refine lv_aload_n hx hb dX11_count_158 rfl (lv_at hl 0 rfl) ?_
    refine va_get (D := D) (ci := 11) (v := .ref nw) (C := RX11) (T := TX11) (N := 11) hx hb hG inG_X11 hown hE.1 hP 0 rfl rfl 5 (by decide) (hG _ q_f_X11_43) (fun _ h9 => h9) rfl dX11_count_159 ?_
    refine va_get (D := D) (ci := 4) (v := .ref nwf) (C := RX4) (T := TX4) (N := 6) hx hb hG inG_X4 hown hE.1 hP 6 rfl rfl 0 (by decide) (hG _ q_f_X11_111) (fun _ h9 => h9) rfl dX11_count_162 ?_
    refine va_get (D := D) (ci := 1) (v := .ref nwf_c) (C := RX1) (T := TX1) (N := 1) hx hb hG inG_X1 hown hE.1 hP 7 rfl rfl 0 (by decide) (hG _ q_f_X11_124) (fun _ h9 => h9) rfl dX11_count_165 ?_
    refine lv_iconst (v := 5) hx hb dX11_count_168 (by decide) ?_
    refine va_iald hx hb hE.1 hP 8 0 rfl rfl (by unfold vp_in; decide) dX11_count_169 ?_
    refine k_top (z := (g_nwf 5)) rfl ?_
    exact KP.rt F rfl (show (0 ≤ o_rc.toInt) ∧ (o_rc.toInt ≤ 6) ∧ (0 ≤ ta_len.toInt) ∧ (ta_len.toInt ≤ 400) ∧ (ta_kind.toInt = 1 ∨ ta_kind.toInt = 3 → 0 ≤ ta_value.toInt ∧ ta_value.toInt ≤ 99999) ∧ (0 ≤ ta_place.toInt) ∧ (ta_place.toInt ≤ 400) ∧ (-1 ≤ ta_at.toInt) ∧ (ta_at.toInt ≤ 400) ∧ (0 ≤ nwn_size.toInt) ∧ (nwn_size.toInt ≤ 10) ∧ (0 ≤ ac_next.toInt) ∧ (ac_next.toInt ≤ 19) ∧ (0 ≤ ac_size.toInt) ∧ (ac_size.toInt ≤ 20) from ⟨(by first | omega | assumption), (by first | omega | assumption), (by first | omega | assumption), (by first | omega | assumption), (by first | omega | assumption), (by first | omega | assumption), (by first | omega | assumption), (by first | omega | assumption), (by first | omega | assumption), (by first | omega | assumption), (by first | omega | assumption), (by first | omega | assumption), (by first | omega | assumption), (by first | omega | assumption), (by first | omega | assumption)⟩) dX11_count_170
  by_cases c_31 : x0.toInt = 8
  · refine lv_tableIn (off := 170) (tgt := 171) hx hb dX11_count_1 (by omega) (by omega) (by rw [c_31]; rfl) (by decide) ?_
    refine lv_aload_n hx hb dX11_count_171 rfl (lv_at hl 0 rfl) ?_
    refine va_get (D := D) (ci := 11) (v := .ref nw) (C := RX11) (T := TX11) (N := 11) hx hb hG inG_X11 hown hE.1 hP 0 rfl rfl 5 (by decide) (hG _ q_f_X11_43) (fun _ h9 => h9) rfl dX11_count_172 ?_
    refine va_get (D := D) (ci := 4) (v := .ref nwf) (C := RX4) (T := TX4) (N := 6) hx hb hG inG_X4 hown hE.1 hP 6 rfl rfl 0 (by decide) (hG _ q_f_X11_111) (fun _ h9 => h9) rfl dX11_count_175 ?_
    refine va_get (D := D) (ci := 1) (v := .ref nwf_c) (C := RX1) (T := TX1) (N := 1) hx hb hG inG_X1 hown hE.1 hP 7 rfl rfl 0 (by decide) (hG _ q_f_X11_124) (fun _ h9 => h9) rfl dX11_count_178 ?_
    refine lv_bipush (v := 6) hx hb dX11_count_181 (by decide) ?_
    refine va_iald hx hb hE.1 hP 8 0 rfl rfl (by unfold vp_in; decide) dX11_count_183 ?_
    refine k_top (z := (g_nwf 6)) rfl ?_
    exact KP.rt F rfl (show (0 ≤ o_rc.toInt) ∧ (o_rc.toInt ≤ 6) ∧ (0 ≤ ta_len.toInt) ∧ (ta_len.toInt ≤ 400) ∧ (ta_kind.toInt = 1 ∨ ta_kind.toInt = 3 → 0 ≤ ta_value.toInt ∧ ta_value.toInt ≤ 99999) ∧ (0 ≤ ta_place.toInt) ∧ (ta_place.toInt ≤ 400) ∧ (-1 ≤ ta_at.toInt) ∧ (ta_at.toInt ≤ 400) ∧ (0 ≤ nwn_size.toInt) ∧ (nwn_size.toInt ≤ 10) ∧ (0 ≤ ac_next.toInt) ∧ (ac_next.toInt ≤ 19) ∧ (0 ≤ ac_size.toInt) ∧ (ac_size.toInt ≤ 20) from ⟨(by first | omega | assumption), (by first | omega | assumption), (by first | omega | assumption), (by first | omega | assumption), (by first | omega | assumption), (by first | omega | assumption), (by first | omega | assumption), (by first | omega | assumption), (by first | omega | assumption), (by first | omega | assumption), (by first | omega | assumption), (by first | omega | assumption), (by first | omega | assumption), (by first | omega | assumption), (by first | omega | assumption)⟩) dX11_count_184
  by_cases c_32 : x0.toInt = 9
  · refine lv_tableIn (off := 184) (tgt := 185) hx hb dX11_count_1 (by omega) (by omega) (by rw [c_32]; rfl) (by decide) ?_
    refine lv_aload_n hx hb dX11_count_185 rfl (lv_at hl 0 rfl) ?_
    refine va_get (D := D) (ci := 11) (v := .ref nw) (C := RX11) (T := TX11) (N := 11) hx hb hG inG_X11 hown hE.1 hP 0 rfl rfl 5 (by decide) (hG _ q_f_X11_43) (fun _ h9 => h9) rfl dX11_count_186 ?_
    refine va_get (D := D) (ci := 4) (v := .ref nwf) (C := RX4) (T := TX4) (N := 6) hx hb hG inG_X4 hown hE.1 hP 6 rfl rfl 0 (by decide) (hG _ q_f_X11_111) (fun _ h9 => h9) rfl dX11_count_189 ?_
    refine lv_bipush (v := 53) hx hb dX11_count_192 (by decide) ?_
    have lt32_32 : (53 : Int32).toInt = 53 := by decide
    refine kcV (As := [.int 53]) (rest := []) F hE hP hl.1 (cc_X1_sumOfArchers l D cy (o := nwf) (x0 := 53) (o_c := nwf_c) (g_o := g_nwf) (h_g_o := h_g_nwf) (p0 := (by first | omega | assumption)) (p1 := (by first | omega | assumption))) q_m_X11_146 mv_X1_sumOfArchers ⟨(Nat.le_of_ble_eq_true rfl), (Nat.le_of_ble_eq_true rfl)⟩ [7, 8] rfl rfl rfl rfl rfl rfl (Nat.le_of_ble_eq_true rfl) ⟨(Nat.le_of_ble_eq_true rfl), (Nat.le_of_ble_eq_true rfl)⟩ dX11_count_194 (fun r_34 er_34 => ?_)
    exact KP.rt F rfl (show (0 ≤ o_rc.toInt) ∧ (o_rc.toInt ≤ 6) ∧ (0 ≤ ta_len.toInt) ∧ (ta_len.toInt ≤ 400) ∧ (ta_kind.toInt = 1 ∨ ta_kind.toInt = 3 → 0 ≤ ta_value.toInt ∧ ta_value.toInt ≤ 99999) ∧ (0 ≤ ta_place.toInt) ∧ (ta_place.toInt ≤ 400) ∧ (-1 ≤ ta_at.toInt) ∧ (ta_at.toInt ≤ 400) ∧ (0 ≤ nwn_size.toInt) ∧ (nwn_size.toInt ≤ 10) ∧ (0 ≤ ac_next.toInt) ∧ (ac_next.toInt ≤ 19) ∧ (0 ≤ ac_size.toInt) ∧ (ac_size.toInt ≤ 20) from ⟨(by first | omega | assumption), (by first | omega | assumption), (by first | omega | assumption), (by first | omega | assumption), (by first | omega | assumption), (by first | omega | assumption), (by first | omega | assumption), (by first | omega | assumption), (by first | omega | assumption), (by first | omega | assumption), (by first | omega | assumption), (by first | omega | assumption), (by first | omega | assumption), (by first | omega | assumption), (by first | omega | assumption)⟩) dX11_count_197
  by_cases c_35 : x0.toInt = 10
  · refine lv_tableIn (off := 197) (tgt := 198) hx hb dX11_count_1 (by omega) (by omega) (by rw [c_35]; rfl) (by decide) ?_
    refine lv_aload_n hx hb dX11_count_198 rfl (lv_at hl 0 rfl) ?_
    refine va_get (D := D) (ci := 11) (v := .ref nw) (C := RX11) (T := TX11) (N := 11) hx hb hG inG_X11 hown hE.1 hP 0 rfl rfl 5 (by decide) (hG _ q_f_X11_43) (fun _ h9 => h9) rfl dX11_count_199 ?_
    refine va_get (D := D) (ci := 4) (v := .ref nwf) (C := RX4) (T := TX4) (N := 6) hx hb hG inG_X4 hown hE.1 hP 6 rfl rfl 0 (by decide) (hG _ q_f_X11_111) (fun _ h9 => h9) rfl dX11_count_202 ?_
    refine lv_bipush (v := 58) hx hb dX11_count_205 (by decide) ?_
    have lt32_35 : (58 : Int32).toInt = 58 := by decide
    refine kcV (As := [.int 58]) (rest := []) F hE hP hl.1 (cc_X1_sumOfArchers l D cy (o := nwf) (x0 := 58) (o_c := nwf_c) (g_o := g_nwf) (h_g_o := h_g_nwf) (p0 := (by first | omega | assumption)) (p1 := (by first | omega | assumption))) q_m_X11_146 mv_X1_sumOfArchers ⟨(Nat.le_of_ble_eq_true rfl), (Nat.le_of_ble_eq_true rfl)⟩ [7, 8] rfl rfl rfl rfl rfl rfl (Nat.le_of_ble_eq_true rfl) ⟨(Nat.le_of_ble_eq_true rfl), (Nat.le_of_ble_eq_true rfl)⟩ dX11_count_207 (fun r_37 er_37 => ?_)
    exact KP.rt F rfl (show (0 ≤ o_rc.toInt) ∧ (o_rc.toInt ≤ 6) ∧ (0 ≤ ta_len.toInt) ∧ (ta_len.toInt ≤ 400) ∧ (ta_kind.toInt = 1 ∨ ta_kind.toInt = 3 → 0 ≤ ta_value.toInt ∧ ta_value.toInt ≤ 99999) ∧ (0 ≤ ta_place.toInt) ∧ (ta_place.toInt ≤ 400) ∧ (-1 ≤ ta_at.toInt) ∧ (ta_at.toInt ≤ 400) ∧ (0 ≤ nwn_size.toInt) ∧ (nwn_size.toInt ≤ 10) ∧ (0 ≤ ac_next.toInt) ∧ (ac_next.toInt ≤ 19) ∧ (0 ≤ ac_size.toInt) ∧ (ac_size.toInt ≤ 20) from ⟨(by first | omega | assumption), (by first | omega | assumption), (by first | omega | assumption), (by first | omega | assumption), (by first | omega | assumption), (by first | omega | assumption), (by first | omega | assumption), (by first | omega | assumption), (by first | omega | assumption), (by first | omega | assumption), (by first | omega | assumption), (by first | omega | assumption), (by first | omega | assumption), (by first | omega | assumption), (by first | omega | assumption)⟩) dX11_count_210
  by_cases c_38 : x0.toInt = 11
  · refine lv_tableIn (off := 210) (tgt := 211) hx hb dX11_count_1 (by omega) (by omega) (by rw [c_38]; rfl) (by decide) ?_
    refine lv_aload_n hx hb dX11_count_211 rfl (lv_at hl 0 rfl) ?_
    refine va_get (D := D) (ci := 11) (v := .ref nw) (C := RX11) (T := TX11) (N := 11) hx hb hG inG_X11 hown hE.1 hP 0 rfl rfl 5 (by decide) (hG _ q_f_X11_43) (fun _ h9 => h9) rfl dX11_count_212 ?_
    refine va_get (D := D) (ci := 4) (v := .ref nwf) (C := RX4) (T := TX4) (N := 6) hx hb hG inG_X4 hown hE.1 hP 6 rfl rfl 0 (by decide) (hG _ q_f_X11_111) (fun _ h9 => h9) rfl dX11_count_215 ?_
    refine va_get (D := D) (ci := 1) (v := .ref nwf_c) (C := RX1) (T := TX1) (N := 1) hx hb hG inG_X1 hown hE.1 hP 7 rfl rfl 0 (by decide) (hG _ q_f_X11_124) (fun _ h9 => h9) rfl dX11_count_218 ?_
    refine lv_bipush (v := 7) hx hb dX11_count_221 (by decide) ?_
    refine va_iald hx hb hE.1 hP 8 0 rfl rfl (by unfold vp_in; decide) dX11_count_223 ?_
    refine k_top (z := (g_nwf 7)) rfl ?_
    exact KP.rt F rfl (show (0 ≤ o_rc.toInt) ∧ (o_rc.toInt ≤ 6) ∧ (0 ≤ ta_len.toInt) ∧ (ta_len.toInt ≤ 400) ∧ (ta_kind.toInt = 1 ∨ ta_kind.toInt = 3 → 0 ≤ ta_value.toInt ∧ ta_value.toInt ≤ 99999) ∧ (0 ≤ ta_place.toInt) ∧ (ta_place.toInt ≤ 400) ∧ (-1 ≤ ta_at.toInt) ∧ (ta_at.toInt ≤ 400) ∧ (0 ≤ nwn_size.toInt) ∧ (nwn_size.toInt ≤ 10) ∧ (0 ≤ ac_next.toInt) ∧ (ac_next.toInt ≤ 19) ∧ (0 ≤ ac_size.toInt) ∧ (ac_size.toInt ≤ 20) from ⟨(by first | omega | assumption), (by first | omega | assumption), (by first | omega | assumption), (by first | omega | assumption), (by first | omega | assumption), (by first | omega | assumption), (by first | omega | assumption), (by first | omega | assumption), (by first | omega | assumption), (by first | omega | assumption), (by first | omega | assumption), (by first | omega | assumption), (by first | omega | assumption), (by first | omega | assumption), (by first | omega | assumption)⟩) dX11_count_224
  by_cases c_39 : x0.toInt = 12
  · refine lv_tableIn (off := 224) (tgt := 225) hx hb dX11_count_1 (by omega) (by omega) (by rw [c_39]; rfl) (by decide) ?_
    refine lv_aload_n hx hb dX11_count_225 rfl (lv_at hl 0 rfl) ?_
    refine va_get (D := D) (ci := 11) (v := .ref nw) (C := RX11) (T := TX11) (N := 11) hx hb hG inG_X11 hown hE.1 hP 0 rfl rfl 5 (by decide) (hG _ q_f_X11_43) (fun _ h9 => h9) rfl dX11_count_226 ?_
    refine va_get (D := D) (ci := 4) (v := .ref nwn) (C := RX4) (T := TX4) (N := 6) hx hb hG inG_X4 hown hE.1 hP 6 rfl rfl 2 (by decide) (hG _ q_f_X11_114) (fun _ h9 => h9) rfl dX11_count_229 ?_
    refine va_get (D := D) (ci := 5) (v := .int nwn_size) (C := RX5) (T := TX5) (N := 4) hx hb hG inG_X5 hown hE.1 hP 11 rfl rfl 3 (by decide) (hG _ q_f_X11_118) (fun _ h9 => h9) rfl dX11_count_232 ?_
    exact KP.rt F rfl (show (0 ≤ o_rc.toInt) ∧ (o_rc.toInt ≤ 6) ∧ (0 ≤ ta_len.toInt) ∧ (ta_len.toInt ≤ 400) ∧ (ta_kind.toInt = 1 ∨ ta_kind.toInt = 3 → 0 ≤ ta_value.toInt ∧ ta_value.toInt ≤ 99999) ∧ (0 ≤ ta_place.toInt) ∧ (ta_place.toInt ≤ 400) ∧ (-1 ≤ ta_at.toInt) ∧ (ta_at.toInt ≤ 400) ∧ (0 ≤ nwn_size.toInt) ∧ (nwn_size.toInt ≤ 10) ∧ (0 ≤ ac_next.toInt) ∧ (ac_next.toInt ≤ 19) ∧ (0 ≤ ac_size.toInt) ∧ (ac_size.toInt ≤ 20) from ⟨(by first | omega | assumption), (by first | omega | assumption), (by first | omega | assumption), (by first | omega | assumption), (by first | omega | assumption), (by first | omega | assumption), (by first | omega | assumption), (by first | omega | assumption), (by first | omega | assumption), (by first | omega | assumption), (by first | omega | assumption), (by first | omega | assumption), (by first | omega | assumption), (by first | omega | assumption), (by first | omega | assumption)⟩) dX11_count_235
  by_cases c_40 : x0.toInt = 13
  · refine lv_tableIn (off := 235) (tgt := 236) hx hb dX11_count_1 (by omega) (by omega) (by rw [c_40]; rfl) (by decide) ?_
    refine lv_aload_n hx hb dX11_count_236 rfl (lv_at hl 0 rfl) ?_
    refine va_get (D := D) (ci := 11) (v := .ref ac) (C := RX11) (T := TX11) (N := 11) hx hb hG inG_X11 hown hE.1 hP 0 rfl rfl 7 (by decide) (hG _ q_f_X11_54) (fun _ h9 => h9) rfl dX11_count_237 ?_
    refine va_get (D := D) (ci := 0) (v := .int ac_size) (C := RX0) (T := TX0) (N := 3) hx hb hG inG_X0 hown hE.1 hP 15 rfl rfl 2 (by decide) (hG _ q_f_X11_123) (fun _ h9 => h9) rfl dX11_count_240 ?_
    exact KP.rt F rfl (show (0 ≤ o_rc.toInt) ∧ (o_rc.toInt ≤ 6) ∧ (0 ≤ ta_len.toInt) ∧ (ta_len.toInt ≤ 400) ∧ (ta_kind.toInt = 1 ∨ ta_kind.toInt = 3 → 0 ≤ ta_value.toInt ∧ ta_value.toInt ≤ 99999) ∧ (0 ≤ ta_place.toInt) ∧ (ta_place.toInt ≤ 400) ∧ (-1 ≤ ta_at.toInt) ∧ (ta_at.toInt ≤ 400) ∧ (0 ≤ nwn_size.toInt) ∧ (nwn_size.toInt ≤ 10) ∧ (0 ≤ ac_next.toInt) ∧ (ac_next.toInt ≤ 19) ∧ (0 ≤ ac_size.toInt) ∧ (ac_size.toInt ≤ 20) from ⟨(by first | omega | assumption), (by first | omega | assumption), (by first | omega | assumption), (by first | omega | assumption), (by first | omega | assumption), (by first | omega | assumption), (by first | omega | assumption), (by first | omega | assumption), (by first | omega | assumption), (by first | omega | assumption), (by first | omega | assumption), (by first | omega | assumption), (by first | omega | assumption), (by first | omega | assumption), (by first | omega | assumption)⟩) dX11_count_243
  by_cases c_41 : x0.toInt = 14
  · refine lv_tableIn (off := 243) (tgt := 244) hx hb dX11_count_1 (by omega) (by omega) (by rw [c_41]; rfl) (by decide) ?_
    refine lv_aload_n hx hb dX11_count_244 rfl (lv_at hl 0 rfl) ?_
    refine va_get (D := D) (ci := 11) (v := .ref nw) (C := RX11) (T := TX11) (N := 11) hx hb hG inG_X11 hown hE.1 hP 0 rfl rfl 5 (by decide) (hG _ q_f_X11_43) (fun _ h9 => h9) rfl dX11_count_245 ?_
    refine va_get (D := D) (ci := 4) (v := .int nw_x) (C := RX4) (T := TX4) (N := 6) hx hb hG inG_X4 hown hE.1 hP 6 rfl rfl 4 (by decide) (hG _ q_f_X11_149) (fun _ h9 => h9) rfl dX11_count_248 ?_
    exact KP.rt F rfl (show (0 ≤ o_rc.toInt) ∧ (o_rc.toInt ≤ 6) ∧ (0 ≤ ta_len.toInt) ∧ (ta_len.toInt ≤ 400) ∧ (ta_kind.toInt = 1 ∨ ta_kind.toInt = 3 → 0 ≤ ta_value.toInt ∧ ta_value.toInt ≤ 99999) ∧ (0 ≤ ta_place.toInt) ∧ (ta_place.toInt ≤ 400) ∧ (-1 ≤ ta_at.toInt) ∧ (ta_at.toInt ≤ 400) ∧ (0 ≤ nwn_size.toInt) ∧ (nwn_size.toInt ≤ 10) ∧ (0 ≤ ac_next.toInt) ∧ (ac_next.toInt ≤ 19) ∧ (0 ≤ ac_size.toInt) ∧ (ac_size.toInt ≤ 20) from ⟨(by first | omega | assumption), (by first | omega | assumption), (by first | omega | assumption), (by first | omega | assumption), (by first | omega | assumption), (by first | omega | assumption), (by first | omega | assumption), (by first | omega | assumption), (by first | omega | assumption), (by first | omega | assumption), (by first | omega | assumption), (by first | omega | assumption), (by first | omega | assumption), (by first | omega | assumption), (by first | omega | assumption)⟩) dX11_count_251
  by_cases c_42 : x0.toInt = 15
  · refine lv_tableIn (off := 251) (tgt := 252) hx hb dX11_count_1 (by omega) (by omega) (by rw [c_42]; rfl) (by decide) ?_
    refine lv_aload_n hx hb dX11_count_252 rfl (lv_at hl 0 rfl) ?_
    refine va_get (D := D) (ci := 11) (v := .ref ta) (C := RX11) (T := TX11) (N := 11) hx hb hG inG_X11 hown hE.1 hP 0 rfl rfl 0 (by decide) (hG _ q_f_X11_10) (fun _ h9 => h9) rfl dX11_count_253 ?_
    refine va_get (D := D) (ci := 10) (v := .int ta_len) (C := RX10) (T := TX10) (N := 11) hx hb hG inG_X10 hown hE.1 hP 1 rfl rfl 1 (by decide) (hG _ q_f_X11_87) (fun _ h9 => h9) rfl dX11_count_256 ?_
    exact KP.rt F rfl (show (0 ≤ o_rc.toInt) ∧ (o_rc.toInt ≤ 6) ∧ (0 ≤ ta_len.toInt) ∧ (ta_len.toInt ≤ 400) ∧ (ta_kind.toInt = 1 ∨ ta_kind.toInt = 3 → 0 ≤ ta_value.toInt ∧ ta_value.toInt ≤ 99999) ∧ (0 ≤ ta_place.toInt) ∧ (ta_place.toInt ≤ 400) ∧ (-1 ≤ ta_at.toInt) ∧ (ta_at.toInt ≤ 400) ∧ (0 ≤ nwn_size.toInt) ∧ (nwn_size.toInt ≤ 10) ∧ (0 ≤ ac_next.toInt) ∧ (ac_next.toInt ≤ 19) ∧ (0 ≤ ac_size.toInt) ∧ (ac_size.toInt ≤ 20) from ⟨(by first | omega | assumption), (by first | omega | assumption), (by first | omega | assumption), (by first | omega | assumption), (by first | omega | assumption), (by first | omega | assumption), (by first | omega | assumption), (by first | omega | assumption), (by first | omega | assumption), (by first | omega | assumption), (by first | omega | assumption), (by first | omega | assumption), (by first | omega | assumption), (by first | omega | assumption), (by first | omega | assumption)⟩) dX11_count_259
  refine lv_tableOut (tgt := 260) hx hb dX11_count_1 (by omega) (by decide) ?_
  refine lv_iconst (v := (-1)) hx hb dX11_count_260 (by decide) ?_
  have lit0 : ((-1) : Int32).toInt = (-1) := by decide
  exact KP.rt F rfl (show (0 ≤ o_rc.toInt) ∧ (o_rc.toInt ≤ 6) ∧ (0 ≤ ta_len.toInt) ∧ (ta_len.toInt ≤ 400) ∧ (ta_kind.toInt = 1 ∨ ta_kind.toInt = 3 → 0 ≤ ta_value.toInt ∧ ta_value.toInt ≤ 99999) ∧ (0 ≤ ta_place.toInt) ∧ (ta_place.toInt ≤ 400) ∧ (-1 ≤ ta_at.toInt) ∧ (ta_at.toInt ≤ 400) ∧ (0 ≤ nwn_size.toInt) ∧ (nwn_size.toInt ≤ 10) ∧ (0 ≤ ac_next.toInt) ∧ (ac_next.toInt ≤ 19) ∧ (0 ≤ ac_size.toInt) ∧ (ac_size.toInt ≤ 20) from ⟨(by first | omega | assumption), (by first | omega | assumption), (by first | omega | assumption), (by first | omega | assumption), (by first | omega | assumption), (by first | omega | assumption), (by first | omega | assumption), (by first | omega | assumption), (by first | omega | assumption), (by first | omega | assumption), (by first | omega | assumption), (by first | omega | assumption), (by first | omega | assumption), (by first | omega | assumption), (by first | omega | assumption)⟩) dX11_count_261

set_option maxHeartbeats 4000000 in
set_option maxRecDepth 100000 in
theorem cc_X11_down (l : Launch) (D : va_G) (cy : Nat → ClassId) (o : Nat) (ta : Nat) (gr : Nat) (rr : Nat) (ru : Nat) (nw : Nat) (im : Nat) (ac : Nat) (pl : Nat) (fc : Nat) (sd : Nat) (o_rc : Int32) (nwf : Nat) (nwf_c : Nat) (g_nwf : Nat → Int32) (nwb : Nat) (nwb_c : Nat) (g_nwb : Nat → Int32) (nwn : Nat) (nwn_r : Nat) (nwn_a : Nat) (nwn_p : Nat) (nwn_size : Int32) (g_nwnr : Nat → Int32) (g_nwna : Nat → Int32) (g_nwnp : Nat → Int32) (nw_force : Int32) (nw_x : Int32) (nw_made : Int32) (x0 : Int32) (x1 : Int32) (h_g_nwf : FV g_nwf) (h_g_nwb : FV g_nwb) (h_g_nwnr : NRV g_nwnr) (h_g_nwna : NV g_nwna) (p0 : 0 ≤ o_rc.toInt) (p1 : o_rc.toInt ≤ 6) (p2 : 0 ≤ nwn_size.toInt) (p3 : nwn_size.toInt ≤ 10) : KP l yX11_down cX11_down 4 (some .int) 2 47 D (kTY cy) [.ref o, .int x0, .int x1] [(o, .inr (11, [.ref ta, .ref gr, .ref rr, .ref ru, .int o_rc, .ref nw, .ref im, .ref ac, .ref pl, .ref fc, .ref sd])), (nw, .inr (4, [.ref nwf, .ref nwb, .ref nwn, .int nw_force, .int nw_x, .int nw_made])), (nwf, .inr (1, [.ref nwf_c])), (nwf_c, .inl (cy 0, 63, .inl g_nwf)), (nwb, .inr (1, [.ref nwb_c])), (nwb_c, .inl (cy 0, 63, .inl g_nwb)), (nwn, .inr (5, [.ref nwn_r, .ref nwn_a, .ref nwn_p, .int nwn_size])), (nwn_r, .inl (cy 0, 10, .inl g_nwnr)), (nwn_a, .inl (cy 0, 10, .inl g_nwna)), (nwn_p, .inl (cy 0, 10, .inl g_nwnp))] (fun r => (0 ≤ o_rc.toInt) ∧ (o_rc.toInt ≤ 6) ∧ (0 ≤ nwn_size.toInt) ∧ (nwn_size.toInt ≤ 10)) := by
  refine KP.of (by decide) (Nat.le_of_ble_eq_true rfl) (fun p e s m below meth c ls F hE hP hl => ?_)
  have F : kF p s m meth c cX11_down 4 (some .int) _ RX11 := F
  obtain ⟨hx, hb, hr, hml, hown, hG, hlk⟩ := id F
  have hl : lv_has ls 4 [(0, .ref o), (1, .int x0), (2, .int x1)] := hl
  obtain ⟨⟨b_1a, b_1b⟩, ⟨b_1c, b_1d⟩, ⟨b_1e, b_1f⟩⟩ := FV.bounds h_g_nwf
  obtain ⟨⟨b_2a, b_2b⟩, ⟨b_2c, b_2d⟩, ⟨b_2e, b_2f⟩⟩ := FV.bounds h_g_nwb
  refine lv_aload_n hx hb dX11_down_0 rfl (lv_at hl 0 rfl) ?_
  refine va_get (D := D) (ci := 11) (v := .ref nw) (C := RX11) (T := TX11) (N := 11) hx hb hG inG_X11 hown hE.1 hP 0 rfl rfl 5 (by decide) (hG _ q_f_X11_43) (fun _ h9 => h9) rfl dX11_down_1 ?_
  refine va_get (D := D) (ci := 4) (v := .ref nwf) (C := RX4) (T := TX4) (N := 6) hx hb hG inG_X4 hown hE.1 hP 1 rfl rfl 0 (by decide) (hG _ q_f_X11_111) (fun _ h9 => h9) rfl dX11_down_4 ?_
  refine lv_astore_n (lv' := [(3, .ref nwf), (0, .ref o), (1, .int x0), (2, .int x1)]) hx hb dX11_down_7 rfl hl (by decide) rfl (fun ls hl => ?_)
  refine lv_aload_n hx hb dX11_down_8 rfl (lv_at hl 0 rfl) ?_
  refine lv_iload_n hx hb dX11_down_9 rfl (lv_at hl 2 rfl) ?_
  refine kcV (As := [.int x0]) (rest := []) F hE hP hl.1 (cc_X1_hasArcher l D cy (o := nwf) (x0 := x0) (o_c := nwf_c) (g_o := g_nwf) (h_g_o := h_g_nwf)) q_m_X11_139 mv_X1_hasArcher ⟨(Nat.le_of_ble_eq_true rfl), (Nat.le_of_ble_eq_true rfl)⟩ [2, 3] rfl rfl rfl rfl rfl rfl (Nat.le_of_ble_eq_true rfl) ⟨(Nat.le_of_ble_eq_true rfl), (Nat.le_of_ble_eq_true rfl)⟩ dX11_down_10 (fun r_3 er_3 => ?_)
  have er_3 : (r_3.toInt = 0 ∨ r_3.toInt = 1) ∧ ((r_3.toInt ≠ 0 → 0 ≤ x0.toInt ∧ x0.toInt < (g_nwf 4).toInt)) := er_3
  obtain ⟨er_3a, er_3b⟩ := er_3
  refine lv_if_eq (tgt := 24) hx hb dX11_down_13 (by decide) (fun c_4 => ?_) (fun c_4 => ?_)
  · have ic_4 : r_3.toInt = 0 := k_eq c_4 rfl (by decide)
    clear er_3b er_3a
    refine lv_iconst (v := (-1)) hx hb dX11_down_24 (by decide) ?_
    have lit0 : ((-1) : Int32).toInt = (-1) := by decide
    exact KP.rt F rfl (show (0 ≤ o_rc.toInt) ∧ (o_rc.toInt ≤ 6) ∧ (0 ≤ nwn_size.toInt) ∧ (nwn_size.toInt ≤ 10) from ⟨(by first | omega | assumption), (by first | omega | assumption), (by first | omega | assumption), (by first | omega | assumption)⟩) dX11_down_25
  · have ic_4 : r_3.toInt ≠ 0 := k_ne c_4 rfl (by decide)
    have fc_4 := er_3b ic_4
    clear er_3b er_3a
    obtain ⟨fc_4a, fc_4b⟩ := fc_4
    refine lv_aload_n hx hb dX11_down_16 rfl (lv_at hl 0 rfl) ?_
    refine lv_iload_n hx hb dX11_down_17 rfl (lv_at hl 3 rfl) ?_
    refine kcV (As := [.int x1]) (rest := []) F hE hP hl.1 (cc_X1_hasRing l D cy (o := nwf) (x0 := x1) (o_c := nwf_c) (g_o := g_nwf) (h_g_o := h_g_nwf)) q_m_X11_136 mv_X1_hasRing ⟨(Nat.le_of_ble_eq_true rfl), (Nat.le_of_ble_eq_true rfl)⟩ [2, 3] rfl rfl rfl rfl rfl rfl (Nat.le_of_ble_eq_true rfl) ⟨(Nat.le_of_ble_eq_true rfl), (Nat.le_of_ble_eq_true rfl)⟩ dX11_down_18 (fun r_5 er_5 => ?_)
    have er_5 : (r_5.toInt = 0 ∨ r_5.toInt = 1) ∧ ((r_5.toInt ≠ 0 → 0 ≤ x1.toInt ∧ x1.toInt < (g_nwf 3).toInt)) := er_5
    obtain ⟨er_5a, er_5b⟩ := er_5
    refine lv_if_ne (tgt := 26) hx hb dX11_down_21 (by decide) (fun c_6 => ?_) (fun c_6 => ?_)
    · have ic_6 : r_5.toInt ≠ 0 := k_ne c_6 rfl (by decide)
      have fc_6 := er_5b ic_6
      clear er_5b er_5a
      obtain ⟨fc_6a, fc_6b⟩ := fc_6
      refine lv_aload_n hx hb dX11_down_26 rfl (lv_at hl 0 rfl) ?_
      refine lv_iload_n hx hb dX11_down_27 rfl (lv_at hl 2 rfl) ?_
      refine lv_iload_n hx hb dX11_down_28 rfl (lv_at hl 3 rfl) ?_
      refine lv_aload_n hx hb dX11_down_29 rfl (lv_at hl 0 rfl) ?_
      refine lv_aload_n hx hb dX11_down_30 rfl (lv_at hl 0 rfl) ?_
      refine va_get (D := D) (ci := 1) (v := .ref nwf_c) (C := RX1) (T := TX1) (N := 1) hx hb hG inG_X1 hown hE.1 hP 2 rfl rfl 0 (by decide) (hG _ q_f_X11_124) (fun _ h9 => h9) rfl dX11_down_31 ?_
      refine lv_bipush (v := 6) hx hb dX11_down_34 (by decide) ?_
      refine va_iald hx hb hE.1 hP 3 0 rfl rfl (by unfold vp_in; decide) dX11_down_36 ?_
      refine k_top (z := (g_nwf 6)) rfl ?_
      refine kcV (As := [.int (g_nwf 6)]) (rest := [.int x1, .int x0, .ref nwf]) F hE hP hl.1 (cc_X1_windOf l D cy (o := nwf) (x0 := (g_nwf 6)) (o_c := nwf_c) (g_o := g_nwf) (h_g_o := h_g_nwf)) q_m_X11_142 mv_X1_windOf ⟨(Nat.le_of_ble_eq_true rfl), (Nat.le_of_ble_eq_true rfl)⟩ [2, 3] rfl rfl rfl rfl rfl rfl (Nat.le_of_ble_eq_true rfl) ⟨(Nat.le_of_ble_eq_true rfl), (Nat.le_of_ble_eq_true rfl)⟩ dX11_down_37 (fun r_7 er_7 => ?_)
      refine kcV (As := [.int x0, .int x1, .int r_7]) (rest := []) F hE hP hl.1 (cc_X1_landing l D cy (o := nwf) (x0 := x0) (x1 := x1) (x2 := r_7) (o_c := nwf_c) (g_o := g_nwf) (h_g_o := h_g_nwf) (p0 := (by first | omega | assumption)) (p1 := (by first | omega | assumption)) (p2 := (by first | omega | assumption)) (p3 := (by first | omega | assumption))) q_m_X11_194 mv_X1_landing ⟨(Nat.le_of_ble_eq_true rfl), (Nat.le_of_ble_eq_true rfl)⟩ [2, 3] rfl rfl rfl rfl rfl rfl (Nat.le_of_ble_eq_true rfl) ⟨(Nat.le_of_ble_eq_true rfl), (Nat.le_of_ble_eq_true rfl)⟩ dX11_down_40 (fun r_8 er_8 => ?_)
      refine kcS (As := [.int r_8]) (rest := []) F hE hP hl.1 (cc_placeOrHedge l D cy (x0 := r_8)) q_m_X11_175 ms_X11_placeOrHedge ⟨(Nat.le_of_ble_eq_true rfl), (Nat.le_of_ble_eq_true rfl)⟩ [] rfl rfl rfl (Nat.le_of_ble_eq_true rfl) ⟨(Nat.le_of_ble_eq_true rfl), (Nat.le_of_ble_eq_true rfl)⟩ dX11_down_43 (fun r_9 er_9 => ?_)
      exact KP.rt F rfl (show (0 ≤ o_rc.toInt) ∧ (o_rc.toInt ≤ 6) ∧ (0 ≤ nwn_size.toInt) ∧ (nwn_size.toInt ≤ 10) from ⟨(by first | omega | assumption), (by first | omega | assumption), (by first | omega | assumption), (by first | omega | assumption)⟩) dX11_down_46
    · have ic_6 : r_5.toInt = 0 := k_eq c_6 rfl (by decide)
      clear er_5b er_5a
      refine lv_iconst (v := (-1)) hx hb dX11_down_24 (by decide) ?_
      have lit0 : ((-1) : Int32).toInt = (-1) := by decide
      exact KP.rt F rfl (show (0 ≤ o_rc.toInt) ∧ (o_rc.toInt ≤ 6) ∧ (0 ≤ nwn_size.toInt) ∧ (nwn_size.toInt ≤ 10) from ⟨(by first | omega | assumption), (by first | omega | assumption), (by first | omega | assumption), (by first | omega | assumption)⟩) dX11_down_25

set_option maxHeartbeats 4000000 in
set_option maxRecDepth 100000 in
theorem cc_X11_bestAim (l : Launch) (D : va_G) (cy : Nat → ClassId) (o : Nat) (ta : Nat) (gr : Nat) (rr : Nat) (ru : Nat) (nw : Nat) (im : Nat) (ac : Nat) (pl : Nat) (fc : Nat) (sd : Nat) (o_rc : Int32) (nwf : Nat) (nwf_c : Nat) (g_nwf : Nat → Int32) (nwb : Nat) (nwb_c : Nat) (g_nwb : Nat → Int32) (nwn : Nat) (nwn_r : Nat) (nwn_a : Nat) (nwn_p : Nat) (nwn_size : Int32) (g_nwnr : Nat → Int32) (g_nwna : Nat → Int32) (g_nwnp : Nat → Int32) (nw_force : Int32) (nw_x : Int32) (nw_made : Int32) (x0 : Int32) (x1 : Int32) (h_g_nwf : FV g_nwf) (h_g_nwb : FV g_nwb) (h_g_nwnr : NRV g_nwnr) (h_g_nwna : NV g_nwna) (p0 : 0 ≤ o_rc.toInt) (p1 : o_rc.toInt ≤ 6) (p2 : 0 ≤ nwn_size.toInt) (p3 : nwn_size.toInt ≤ 10) : KP l yX11_bestAim cX11_bestAim 7 (some .int) 2 46 D (kTY cy) [.ref o, .int x0, .int x1] [(o, .inr (11, [.ref ta, .ref gr, .ref rr, .ref ru, .int o_rc, .ref nw, .ref im, .ref ac, .ref pl, .ref fc, .ref sd])), (nw, .inr (4, [.ref nwf, .ref nwb, .ref nwn, .int nw_force, .int nw_x, .int nw_made])), (nwf, .inr (1, [.ref nwf_c])), (nwf_c, .inl (cy 0, 63, .inl g_nwf)), (nwb, .inr (1, [.ref nwb_c])), (nwb_c, .inl (cy 0, 63, .inl g_nwb)), (nwn, .inr (5, [.ref nwn_r, .ref nwn_a, .ref nwn_p, .int nwn_size])), (nwn_r, .inl (cy 0, 10, .inl g_nwnr)), (nwn_a, .inl (cy 0, 10, .inl g_nwna)), (nwn_p, .inl (cy 0, 10, .inl g_nwnp))] (fun r => (0 ≤ o_rc.toInt) ∧ (o_rc.toInt ≤ 6) ∧ (0 ≤ nwn_size.toInt) ∧ (nwn_size.toInt ≤ 10)) := by
  refine KP.of (by decide) (Nat.le_of_ble_eq_true rfl) (fun p e s m below meth c ls F hE hP hl => ?_)
  have F : kF p s m meth c cX11_bestAim 7 (some .int) _ RX11 := F
  obtain ⟨hx, hb, hr, hml, hown, hG, hlk⟩ := id F
  have hl : lv_has ls 7 [(0, .ref o), (1, .int x0), (2, .int x1)] := hl
  obtain ⟨⟨b_1a, b_1b⟩, ⟨b_1c, b_1d⟩, ⟨b_1e, b_1f⟩⟩ := FV.bounds h_g_nwf
  obtain ⟨⟨b_2a, b_2b⟩, ⟨b_2c, b_2d⟩, ⟨b_2e, b_2f⟩⟩ := FV.bounds h_g_nwb
  refine lv_aload_n hx hb dX11_bestAim_0 rfl (lv_at hl 0 rfl) ?_
  refine va_get (D := D) (ci := 11) (v := .ref nw) (C := RX11) (T := TX11) (N := 11) hx hb hG inG_X11 hown hE.1 hP 0 rfl rfl 5 (by decide) (hG _ q_f_X11_43) (fun _ h9 => h9) rfl dX11_bestAim_1 ?_
  refine va_get (D := D) (ci := 4) (v := .ref nwf) (C := RX4) (T := TX4) (N := 6) hx hb hG inG_X4 hown hE.1 hP 1 rfl rfl 0 (by decide) (hG _ q_f_X11_111) (fun _ h9 => h9) rfl dX11_bestAim_4 ?_
  refine lv_astore_n (lv' := [(3, .ref nwf), (0, .ref o), (1, .int x0), (2, .int x1)]) hx hb dX11_bestAim_7 rfl hl (by decide) rfl (fun ls hl => ?_)
  refine lv_aload_n hx hb dX11_bestAim_8 rfl (lv_at hl 0 rfl) ?_
  refine lv_iload_n hx hb dX11_bestAim_9 rfl (lv_at hl 2 rfl) ?_
  refine kcV (As := [.int x0]) (rest := []) F hE hP hl.1 (cc_X1_hasArcher l D cy (o := nwf) (x0 := x0) (o_c := nwf_c) (g_o := g_nwf) (h_g_o := h_g_nwf)) q_m_X11_139 mv_X1_hasArcher ⟨(Nat.le_of_ble_eq_true rfl), (Nat.le_of_ble_eq_true rfl)⟩ [2, 3] rfl rfl rfl rfl rfl rfl (Nat.le_of_ble_eq_true rfl) ⟨(Nat.le_of_ble_eq_true rfl), (Nat.le_of_ble_eq_true rfl)⟩ dX11_bestAim_10 (fun r_3 er_3 => ?_)
  have er_3 : (r_3.toInt = 0 ∨ r_3.toInt = 1) ∧ ((r_3.toInt ≠ 0 → 0 ≤ x0.toInt ∧ x0.toInt < (g_nwf 4).toInt)) := er_3
  obtain ⟨er_3a, er_3b⟩ := er_3
  refine lv_if_eq (tgt := 25) hx hb dX11_bestAim_13 (by decide) (fun c_4 => ?_) (fun c_4 => ?_)
  · have ic_4 : r_3.toInt = 0 := k_eq c_4 rfl (by decide)
    clear er_3b er_3a
    refine lv_bipush (v := (-2)) hx hb dX11_bestAim_25 (by decide) ?_
    have lit0 : ((-2) : Int32).toInt = (-2) := by decide
    exact KP.rt F rfl (show (0 ≤ o_rc.toInt) ∧ (o_rc.toInt ≤ 6) ∧ (0 ≤ nwn_size.toInt) ∧ (nwn_size.toInt ≤ 10) from ⟨(by first | omega | assumption), (by first | omega | assumption), (by first | omega | assumption), (by first | omega | assumption)⟩) dX11_bestAim_27
  · have ic_4 : r_3.toInt ≠ 0 := k_ne c_4 rfl (by decide)
    have fc_4 := er_3b ic_4
    clear er_3b er_3a
    obtain ⟨fc_4a, fc_4b⟩ := fc_4
    refine lv_iload_n hx hb dX11_bestAim_16 rfl (lv_at hl 3 rfl) ?_
    refine lv_iconst (v := 0) hx hb dX11_bestAim_17 (by decide) ?_
    refine lv_iconst (v := 1) hx hb dX11_bestAim_18 (by decide) ?_
    have lt32_4 : (0 : Int32).toInt = 0 := by decide
    have lt32_5 : (1 : Int32).toInt = 1 := by decide
    refine kcS (As := [.int x1, .int 0, .int 1]) (rest := []) F hE hP hl.1 (cc_within l D cy (x0 := x1) (x1 := 0) (x2 := 1)) q_m_X11_90 ms_X11_within ⟨(Nat.le_of_ble_eq_true rfl), (Nat.le_of_ble_eq_true rfl)⟩ [] rfl rfl rfl (Nat.le_of_ble_eq_true rfl) ⟨(Nat.le_of_ble_eq_true rfl), (Nat.le_of_ble_eq_true rfl)⟩ dX11_bestAim_19 (fun r_7 er_7 => ?_)
    have er_7 : (r_7.toInt = 0 ∨ r_7.toInt = 1) ∧ ((r_7.toInt ≠ 0 → (0 : Int32).toInt ≤ x1.toInt ∧ x1.toInt ≤ (1 : Int32).toInt)) ∧ ((r_7.toInt = 0 → x1.toInt < (0 : Int32).toInt ∨ (1 : Int32).toInt < x1.toInt)) := er_7
    obtain ⟨er_7a, er_7b, er_7c⟩ := er_7
    refine lv_if_ne (tgt := 28) hx hb dX11_bestAim_22 (by decide) (fun c_8 => ?_) (fun c_8 => ?_)
    · have ic_8 : r_7.toInt ≠ 0 := k_ne c_8 rfl (by decide)
      have fc_8 := er_7b ic_8
      clear er_7b er_7c er_7a
      obtain ⟨fc_8a, fc_8b⟩ := fc_8
      refine lv_aload_n hx hb dX11_bestAim_28 rfl (lv_at hl 0 rfl) ?_
      refine va_get (D := D) (ci := 1) (v := .ref nwf_c) (C := RX1) (T := TX1) (N := 1) hx hb hG inG_X1 hown hE.1 hP 2 rfl rfl 0 (by decide) (hG _ q_f_X11_124) (fun _ h9 => h9) rfl dX11_bestAim_29 ?_
      refine lv_bipush (v := 38) hx hb dX11_bestAim_32 (by decide) ?_
      refine lv_iload_n hx hb dX11_bestAim_34 rfl (lv_at hl 2 rfl) ?_
      refine lv_iadd hx hb dX11_bestAim_35 ?_
      refine lv_topi (fun z_9 ez_9 => ?_)
      have iz_9 : z_9.toInt = 38 + x0.toInt := k_addI ez_9 (by decide) rfl (by omega)
      refine va_iald hx hb hE.1 hP 3 0 rfl rfl (k_in (by omega)) dX11_bestAim_36 ?_
      refine k_top (z := (g_nwf (Int32.toNatClampNeg z_9))) rfl ?_
      have ow_10 := FV.own h_g_nwf z_9 (by omega)
      refine lv_istore (lv' := [(4, .int (g_nwf (Int32.toNatClampNeg z_9))), (3, .ref nwf), (0, .ref o), (1, .int x0), (2, .int x1)]) hx hb dX11_bestAim_37 hl (by decide) rfl (fun ls hl => ?_)
      refine lv_aload_n hx hb dX11_bestAim_39 rfl (lv_at hl 1 rfl) ?_
      refine va_get (D := D) (ci := 1) (v := .ref nwf_c) (C := RX1) (T := TX1) (N := 1) hx hb hG inG_X1 hown hE.1 hP 2 rfl rfl 0 (by decide) (hG _ q_f_X11_124) (fun _ h9 => h9) rfl dX11_bestAim_40 ?_
      refine lv_bipush (v := 53) hx hb dX11_bestAim_43 (by decide) ?_
      refine lv_iload_n hx hb dX11_bestAim_45 rfl (lv_at hl 3 rfl) ?_
      refine lv_iadd hx hb dX11_bestAim_46 ?_
      refine lv_topi (fun z_11 ez_11 => ?_)
      have iz_11 : z_11.toInt = 53 + x0.toInt := k_addI ez_11 (by decide) rfl (by omega)
      refine va_iald hx hb hE.1 hP 3 0 rfl rfl (k_in (by omega)) dX11_bestAim_47 ?_
      refine k_top (z := (g_nwf (Int32.toNatClampNeg z_11))) rfl ?_
      refine lv_aload_n hx hb dX11_bestAim_48 rfl (lv_at hl 1 rfl) ?_
      refine va_get (D := D) (ci := 1) (v := .ref nwf_c) (C := RX1) (T := TX1) (N := 1) hx hb hG inG_X1 hown hE.1 hP 2 rfl rfl 0 (by decide) (hG _ q_f_X11_124) (fun _ h9 => h9) rfl dX11_bestAim_49 ?_
      refine lv_bipush (v := 26) hx hb dX11_bestAim_52 (by decide) ?_
      refine lv_iload hx hb dX11_bestAim_54 (lv_at hl 0 rfl) ?_
      refine lv_iadd hx hb dX11_bestAim_56 ?_
      refine lv_topi (fun z_12 ez_12 => ?_)
      have iz_12 : z_12.toInt = 26 + (g_nwf (Int32.toNatClampNeg z_9)).toInt := k_addI ez_12 (by decide) rfl (by omega)
      refine va_iald hx hb hE.1 hP 3 0 rfl rfl (k_in (by omega)) dX11_bestAim_57 ?_
      refine k_top (z := (g_nwf (Int32.toNatClampNeg z_12))) rfl ?_
      refine va_mmin hx hb (by rw [hml]; exact hl.1.symm) hown (hG _ q_m_X11_178) (hG _ q_s_J9_min_7cf53) (hG _ q_z_J9) (hG _ q_c_J9_min_7cf53) (Nat.le_of_ble_eq_true rfl) (Nat.le_of_ble_eq_true rfl) (Nat.le_of_ble_eq_true rfl) (Nat.le_of_ble_eq_true rfl) dX11_bestAim_58 ?_
      refine lv_topi (fun z_13 ez_13 => ?_)
      obtain ⟨iz_13a, iz_13b, iz_13c⟩ := k_minI (a := (g_nwf (Int32.toNatClampNeg z_12)).toInt) (b := (g_nwf (Int32.toNatClampNeg z_11)).toInt) ez_13 rfl rfl
      refine lv_istore (lv' := [(5, .int z_13), (4, .int (g_nwf (Int32.toNatClampNeg z_9))), (3, .ref nwf), (0, .ref o), (1, .int x0), (2, .int x1)]) hx hb dX11_bestAim_61 hl (by decide) rfl (fun ls hl => ?_)
      refine lv_aload_n hx hb dX11_bestAim_63 rfl (lv_at hl 2 rfl) ?_
      refine lv_iload_n hx hb dX11_bestAim_64 rfl (lv_at hl 4 rfl) ?_
      refine lv_aload_n hx hb dX11_bestAim_65 rfl (lv_at hl 2 rfl) ?_
      refine va_get (D := D) (ci := 1) (v := .ref nwf_c) (C := RX1) (T := TX1) (N := 1) hx hb hG inG_X1 hown hE.1 hP 2 rfl rfl 0 (by decide) (hG _ q_f_X11_124) (fun _ h9 => h9) rfl dX11_bestAim_66 ?_
      refine lv_bipush (v := 6) hx hb dX11_bestAim_69 (by decide) ?_
      refine va_iald hx hb hE.1 hP 3 0 rfl rfl (by unfold vp_in; decide) dX11_bestAim_71 ?_
      refine k_top (z := (g_nwf 6)) rfl ?_
      refine kcV (As := [.int x0, .int (g_nwf 6)]) (rest := []) F hE hP hl.1 (cc_X1_ringThatHitsOwn l D cy (o := nwf) (x0 := x0) (x1 := (g_nwf 6)) (o_c := nwf_c) (g_o := g_nwf) (h_g_o := h_g_nwf) (p0 := (by first | omega | assumption)) (p1 := (by first | omega | assumption))) q_m_X11_197 mv_X1_ringThatHitsOwn ⟨(Nat.le_of_ble_eq_true rfl), (Nat.le_of_ble_eq_true rfl)⟩ [2, 3] rfl rfl rfl rfl rfl rfl (Nat.le_of_ble_eq_true rfl) ⟨(Nat.le_of_ble_eq_true rfl), (Nat.le_of_ble_eq_true rfl)⟩ dX11_bestAim_72 (fun r_14 er_14 => ?_)
      have er_14 : (-1 ≤ r_14.toInt) ∧ (r_14.toInt ≤ 5) := er_14
      obtain ⟨er_14a, er_14b⟩ := er_14
      refine lv_istore (lv' := [(6, .int r_14), (5, .int z_13), (4, .int (g_nwf (Int32.toNatClampNeg z_9))), (3, .ref nwf), (0, .ref o), (1, .int x0), (2, .int x1)]) hx hb dX11_bestAim_75 hl (by decide) rfl (fun ls hl => ?_)
      refine lv_iload hx hb dX11_bestAim_77 (lv_at hl 0 rfl) ?_
      refine lv_iconst (v := (-1)) hx hb dX11_bestAim_79 (by decide) ?_
      refine lv_icmp_eq (tgt := 89) hx hb dX11_bestAim_80 (by decide) (fun c_15 => ?_) (fun c_15 => ?_)
      · have ic_15 : r_14.toInt = (-1) := k_eq c_15 rfl (by decide)
        refine lv_iload_n hx hb dX11_bestAim_89 rfl (lv_at hl 6 rfl) ?_
        refine lv_if_ne (tgt := 97) hx hb dX11_bestAim_90 (by decide) (fun c_16 => ?_) (fun c_16 => ?_)
        · have ic_16 : x1.toInt ≠ 0 := k_ne c_16 rfl (by decide)
          refine lv_iconst (v := 0) hx hb dX11_bestAim_97 (by decide) ?_
          have lit0 : (0 : Int32).toInt = 0 := by decide
          exact KP.rt F rfl (show (0 ≤ o_rc.toInt) ∧ (o_rc.toInt ≤ 6) ∧ (0 ≤ nwn_size.toInt) ∧ (nwn_size.toInt ≤ 10) from ⟨(by first | omega | assumption), (by first | omega | assumption), (by first | omega | assumption), (by first | omega | assumption)⟩) dX11_bestAim_98
        · have ic_16 : x1.toInt = 0 := k_eq c_16 rfl (by decide)
          refine lv_iconst (v := (-1)) hx hb dX11_bestAim_93 (by decide) ?_
          refine lv_goto (tgt := 98) hx hb dX11_bestAim_94 (by decide) ?_
          have lit0 : ((-1) : Int32).toInt = (-1) := by decide
          exact KP.rt F rfl (show (0 ≤ o_rc.toInt) ∧ (o_rc.toInt ≤ 6) ∧ (0 ≤ nwn_size.toInt) ∧ (nwn_size.toInt ≤ 10) from ⟨(by first | omega | assumption), (by first | omega | assumption), (by first | omega | assumption), (by first | omega | assumption)⟩) dX11_bestAim_98
      · have ic_15 : r_14.toInt ≠ (-1) := k_ne c_15 rfl (by decide)
        refine lv_iload hx hb dX11_bestAim_83 (lv_at hl 1 rfl) ?_
        refine lv_iconst (v := 1) hx hb dX11_bestAim_85 (by decide) ?_
        refine lv_icmp_ge (tgt := 99) hx hb dX11_bestAim_86 (by decide) (fun c_17 => ?_) (fun c_17 => ?_)
        · have ic_17 : 1 ≤ z_13.toInt := k_le c_17 (by decide) rfl
          refine lv_iload_n hx hb dX11_bestAim_99 rfl (lv_at hl 6 rfl) ?_
          refine lv_if_ne (tgt := 108) hx hb dX11_bestAim_100 (by decide) (fun c_18 => ?_) (fun c_18 => ?_)
          · have ic_18 : x1.toInt ≠ 0 := k_ne c_18 rfl (by decide)
            refine lv_iload hx hb dX11_bestAim_108 (lv_at hl 1 rfl) ?_
            exact KP.rt F rfl (show (0 ≤ o_rc.toInt) ∧ (o_rc.toInt ≤ 6) ∧ (0 ≤ nwn_size.toInt) ∧ (nwn_size.toInt ≤ 10) from ⟨(by first | omega | assumption), (by first | omega | assumption), (by first | omega | assumption), (by first | omega | assumption)⟩) dX11_bestAim_110
          · have ic_18 : x1.toInt = 0 := k_eq c_18 rfl (by decide)
            refine lv_iload hx hb dX11_bestAim_103 (lv_at hl 0 rfl) ?_
            refine lv_goto (tgt := 110) hx hb dX11_bestAim_105 (by decide) ?_
            exact KP.rt F rfl (show (0 ≤ o_rc.toInt) ∧ (o_rc.toInt ≤ 6) ∧ (0 ≤ nwn_size.toInt) ∧ (nwn_size.toInt ≤ 10) from ⟨(by first | omega | assumption), (by first | omega | assumption), (by first | omega | assumption), (by first | omega | assumption)⟩) dX11_bestAim_110
        · have ic_17 : z_13.toInt < 1 := k_nle c_17 (by decide) rfl
          refine lv_iload_n hx hb dX11_bestAim_89 rfl (lv_at hl 6 rfl) ?_
          refine lv_if_ne (tgt := 97) hx hb dX11_bestAim_90 (by decide) (fun c_19 => ?_) (fun c_19 => ?_)
          · have ic_19 : x1.toInt ≠ 0 := k_ne c_19 rfl (by decide)
            refine lv_iconst (v := 0) hx hb dX11_bestAim_97 (by decide) ?_
            have lit0 : (0 : Int32).toInt = 0 := by decide
            exact KP.rt F rfl (show (0 ≤ o_rc.toInt) ∧ (o_rc.toInt ≤ 6) ∧ (0 ≤ nwn_size.toInt) ∧ (nwn_size.toInt ≤ 10) from ⟨(by first | omega | assumption), (by first | omega | assumption), (by first | omega | assumption), (by first | omega | assumption)⟩) dX11_bestAim_98
          · have ic_19 : x1.toInt = 0 := k_eq c_19 rfl (by decide)
            refine lv_iconst (v := (-1)) hx hb dX11_bestAim_93 (by decide) ?_
            refine lv_goto (tgt := 98) hx hb dX11_bestAim_94 (by decide) ?_
            have lit0 : ((-1) : Int32).toInt = (-1) := by decide
            exact KP.rt F rfl (show (0 ≤ o_rc.toInt) ∧ (o_rc.toInt ≤ 6) ∧ (0 ≤ nwn_size.toInt) ∧ (nwn_size.toInt ≤ 10) from ⟨(by first | omega | assumption), (by first | omega | assumption), (by first | omega | assumption), (by first | omega | assumption)⟩) dX11_bestAim_98
    · have ic_8 : r_7.toInt = 0 := k_eq c_8 rfl (by decide)
      have fc_8 := er_7c ic_8
      clear er_7b er_7c er_7a
      refine lv_bipush (v := (-2)) hx hb dX11_bestAim_25 (by decide) ?_
      have lit0 : ((-2) : Int32).toInt = (-2) := by decide
      exact KP.rt F rfl (show (0 ≤ o_rc.toInt) ∧ (o_rc.toInt ≤ 6) ∧ (0 ≤ nwn_size.toInt) ∧ (nwn_size.toInt ≤ 10) from ⟨(by first | omega | assumption), (by first | omega | assumption), (by first | omega | assumption), (by first | omega | assumption)⟩) dX11_bestAim_27

set_option maxHeartbeats 4000000 in
set_option maxRecDepth 100000 in
theorem cc_X11_hold (l : Launch) (D : va_G) (cy : Nat → ClassId) (o : Nat) (ta : Nat) (gr : Nat) (rr : Nat) (ru : Nat) (nw : Nat) (im : Nat) (ac : Nat) (pl : Nat) (fc : Nat) (sd : Nat) (o_rc : Int32) (nwf : Nat) (nwf_c : Nat) (g_nwf : Nat → Int32) (nwb : Nat) (nwb_c : Nat) (g_nwb : Nat → Int32) (nwn : Nat) (nwn_r : Nat) (nwn_a : Nat) (nwn_p : Nat) (nwn_size : Int32) (g_nwnr : Nat → Int32) (g_nwna : Nat → Int32) (g_nwnp : Nat → Int32) (nw_force : Int32) (nw_x : Int32) (nw_made : Int32) (x0 : Int32) (h_g_nwf : FV g_nwf) (h_g_nwb : FV g_nwb) (h_g_nwnr : NRV g_nwnr) (h_g_nwna : NV g_nwna) (p0 : 0 ≤ o_rc.toInt) (p1 : o_rc.toInt ≤ 6) (p2 : 0 ≤ nwn_size.toInt) (p3 : nwn_size.toInt ≤ 10) : KP l yX11_hold cX11_hold 5 (some .int) 2 43 D (kTY cy) [.ref o, .int x0] [(o, .inr (11, [.ref ta, .ref gr, .ref rr, .ref ru, .int o_rc, .ref nw, .ref im, .ref ac, .ref pl, .ref fc, .ref sd])), (nw, .inr (4, [.ref nwf, .ref nwb, .ref nwn, .int nw_force, .int nw_x, .int nw_made])), (nwf, .inr (1, [.ref nwf_c])), (nwf_c, .inl (cy 0, 63, .inl g_nwf)), (nwb, .inr (1, [.ref nwb_c])), (nwb_c, .inl (cy 0, 63, .inl g_nwb)), (nwn, .inr (5, [.ref nwn_r, .ref nwn_a, .ref nwn_p, .int nwn_size])), (nwn_r, .inl (cy 0, 10, .inl g_nwnr)), (nwn_a, .inl (cy 0, 10, .inl g_nwna)), (nwn_p, .inl (cy 0, 10, .inl g_nwnp))] (fun r => (0 ≤ o_rc.toInt) ∧ (o_rc.toInt ≤ 6) ∧ (0 ≤ nwn_size.toInt) ∧ (nwn_size.toInt ≤ 10)) := by
  refine KP.of (by decide) (Nat.le_of_ble_eq_true rfl) (fun p e s m below meth c ls F hE hP hl => ?_)
  have F : kF p s m meth c cX11_hold 5 (some .int) _ RX11 := F
  obtain ⟨hx, hb, hr, hml, hown, hG, hlk⟩ := id F
  have hl : lv_has ls 5 [(0, .ref o), (1, .int x0)] := hl
  obtain ⟨⟨b_1a, b_1b⟩, ⟨b_1c, b_1d⟩, ⟨b_1e, b_1f⟩⟩ := FV.bounds h_g_nwf
  obtain ⟨⟨b_2a, b_2b⟩, ⟨b_2c, b_2d⟩, ⟨b_2e, b_2f⟩⟩ := FV.bounds h_g_nwb
  refine lv_aload_n hx hb dX11_hold_0 rfl (lv_at hl 0 rfl) ?_
  refine va_get (D := D) (ci := 11) (v := .ref nw) (C := RX11) (T := TX11) (N := 11) hx hb hG inG_X11 hown hE.1 hP 0 rfl rfl 5 (by decide) (hG _ q_f_X11_43) (fun _ h9 => h9) rfl dX11_hold_1 ?_
  refine va_get (D := D) (ci := 4) (v := .ref nwf) (C := RX4) (T := TX4) (N := 6) hx hb hG inG_X4 hown hE.1 hP 1 rfl rfl 0 (by decide) (hG _ q_f_X11_111) (fun _ h9 => h9) rfl dX11_hold_4 ?_
  refine lv_astore_n (lv' := [(2, .ref nwf), (0, .ref o), (1, .int x0)]) hx hb dX11_hold_7 rfl hl (by decide) rfl (fun ls hl => ?_)
  refine lv_aload_n hx hb dX11_hold_8 rfl (lv_at hl 0 rfl) ?_
  refine lv_iload_n hx hb dX11_hold_9 rfl (lv_at hl 2 rfl) ?_
  refine kcV (As := [.int x0]) (rest := []) F hE hP hl.1 (cc_X1_hasArcher l D cy (o := nwf) (x0 := x0) (o_c := nwf_c) (g_o := g_nwf) (h_g_o := h_g_nwf)) q_m_X11_139 mv_X1_hasArcher ⟨(Nat.le_of_ble_eq_true rfl), (Nat.le_of_ble_eq_true rfl)⟩ [2, 3] rfl rfl rfl rfl rfl rfl (Nat.le_of_ble_eq_true rfl) ⟨(Nat.le_of_ble_eq_true rfl), (Nat.le_of_ble_eq_true rfl)⟩ dX11_hold_10 (fun r_3 er_3 => ?_)
  have er_3 : (r_3.toInt = 0 ∨ r_3.toInt = 1) ∧ ((r_3.toInt ≠ 0 → 0 ≤ x0.toInt ∧ x0.toInt < (g_nwf 4).toInt)) := er_3
  obtain ⟨er_3a, er_3b⟩ := er_3
  refine lv_if_ne (tgt := 18) hx hb dX11_hold_13 (by decide) (fun c_4 => ?_) (fun c_4 => ?_)
  · have ic_4 : r_3.toInt ≠ 0 := k_ne c_4 rfl (by decide)
    have fc_4 := er_3b ic_4
    clear er_3b er_3a
    obtain ⟨fc_4a, fc_4b⟩ := fc_4
    refine lv_aload_n hx hb dX11_hold_18 rfl (lv_at hl 0 rfl) ?_
    refine va_get (D := D) (ci := 1) (v := .ref nwf_c) (C := RX1) (T := TX1) (N := 1) hx hb hG inG_X1 hown hE.1 hP 2 rfl rfl 0 (by decide) (hG _ q_f_X11_124) (fun _ h9 => h9) rfl dX11_hold_19 ?_
    refine lv_bipush (v := 6) hx hb dX11_hold_22 (by decide) ?_
    refine va_iald hx hb hE.1 hP 3 0 rfl rfl (by unfold vp_in; decide) dX11_hold_24 ?_
    refine k_top (z := (g_nwf 6)) rfl ?_
    refine lv_istore_n (lv' := [(3, .int (g_nwf 6)), (2, .ref nwf), (0, .ref o), (1, .int x0)]) hx hb dX11_hold_25 rfl hl (by decide) rfl (fun ls hl => ?_)
    refine lv_iconst (v := 0) hx hb dX11_hold_26 (by decide) ?_
    refine lv_istore (lv' := [(4, .int 0), (3, .int (g_nwf 6)), (2, .ref nwf), (0, .ref o), (1, .int x0)]) hx hb dX11_hold_27 hl (by decide) rfl (fun ls hl => ?_)
    have lp29 : ∀ (fu : Nat) (v4_29 : Int32) (ls : Array Slot), (0 ≤ v4_29.toInt) → (v4_29.toInt ≤ 61) → 61 - v4_29.toInt < (fu : Int) → lv_has ls 5 [(4, .int v4_29), (3, .int (g_nwf 6)), (2, .ref nwf), (0, .ref o), (1, .int x0)] → W p l e (kR 2 43) s m ([.ref o, .int x0] : List Value).toArray below meth c s.heap [] 0 0 (MQ below (kQ (fun r => (0 ≤ o_rc.toInt) ∧ (o_rc.toInt ≤ 6) ∧ (0 ≤ nwn_size.toInt) ∧ (nwn_size.toInt ≤ 10))) ([.ref o, .int x0] : List Value).toArray s 0 0 (fun _ => False)) (F0 m 29 ls []) := by
      intro fu29
      induction fu29 with
      | zero =>
        intro v4_29 ls j0_29 j1_29 hm29 hl
        exact absurd hm29 (by omega)
      | succ fu29 ih29 =>
        intro v4_29 ls j0_29 j1_29 hm29 hl
        refine lv_iload hx hb dX11_hold_29 (lv_at hl 0 rfl) ?_
        refine lv_bipush (v := 60) hx hb dX11_hold_31 (by decide) ?_
        refine lv_icmp_gt (tgt := 61) hx hb dX11_hold_33 (by decide) (fun c_5 => ?_) (fun c_5 => ?_)
        · have ic_5 : 60 < v4_29.toInt := k_lt c_5 (by decide) rfl
          refine lv_bipush (v := (-2)) hx hb dX11_hold_61 (by decide) ?_
          have lit0 : ((-2) : Int32).toInt = (-2) := by decide
          exact KP.rt F rfl (show (0 ≤ o_rc.toInt) ∧ (o_rc.toInt ≤ 6) ∧ (0 ≤ nwn_size.toInt) ∧ (nwn_size.toInt ≤ 10) from ⟨(by first | omega | assumption), (by first | omega | assumption), (by first | omega | assumption), (by first | omega | assumption)⟩) dX11_hold_63
        · have ic_5 : v4_29.toInt ≤ 60 := k_nlt c_5 (by decide) rfl
          refine lv_aload_n hx hb dX11_hold_36 rfl (lv_at hl 2 rfl) ?_
          refine lv_iload_n hx hb dX11_hold_37 rfl (lv_at hl 4 rfl) ?_
          refine lv_aload_n hx hb dX11_hold_38 rfl (lv_at hl 2 rfl) ?_
          refine lv_iload_n hx hb dX11_hold_39 rfl (lv_at hl 1 rfl) ?_
          refine lv_iload hx hb dX11_hold_40 (lv_at hl 0 rfl) ?_
          refine lv_iadd hx hb dX11_hold_42 ?_
          refine lv_topi (fun z_6 ez_6 => ?_)
          refine kcV (As := [.int z_6]) (rest := [.int x0, .ref nwf]) F hE hP hl.1 (cc_X1_windOf l D cy (o := nwf) (x0 := z_6) (o_c := nwf_c) (g_o := g_nwf) (h_g_o := h_g_nwf)) q_m_X11_142 mv_X1_windOf ⟨(Nat.le_of_ble_eq_true rfl), (Nat.le_of_ble_eq_true rfl)⟩ [2, 3] rfl rfl rfl rfl rfl rfl (Nat.le_of_ble_eq_true rfl) ⟨(Nat.le_of_ble_eq_true rfl), (Nat.le_of_ble_eq_true rfl)⟩ dX11_hold_43 (fun r_7 er_7 => ?_)
          refine kcV (As := [.int x0, .int r_7]) (rest := []) F hE hP hl.1 (cc_X1_drift l D cy (o := nwf) (x0 := x0) (x1 := r_7) (o_c := nwf_c) (g_o := g_nwf) (h_g_o := h_g_nwf) (p0 := (by first | omega | assumption)) (p1 := (by first | omega | assumption))) q_m_X11_204 mv_X1_drift ⟨(Nat.le_of_ble_eq_true rfl), (Nat.le_of_ble_eq_true rfl)⟩ [2, 3] rfl rfl rfl rfl rfl rfl (Nat.le_of_ble_eq_true rfl) ⟨(Nat.le_of_ble_eq_true rfl), (Nat.le_of_ble_eq_true rfl)⟩ dX11_hold_46 (fun r_8 er_8 => ?_)
          refine lv_if_ne (tgt := 55) hx hb dX11_hold_49 (by decide) (fun c_9 => ?_) (fun c_9 => ?_)
          · have ic_9 : r_8.toInt ≠ 0 := k_ne c_9 rfl (by decide)
            obtain ⟨z_10, ez_10⟩ : ∃ y : Int32, y = v4_29 + Int32.ofInt 1 := ⟨_, rfl⟩
            have iz_10 : z_10.toInt = v4_29.toInt + 1 := k_addI ez_10 rfl (by decide) (by omega)
            refine lv_iinc (v := z_10) (lv' := [(4, .int z_10), (3, .int (g_nwf 6)), (2, .ref nwf), (0, .ref o), (1, .int x0)]) hx hb dX11_hold_55 hl (k := 0) rfl ez_10.symm (by decide) rfl (fun ls hl => ?_)
            refine lv_goto (tgt := 29) hx hb dX11_hold_58 (by decide) ?_
            exact ih29 z_10 ls (by first | omega | assumption) (by first | omega | assumption) (by omega) (lv_sub hl [0, 1, 2, 3, 4] rfl)
          · have ic_9 : r_8.toInt = 0 := k_eq c_9 rfl (by decide)
            refine lv_iload hx hb dX11_hold_52 (lv_at hl 0 rfl) ?_
            exact KP.rt F rfl (show (0 ≤ o_rc.toInt) ∧ (o_rc.toInt ≤ 6) ∧ (0 ≤ nwn_size.toInt) ∧ (nwn_size.toInt ≤ 10) from ⟨(by first | omega | assumption), (by first | omega | assumption), (by first | omega | assumption), (by first | omega | assumption)⟩) dX11_hold_54
    have lt_11 : (0 : Int32).toInt = 0 := by decide
    exact lp29 100000 0 ls (by first | omega | assumption) (by first | omega | assumption) (by omega) hl
  · have ic_4 : r_3.toInt = 0 := k_eq c_4 rfl (by decide)
    clear er_3b er_3a
    refine lv_iconst (v := (-1)) hx hb dX11_hold_16 (by decide) ?_
    have lit0 : ((-1) : Int32).toInt = (-1) := by decide
    exact KP.rt F rfl (show (0 ≤ o_rc.toInt) ∧ (o_rc.toInt ≤ 6) ∧ (0 ≤ nwn_size.toInt) ∧ (nwn_size.toInt ≤ 10) from ⟨(by first | omega | assumption), (by first | omega | assumption), (by first | omega | assumption), (by first | omega | assumption)⟩) dX11_hold_17

set_option maxHeartbeats 4000000 in
set_option maxRecDepth 100000 in
theorem cc_X11_row (l : Launch) (D : va_G) (cy : Nat → ClassId) (o : Nat) (ta : Nat) (gr : Nat) (rr : Nat) (ru : Nat) (nw : Nat) (im : Nat) (ac : Nat) (pl : Nat) (fc : Nat) (sd : Nat) (o_rc : Int32) (nwf : Nat) (nwf_c : Nat) (g_nwf : Nat → Int32) (nwb : Nat) (nwb_c : Nat) (g_nwb : Nat → Int32) (nwn : Nat) (nwn_r : Nat) (nwn_a : Nat) (nwn_p : Nat) (nwn_size : Int32) (g_nwnr : Nat → Int32) (g_nwna : Nat → Int32) (g_nwnp : Nat → Int32) (nw_force : Int32) (nw_x : Int32) (nw_made : Int32) (fc_one : Nat) (fc_oth : Nat) (fc_which : Int32) (fc_much : Int32) (fc_drawn : Int32) (g_fcone : Nat → Int32) (g_fcoth : Nat → Int32) (x0 : Int32) (x1 : Int32) (x2 : Int32) (h_g_nwf : FV g_nwf) (h_g_nwb : FV g_nwb) (h_g_nwnr : NRV g_nwnr) (h_g_nwna : NV g_nwna) (p0 : 0 ≤ o_rc.toInt) (p1 : o_rc.toInt ≤ 6) (p2 : 0 ≤ nwn_size.toInt) (p3 : nwn_size.toInt ≤ 10) : KP l yX11_row cX11_row 4 (some .int) 3 79 D (kTY cy) [.ref o, .int x0, .int x1, .int x2] [(o, .inr (11, [.ref ta, .ref gr, .ref rr, .ref ru, .int o_rc, .ref nw, .ref im, .ref ac, .ref pl, .ref fc, .ref sd])), (nw, .inr (4, [.ref nwf, .ref nwb, .ref nwn, .int nw_force, .int nw_x, .int nw_made])), (nwf, .inr (1, [.ref nwf_c])), (nwf_c, .inl (cy 0, 63, .inl g_nwf)), (nwb, .inr (1, [.ref nwb_c])), (nwb_c, .inl (cy 0, 63, .inl g_nwb)), (nwn, .inr (5, [.ref nwn_r, .ref nwn_a, .ref nwn_p, .int nwn_size])), (nwn_r, .inl (cy 0, 10, .inl g_nwnr)), (nwn_a, .inl (cy 0, 10, .inl g_nwna)), (nwn_p, .inl (cy 0, 10, .inl g_nwnp)), (fc, .inr (2, [.int fc_which, .int fc_much, .int fc_drawn, .ref fc_one, .ref fc_oth])), (fc_one, .inl (cy 0, 36, .inl g_fcone)), (fc_oth, .inl (cy 0, 36, .inl g_fcoth))] (fun r => (0 ≤ o_rc.toInt) ∧ (o_rc.toInt ≤ 6) ∧ (0 ≤ nwn_size.toInt) ∧ (nwn_size.toInt ≤ 10)) := by
  refine KP.of (by decide) (Nat.le_of_ble_eq_true rfl) (fun p e s m below meth c ls F hE hP hl => ?_)
  have F : kF p s m meth c cX11_row 4 (some .int) _ RX11 := F
  obtain ⟨hx, hb, hr, hml, hown, hG, hlk⟩ := id F
  have hl : lv_has ls 4 [(0, .ref o), (1, .int x0), (2, .int x1), (3, .int x2)] := hl
  obtain ⟨⟨b_1a, b_1b⟩, ⟨b_1c, b_1d⟩, ⟨b_1e, b_1f⟩⟩ := FV.bounds h_g_nwf
  obtain ⟨⟨b_2a, b_2b⟩, ⟨b_2c, b_2d⟩, ⟨b_2e, b_2f⟩⟩ := FV.bounds h_g_nwb
  refine lv_aload_n hx hb dX11_row_0 rfl (lv_at hl 0 rfl) ?_
  refine va_get (D := D) (ci := 11) (v := .ref nw) (C := RX11) (T := TX11) (N := 11) hx hb hG inG_X11 hown hE.1 hP 0 rfl rfl 5 (by decide) (hG _ q_f_X11_43) (fun _ h9 => h9) rfl dX11_row_1 ?_
  refine va_get (D := D) (ci := 4) (v := .ref nwf) (C := RX4) (T := TX4) (N := 6) hx hb hG inG_X4 hown hE.1 hP 1 rfl rfl 0 (by decide) (hG _ q_f_X11_111) (fun _ h9 => h9) rfl dX11_row_4 ?_
  refine lv_iload_n hx hb dX11_row_7 rfl (lv_at hl 1 rfl) ?_
  refine kcV (As := [.int x0]) (rest := []) F hE hP hl.1 (cc_X1_hasArcher l D cy (o := nwf) (x0 := x0) (o_c := nwf_c) (g_o := g_nwf) (h_g_o := h_g_nwf)) q_m_X11_139 mv_X1_hasArcher ⟨(Nat.le_of_ble_eq_true rfl), (Nat.le_of_ble_eq_true rfl)⟩ [2, 3] rfl rfl rfl rfl rfl rfl (Nat.le_of_ble_eq_true rfl) ⟨(Nat.le_of_ble_eq_true rfl), (Nat.le_of_ble_eq_true rfl)⟩ dX11_row_8 (fun r_3 er_3 => ?_)
  have er_3 : (r_3.toInt = 0 ∨ r_3.toInt = 1) ∧ ((r_3.toInt ≠ 0 → 0 ≤ x0.toInt ∧ x0.toInt < (g_nwf 4).toInt)) := er_3
  obtain ⟨er_3a, er_3b⟩ := er_3
  refine lv_if_eq (tgt := 32) hx hb dX11_row_11 (by decide) (fun c_4 => ?_) (fun c_4 => ?_)
  · have ic_4 : r_3.toInt = 0 := k_eq c_4 rfl (by decide)
    clear er_3b er_3a
    refine lv_bipush (v := (-3)) hx hb dX11_row_32 (by decide) ?_
    have lit0 : ((-3) : Int32).toInt = (-3) := by decide
    exact KP.rt F rfl (show (0 ≤ o_rc.toInt) ∧ (o_rc.toInt ≤ 6) ∧ (0 ≤ nwn_size.toInt) ∧ (nwn_size.toInt ≤ 10) from ⟨(by first | omega | assumption), (by first | omega | assumption), (by first | omega | assumption), (by first | omega | assumption)⟩) dX11_row_34
  · have ic_4 : r_3.toInt ≠ 0 := k_ne c_4 rfl (by decide)
    have fc_4 := er_3b ic_4
    clear er_3b er_3a
    obtain ⟨fc_4a, fc_4b⟩ := fc_4
    refine lv_iload_n hx hb dX11_row_14 rfl (lv_at hl 2 rfl) ?_
    refine lv_iconst (v := 1) hx hb dX11_row_15 (by decide) ?_
    refine lv_iconst (v := 5) hx hb dX11_row_16 (by decide) ?_
    have lt32_4 : (1 : Int32).toInt = 1 := by decide
    have lt32_5 : (5 : Int32).toInt = 5 := by decide
    refine kcS (As := [.int x1, .int 1, .int 5]) (rest := []) F hE hP hl.1 (cc_within l D cy (x0 := x1) (x1 := 1) (x2 := 5)) q_m_X11_90 ms_X11_within ⟨(Nat.le_of_ble_eq_true rfl), (Nat.le_of_ble_eq_true rfl)⟩ [] rfl rfl rfl (Nat.le_of_ble_eq_true rfl) ⟨(Nat.le_of_ble_eq_true rfl), (Nat.le_of_ble_eq_true rfl)⟩ dX11_row_17 (fun r_7 er_7 => ?_)
    have er_7 : (r_7.toInt = 0 ∨ r_7.toInt = 1) ∧ ((r_7.toInt ≠ 0 → (1 : Int32).toInt ≤ x1.toInt ∧ x1.toInt ≤ (5 : Int32).toInt)) ∧ ((r_7.toInt = 0 → x1.toInt < (1 : Int32).toInt ∨ (5 : Int32).toInt < x1.toInt)) := er_7
    obtain ⟨er_7a, er_7b, er_7c⟩ := er_7
    refine lv_if_eq (tgt := 32) hx hb dX11_row_20 (by decide) (fun c_8 => ?_) (fun c_8 => ?_)
    · have ic_8 : r_7.toInt = 0 := k_eq c_8 rfl (by decide)
      have fc_8 := er_7c ic_8
      clear er_7b er_7c er_7a
      refine lv_bipush (v := (-3)) hx hb dX11_row_32 (by decide) ?_
      have lit0 : ((-3) : Int32).toInt = (-3) := by decide
      exact KP.rt F rfl (show (0 ≤ o_rc.toInt) ∧ (o_rc.toInt ≤ 6) ∧ (0 ≤ nwn_size.toInt) ∧ (nwn_size.toInt ≤ 10) from ⟨(by first | omega | assumption), (by first | omega | assumption), (by first | omega | assumption), (by first | omega | assumption)⟩) dX11_row_34
    · have ic_8 : r_7.toInt ≠ 0 := k_ne c_8 rfl (by decide)
      have fc_8 := er_7b ic_8
      clear er_7b er_7c er_7a
      obtain ⟨fc_8a, fc_8b⟩ := fc_8
      refine lv_iload_n hx hb dX11_row_23 rfl (lv_at hl 3 rfl) ?_
      refine lv_iconst (v := 0) hx hb dX11_row_24 (by decide) ?_
      refine lv_iconst (v := 5) hx hb dX11_row_25 (by decide) ?_
      have lt32_8 : (0 : Int32).toInt = 0 := by decide
      have lt32_9 : (5 : Int32).toInt = 5 := by decide
      refine kcS (As := [.int x2, .int 0, .int 5]) (rest := []) F hE hP hl.1 (cc_within l D cy (x0 := x2) (x1 := 0) (x2 := 5)) q_m_X11_90 ms_X11_within ⟨(Nat.le_of_ble_eq_true rfl), (Nat.le_of_ble_eq_true rfl)⟩ [] rfl rfl rfl (Nat.le_of_ble_eq_true rfl) ⟨(Nat.le_of_ble_eq_true rfl), (Nat.le_of_ble_eq_true rfl)⟩ dX11_row_26 (fun r_11 er_11 => ?_)
      have er_11 : (r_11.toInt = 0 ∨ r_11.toInt = 1) ∧ ((r_11.toInt ≠ 0 → (0 : Int32).toInt ≤ x2.toInt ∧ x2.toInt ≤ (5 : Int32).toInt)) ∧ ((r_11.toInt = 0 → x2.toInt < (0 : Int32).toInt ∨ (5 : Int32).toInt < x2.toInt)) := er_11
      obtain ⟨er_11a, er_11b, er_11c⟩ := er_11
      refine lv_if_ne (tgt := 35) hx hb dX11_row_29 (by decide) (fun c_12 => ?_) (fun c_12 => ?_)
      · have ic_12 : r_11.toInt ≠ 0 := k_ne c_12 rfl (by decide)
        have fc_12 := er_11b ic_12
        clear er_11b er_11c er_11a
        obtain ⟨fc_12a, fc_12b⟩ := fc_12
        refine lv_aload_n hx hb dX11_row_35 rfl (lv_at hl 0 rfl) ?_
        refine va_get (D := D) (ci := 11) (v := .ref nw) (C := RX11) (T := TX11) (N := 11) hx hb hG inG_X11 hown hE.1 hP 0 rfl rfl 5 (by decide) (hG _ q_f_X11_43) (fun _ h9 => h9) rfl dX11_row_36 ?_
        refine va_get (D := D) (ci := 4) (v := .ref nwf) (C := RX4) (T := TX4) (N := 6) hx hb hG inG_X4 hown hE.1 hP 1 rfl rfl 0 (by decide) (hG _ q_f_X11_111) (fun _ h9 => h9) rfl dX11_row_39 ?_
        refine va_get (D := D) (ci := 1) (v := .ref nwf_c) (C := RX1) (T := TX1) (N := 1) hx hb hG inG_X1 hown hE.1 hP 2 rfl rfl 0 (by decide) (hG _ q_f_X11_124) (fun _ h9 => h9) rfl dX11_row_42 ?_
        refine lv_bipush (v := 58) hx hb dX11_row_45 (by decide) ?_
        refine lv_iload_n hx hb dX11_row_47 rfl (lv_at hl 1 rfl) ?_
        refine lv_iadd hx hb dX11_row_48 ?_
        refine lv_topi (fun z_13 ez_13 => ?_)
        have iz_13 : z_13.toInt = 58 + x0.toInt := k_addI ez_13 (by decide) rfl (by omega)
        refine va_iald hx hb hE.1 hP 3 0 rfl rfl (k_in (by omega)) dX11_row_49 ?_
        refine k_top (z := (g_nwf (Int32.toNatClampNeg z_13))) rfl ?_
        refine lv_iconst (v := 1) hx hb dX11_row_50 (by decide) ?_
        refine lv_icmp_ge (tgt := 57) hx hb dX11_row_51 (by decide) (fun c_14 => ?_) (fun c_14 => ?_)
        · have ic_14 : 1 ≤ (g_nwf (Int32.toNatClampNeg z_13)).toInt := k_le c_14 (by decide) rfl
          refine lv_iload_n hx hb dX11_row_57 rfl (lv_at hl 3 rfl) ?_
          refine lv_iload_n hx hb dX11_row_58 rfl (lv_at hl 2 rfl) ?_
          refine lv_icmp_le (tgt := 67) hx hb dX11_row_59 (by decide) (fun c_15 => ?_) (fun c_15 => ?_)
          · have ic_15 : x2.toInt ≤ x1.toInt := k_le c_15 rfl rfl
            refine lv_aload_n hx hb dX11_row_67 rfl (lv_at hl 0 rfl) ?_
            refine va_get (D := D) (ci := 11) (v := .ref fc) (C := RX11) (T := TX11) (N := 11) hx hb hG inG_X11 hown hE.1 hP 0 rfl rfl 9 (by decide) (hG _ q_f_X11_68) (fun _ h9 => h9) rfl dX11_row_68 ?_
            refine lv_aload_n hx hb dX11_row_71 rfl (lv_at hl 0 rfl) ?_
            refine va_get (D := D) (ci := 11) (v := .ref nw) (C := RX11) (T := TX11) (N := 11) hx hb hG inG_X11 hown hE.1 hP 0 rfl rfl 5 (by decide) (hG _ q_f_X11_43) (fun _ h9 => h9) rfl dX11_row_72 ?_
            refine va_get (D := D) (ci := 4) (v := .ref nwf) (C := RX4) (T := TX4) (N := 6) hx hb hG inG_X4 hown hE.1 hP 1 rfl rfl 0 (by decide) (hG _ q_f_X11_111) (fun _ h9 => h9) rfl dX11_row_75 ?_
            refine lv_iload_n hx hb dX11_row_78 rfl (lv_at hl 1 rfl) ?_
            refine lv_iload_n hx hb dX11_row_79 rfl (lv_at hl 2 rfl) ?_
            refine lv_iload_n hx hb dX11_row_80 rfl (lv_at hl 3 rfl) ?_
            refine kcV (As := [.ref nwf, .int x0, .int x1, .int x2]) (rest := []) F hE hP hl.1 (cc_X2_bestRow l D cy (o := fc) (q := nwf) (x0 := x0) (x1 := x1) (x2 := x2) (o_which := fc_which) (o_much := fc_much) (o_drawn := fc_drawn) (o_one := fc_one) (o_oth := fc_oth) (q_c := nwf_c) (g_q := g_nwf) (h_g_q := h_g_nwf) (p0 := (by first | omega | assumption)) (p1 := (by first | omega | assumption)) (p2 := (by first | omega | assumption)) (p3 := (by first | omega | assumption))) q_m_X11_200 mv_X2_bestRow ⟨(Nat.le_of_ble_eq_true rfl), (Nat.le_of_ble_eq_true rfl)⟩ [10, 2, 3] rfl rfl rfl rfl rfl rfl (Nat.le_of_ble_eq_true rfl) ⟨(Nat.le_of_ble_eq_true rfl), (Nat.le_of_ble_eq_true rfl)⟩ dX11_row_81 (fun r_16 er_16 => ?_)
            exact KP.rt F rfl (show (0 ≤ o_rc.toInt) ∧ (o_rc.toInt ≤ 6) ∧ (0 ≤ nwn_size.toInt) ∧ (nwn_size.toInt ≤ 10) from ⟨(by first | omega | assumption), (by first | omega | assumption), (by first | omega | assumption), (by first | omega | assumption)⟩) dX11_row_84
          · have ic_15 : x1.toInt < x2.toInt := k_nle c_15 rfl rfl
            refine lv_bipush (v := (-2)) hx hb dX11_row_62 (by decide) ?_
            refine lv_goto (tgt := 84) hx hb dX11_row_64 (by decide) ?_
            have lit0 : ((-2) : Int32).toInt = (-2) := by decide
            exact KP.rt F rfl (show (0 ≤ o_rc.toInt) ∧ (o_rc.toInt ≤ 6) ∧ (0 ≤ nwn_size.toInt) ∧ (nwn_size.toInt ≤ 10) from ⟨(by first | omega | assumption), (by first | omega | assumption), (by first | omega | assumption), (by first | omega | assumption)⟩) dX11_row_84
        · have ic_14 : (g_nwf (Int32.toNatClampNeg z_13)).toInt < 1 := k_nle c_14 (by decide) rfl
          refine lv_bipush (v := (-3)) hx hb dX11_row_54 (by decide) ?_
          have lit0 : ((-3) : Int32).toInt = (-3) := by decide
          exact KP.rt F rfl (show (0 ≤ o_rc.toInt) ∧ (o_rc.toInt ≤ 6) ∧ (0 ≤ nwn_size.toInt) ∧ (nwn_size.toInt ≤ 10) from ⟨(by first | omega | assumption), (by first | omega | assumption), (by first | omega | assumption), (by first | omega | assumption)⟩) dX11_row_56
      · have ic_12 : r_11.toInt = 0 := k_eq c_12 rfl (by decide)
        have fc_12 := er_11c ic_12
        clear er_11b er_11c er_11a
        refine lv_bipush (v := (-3)) hx hb dX11_row_32 (by decide) ?_
        have lit0 : ((-3) : Int32).toInt = (-3) := by decide
        exact KP.rt F rfl (show (0 ≤ o_rc.toInt) ∧ (o_rc.toInt ≤ 6) ∧ (0 ≤ nwn_size.toInt) ∧ (nwn_size.toInt ≤ 10) from ⟨(by first | omega | assumption), (by first | omega | assumption), (by first | omega | assumption), (by first | omega | assumption)⟩) dX11_row_34

set_option maxHeartbeats 4000000 in
set_option maxRecDepth 100000 in
theorem cc_X11_pence (l : Launch) (D : va_G) (cy : Nat → ClassId) (o : Nat) (ta : Nat) (gr : Nat) (rr : Nat) (ru : Nat) (nw : Nat) (im : Nat) (ac : Nat) (pl : Nat) (fc : Nat) (sd : Nat) (o_rc : Int32) (nwf : Nat) (nwf_c : Nat) (g_nwf : Nat → Int32) (nwb : Nat) (nwb_c : Nat) (g_nwb : Nat → Int32) (nwn : Nat) (nwn_r : Nat) (nwn_a : Nat) (nwn_p : Nat) (nwn_size : Int32) (g_nwnr : Nat → Int32) (g_nwna : Nat → Int32) (g_nwnp : Nat → Int32) (nw_force : Int32) (nw_x : Int32) (nw_made : Int32) (fc_one : Nat) (fc_oth : Nat) (fc_which : Int32) (fc_much : Int32) (fc_drawn : Int32) (g_fcone : Nat → Int32) (g_fcoth : Nat → Int32) (x0 : Int32) (x1 : Int32) (h_g_nwf : FV g_nwf) (h_g_nwb : FV g_nwb) (h_g_nwnr : NRV g_nwnr) (h_g_nwna : NV g_nwna) (p0 : 0 ≤ o_rc.toInt) (p1 : o_rc.toInt ≤ 6) (p2 : 0 ≤ nwn_size.toInt) (p3 : nwn_size.toInt ≤ 10) : KP l yX11_pence cX11_pence 3 (some .int) 2 43 D (kTY cy) [.ref o, .int x0, .int x1] [(o, .inr (11, [.ref ta, .ref gr, .ref rr, .ref ru, .int o_rc, .ref nw, .ref im, .ref ac, .ref pl, .ref fc, .ref sd])), (nw, .inr (4, [.ref nwf, .ref nwb, .ref nwn, .int nw_force, .int nw_x, .int nw_made])), (nwf, .inr (1, [.ref nwf_c])), (nwf_c, .inl (cy 0, 63, .inl g_nwf)), (nwb, .inr (1, [.ref nwb_c])), (nwb_c, .inl (cy 0, 63, .inl g_nwb)), (nwn, .inr (5, [.ref nwn_r, .ref nwn_a, .ref nwn_p, .int nwn_size])), (nwn_r, .inl (cy 0, 10, .inl g_nwnr)), (nwn_a, .inl (cy 0, 10, .inl g_nwna)), (nwn_p, .inl (cy 0, 10, .inl g_nwnp)), (fc, .inr (2, [.int fc_which, .int fc_much, .int fc_drawn, .ref fc_one, .ref fc_oth])), (fc_one, .inl (cy 0, 36, .inl g_fcone)), (fc_oth, .inl (cy 0, 36, .inl g_fcoth))] (fun r => (0 ≤ o_rc.toInt) ∧ (o_rc.toInt ≤ 6) ∧ (0 ≤ nwn_size.toInt) ∧ (nwn_size.toInt ≤ 10)) := by
  refine KP.of (by decide) (Nat.le_of_ble_eq_true rfl) (fun p e s m below meth c ls F hE hP hl => ?_)
  have F : kF p s m meth c cX11_pence 3 (some .int) _ RX11 := F
  obtain ⟨hx, hb, hr, hml, hown, hG, hlk⟩ := id F
  have hl : lv_has ls 3 [(0, .ref o), (1, .int x0), (2, .int x1)] := hl
  obtain ⟨⟨b_1a, b_1b⟩, ⟨b_1c, b_1d⟩, ⟨b_1e, b_1f⟩⟩ := FV.bounds h_g_nwf
  obtain ⟨⟨b_2a, b_2b⟩, ⟨b_2c, b_2d⟩, ⟨b_2e, b_2f⟩⟩ := FV.bounds h_g_nwb
  refine lv_iload_n hx hb dX11_pence_0 rfl (lv_at hl 1 rfl) ?_
  refine lv_iconst (v := 0) hx hb dX11_pence_1 (by decide) ?_
  refine lv_sipush (v := 9999) hx hb dX11_pence_2 (by decide) ?_
  have lt32_2 : (0 : Int32).toInt = 0 := by decide
  have lt32_3 : (9999 : Int32).toInt = 9999 := by decide
  refine kcS (As := [.int x0, .int 0, .int 9999]) (rest := []) F hE hP hl.1 (cc_within l D cy (x0 := x0) (x1 := 0) (x2 := 9999)) q_m_X11_90 ms_X11_within ⟨(Nat.le_of_ble_eq_true rfl), (Nat.le_of_ble_eq_true rfl)⟩ [] rfl rfl rfl (Nat.le_of_ble_eq_true rfl) ⟨(Nat.le_of_ble_eq_true rfl), (Nat.le_of_ble_eq_true rfl)⟩ dX11_pence_5 (fun r_5 er_5 => ?_)
  have er_5 : (r_5.toInt = 0 ∨ r_5.toInt = 1) ∧ ((r_5.toInt ≠ 0 → (0 : Int32).toInt ≤ x0.toInt ∧ x0.toInt ≤ (9999 : Int32).toInt)) ∧ ((r_5.toInt = 0 → x0.toInt < (0 : Int32).toInt ∨ (9999 : Int32).toInt < x0.toInt)) := er_5
  obtain ⟨er_5a, er_5b, er_5c⟩ := er_5
  refine lv_if_eq (tgt := 25) hx hb dX11_pence_8 (by decide) (fun c_6 => ?_) (fun c_6 => ?_)
  · have ic_6 : r_5.toInt = 0 := k_eq c_6 rfl (by decide)
    have fc_6 := er_5c ic_6
    clear er_5b er_5c er_5a
    refine lv_iconst (v := (-1)) hx hb dX11_pence_25 (by decide) ?_
    have lit0 : ((-1) : Int32).toInt = (-1) := by decide
    exact KP.rt F rfl (show (0 ≤ o_rc.toInt) ∧ (o_rc.toInt ≤ 6) ∧ (0 ≤ nwn_size.toInt) ∧ (nwn_size.toInt ≤ 10) from ⟨(by first | omega | assumption), (by first | omega | assumption), (by first | omega | assumption), (by first | omega | assumption)⟩) dX11_pence_26
  · have ic_6 : r_5.toInt ≠ 0 := k_ne c_6 rfl (by decide)
    have fc_6 := er_5b ic_6
    clear er_5b er_5c er_5a
    obtain ⟨fc_6a, fc_6b⟩ := fc_6
    refine lv_aload_n hx hb dX11_pence_11 rfl (lv_at hl 0 rfl) ?_
    refine va_get (D := D) (ci := 11) (v := .ref nw) (C := RX11) (T := TX11) (N := 11) hx hb hG inG_X11 hown hE.1 hP 0 rfl rfl 5 (by decide) (hG _ q_f_X11_43) (fun _ h9 => h9) rfl dX11_pence_12 ?_
    refine va_get (D := D) (ci := 4) (v := .ref nwf) (C := RX4) (T := TX4) (N := 6) hx hb hG inG_X4 hown hE.1 hP 1 rfl rfl 0 (by decide) (hG _ q_f_X11_111) (fun _ h9 => h9) rfl dX11_pence_15 ?_
    refine lv_iload_n hx hb dX11_pence_18 rfl (lv_at hl 2 rfl) ?_
    refine kcV (As := [.int x1]) (rest := []) F hE hP hl.1 (cc_X1_hasRing l D cy (o := nwf) (x0 := x1) (o_c := nwf_c) (g_o := g_nwf) (h_g_o := h_g_nwf)) q_m_X11_136 mv_X1_hasRing ⟨(Nat.le_of_ble_eq_true rfl), (Nat.le_of_ble_eq_true rfl)⟩ [2, 3] rfl rfl rfl rfl rfl rfl (Nat.le_of_ble_eq_true rfl) ⟨(Nat.le_of_ble_eq_true rfl), (Nat.le_of_ble_eq_true rfl)⟩ dX11_pence_19 (fun r_7 er_7 => ?_)
    have er_7 : (r_7.toInt = 0 ∨ r_7.toInt = 1) ∧ ((r_7.toInt ≠ 0 → 0 ≤ x1.toInt ∧ x1.toInt < (g_nwf 3).toInt)) := er_7
    obtain ⟨er_7a, er_7b⟩ := er_7
    refine lv_if_ne (tgt := 27) hx hb dX11_pence_22 (by decide) (fun c_8 => ?_) (fun c_8 => ?_)
    · have ic_8 : r_7.toInt ≠ 0 := k_ne c_8 rfl (by decide)
      have fc_8 := er_7b ic_8
      clear er_7b er_7a
      obtain ⟨fc_8a, fc_8b⟩ := fc_8
      refine lv_aload_n hx hb dX11_pence_27 rfl (lv_at hl 0 rfl) ?_
      refine va_get (D := D) (ci := 11) (v := .ref fc) (C := RX11) (T := TX11) (N := 11) hx hb hG inG_X11 hown hE.1 hP 0 rfl rfl 9 (by decide) (hG _ q_f_X11_68) (fun _ h9 => h9) rfl dX11_pence_28 ?_
      refine lv_aload_n hx hb dX11_pence_31 rfl (lv_at hl 0 rfl) ?_
      refine va_get (D := D) (ci := 11) (v := .ref nw) (C := RX11) (T := TX11) (N := 11) hx hb hG inG_X11 hown hE.1 hP 0 rfl rfl 5 (by decide) (hG _ q_f_X11_43) (fun _ h9 => h9) rfl dX11_pence_32 ?_
      refine va_get (D := D) (ci := 4) (v := .ref nwf) (C := RX4) (T := TX4) (N := 6) hx hb hG inG_X4 hown hE.1 hP 1 rfl rfl 0 (by decide) (hG _ q_f_X11_111) (fun _ h9 => h9) rfl dX11_pence_35 ?_
      refine lv_iload_n hx hb dX11_pence_38 rfl (lv_at hl 1 rfl) ?_
      refine lv_iload_n hx hb dX11_pence_39 rfl (lv_at hl 2 rfl) ?_
      refine kcV (As := [.ref nwf, .int x0, .int x1]) (rest := []) F hE hP hl.1 (cc_X2_penceOf l D cy (o := fc) (q := nwf) (x0 := x0) (x1 := x1) (o_which := fc_which) (o_much := fc_much) (o_drawn := fc_drawn) (o_one := fc_one) (o_oth := fc_oth) (q_c := nwf_c) (g_q := g_nwf) (h_g_q := h_g_nwf) (p0 := (by first | omega | assumption)) (p1 := (by first | omega | assumption))) q_m_X11_228 mv_X2_penceOf ⟨(Nat.le_of_ble_eq_true rfl), (Nat.le_of_ble_eq_true rfl)⟩ [10, 2, 3] rfl rfl rfl rfl rfl rfl (Nat.le_of_ble_eq_true rfl) ⟨(Nat.le_of_ble_eq_true rfl), (Nat.le_of_ble_eq_true rfl)⟩ dX11_pence_40 (fun r_9 er_9 => ?_)
      exact KP.rt F rfl (show (0 ≤ o_rc.toInt) ∧ (o_rc.toInt ≤ 6) ∧ (0 ≤ nwn_size.toInt) ∧ (nwn_size.toInt ≤ 10) from ⟨(by first | omega | assumption), (by first | omega | assumption), (by first | omega | assumption), (by first | omega | assumption)⟩) dX11_pence_43
    · have ic_8 : r_7.toInt = 0 := k_eq c_8 rfl (by decide)
      clear er_7b er_7a
      refine lv_iconst (v := (-1)) hx hb dX11_pence_25 (by decide) ?_
      have lit0 : ((-1) : Int32).toInt = (-1) := by decide
      exact KP.rt F rfl (show (0 ≤ o_rc.toInt) ∧ (o_rc.toInt ≤ 6) ∧ (0 ≤ nwn_size.toInt) ∧ (nwn_size.toInt ≤ 10) from ⟨(by first | omega | assumption), (by first | omega | assumption), (by first | omega | assumption), (by first | omega | assumption)⟩) dX11_pence_26

set_option maxHeartbeats 4000000 in
set_option maxRecDepth 100000 in
theorem cc_X11_note (l : Launch) (D : va_G) (cy : Nat → ClassId) (o : Nat) (ta : Nat) (gr : Nat) (rr : Nat) (ru : Nat) (nw : Nat) (im : Nat) (ac : Nat) (pl : Nat) (fc : Nat) (sd : Nat) (o_rc : Int32) (nwf : Nat) (nwf_c : Nat) (g_nwf : Nat → Int32) (nwb : Nat) (nwb_c : Nat) (g_nwb : Nat → Int32) (nwn : Nat) (nwn_r : Nat) (nwn_a : Nat) (nwn_p : Nat) (nwn_size : Int32) (g_nwnr : Nat → Int32) (g_nwna : Nat → Int32) (g_nwnp : Nat → Int32) (nw_force : Int32) (nw_x : Int32) (nw_made : Int32) (x0 : Int32) (x1 : Int32) (x2 : Int32) (h_g_nwf : FV g_nwf) (h_g_nwb : FV g_nwb) (h_g_nwnr : NRV g_nwnr) (h_g_nwna : NV g_nwna) (p0 : 0 ≤ o_rc.toInt) (p1 : o_rc.toInt ≤ 6) (p2 : 0 ≤ nwn_size.toInt) (p3 : nwn_size.toInt ≤ 10) : KI l yX11_note cX11_note 5 (some .int) 2 43 D (kTY cy) [.ref o, .int x0, .int x1, .int x2] [(o, .inr (11, [.ref ta, .ref gr, .ref rr, .ref ru, .int o_rc, .ref nw, .ref im, .ref ac, .ref pl, .ref fc, .ref sd])), (nw, .inr (4, [.ref nwf, .ref nwb, .ref nwn, .int nw_force, .int nw_x, .int nw_made])), (nwf, .inr (1, [.ref nwf_c])), (nwf_c, .inl (cy 0, 63, .inl g_nwf)), (nwb, .inr (1, [.ref nwb_c])), (nwb_c, .inl (cy 0, 63, .inl g_nwb)), (nwn, .inr (5, [.ref nwn_r, .ref nwn_a, .ref nwn_p, .int nwn_size])), (nwn_r, .inl (cy 0, 10, .inl g_nwnr)), (nwn_a, .inl (cy 0, 10, .inl g_nwna)), (nwn_p, .inl (cy 0, 10, .inl g_nwnp))] (S := Int32 × (Nat → Int32) × (Nat → Int32) × (Nat → Int32)) (fun r u => NRV (u.2.1) ∧ NV (u.2.2.1) ∧ (0 ≤ o_rc.toInt) ∧ (o_rc.toInt ≤ 6) ∧ (0 ≤ (u.1).toInt) ∧ ((u.1).toInt ≤ 10)) (fun u => [(o, .inr (11, [.ref ta, .ref gr, .ref rr, .ref ru, .int o_rc, .ref nw, .ref im, .ref ac, .ref pl, .ref fc, .ref sd])), (nw, .inr (4, [.ref nwf, .ref nwb, .ref nwn, .int nw_force, .int nw_x, .int nw_made])), (nwf, .inr (1, [.ref nwf_c])), (nwf_c, .inl (cy 0, 63, .inl g_nwf)), (nwb, .inr (1, [.ref nwb_c])), (nwb_c, .inl (cy 0, 63, .inl g_nwb)), (nwn, .inr (5, [.ref nwn_r, .ref nwn_a, .ref nwn_p, .int (u.1)])), (nwn_r, .inl (cy 0, 10, .inl (u.2.1))), (nwn_a, .inl (cy 0, 10, .inl (u.2.2.1))), (nwn_p, .inl (cy 0, 10, .inl (u.2.2.2)))]) 0 0 := by
  refine KI.of (by decide) (Nat.le_of_ble_eq_true rfl) (fun p e s m below meth c ls A F hE hP hD hA hS hl => ?_)
  have F : kF p s m meth c cX11_note 5 (some .int) _ RX11 := F
  obtain ⟨hx, hb, hr, hml, hown, hG, hlk⟩ := id F
  have hl : lv_has ls 5 [(0, .ref o), (1, .int x0), (2, .int x1), (3, .int x2)] := hl
  obtain ⟨⟨b_1a, b_1b⟩, ⟨b_1c, b_1d⟩, ⟨b_1e, b_1f⟩⟩ := FV.bounds h_g_nwf
  obtain ⟨⟨b_2a, b_2b⟩, ⟨b_2c, b_2d⟩, ⟨b_2e, b_2f⟩⟩ := FV.bounds h_g_nwb
  refine lv_iload_n hx hb dX11_note_0 rfl (lv_at hl 1 rfl) ?_
  refine lv_iconst (v := (-1)) hx hb dX11_note_1 (by decide) ?_
  refine lv_icmp_ne (tgt := 18) hx hb dX11_note_2 (by decide) (fun c_3 => ?_) (fun c_3 => ?_)
  · have ic_3 : x0.toInt ≠ (-1) := k_ne c_3 rfl (by decide)
    refine lv_iload_n hx hb dX11_note_18 rfl (lv_at hl 3 rfl) ?_
    refine lv_iconst (v := (-1)) hx hb dX11_note_19 (by decide) ?_
    refine lv_aload_n hx hb dX11_note_20 rfl (lv_at hl 0 rfl) ?_
    refine va_get (D := D) (ci := 11) (v := .ref nw) (C := RX11) (T := TX11) (N := 11) hx hb hG inG_X11 hown hE.1 hP 0 rfl rfl 5 (by decide) (hG _ q_f_X11_43) (fun _ h9 => h9) rfl dX11_note_21 ?_
    refine va_get (D := D) (ci := 4) (v := .ref nwf) (C := RX4) (T := TX4) (N := 6) hx hb hG inG_X4 hown hE.1 hP 1 rfl rfl 0 (by decide) (hG _ q_f_X11_111) (fun _ h9 => h9) rfl dX11_note_24 ?_
    refine va_get (D := D) (ci := 1) (v := .ref nwf_c) (C := RX1) (T := TX1) (N := 1) hx hb hG inG_X1 hown hE.1 hP 2 rfl rfl 0 (by decide) (hG _ q_f_X11_124) (fun _ h9 => h9) rfl dX11_note_27 ?_
    refine lv_iconst (v := 0) hx hb dX11_note_30 (by decide) ?_
    refine va_iald hx hb hE.1 hP 3 0 rfl rfl (by unfold vp_in; decide) dX11_note_31 ?_
    refine k_top (z := (g_nwf 0)) rfl ?_
    refine lv_iconst (v := 1) hx hb dX11_note_32 (by decide) ?_
    refine lv_isub hx hb dX11_note_33 ?_
    refine lv_topi (fun z_4 ez_4 => ?_)
    have lt32_4 : ((-1) : Int32).toInt = (-1) := by decide
    refine kcS (As := [.int x2, .int (-1), .int z_4]) (rest := []) F hE hP hl.1 (cc_within l D cy (x0 := x2) (x1 := (-1)) (x2 := z_4)) q_m_X11_90 ms_X11_within ⟨(Nat.le_of_ble_eq_true rfl), (Nat.le_of_ble_eq_true rfl)⟩ [] rfl rfl rfl (Nat.le_of_ble_eq_true rfl) ⟨(Nat.le_of_ble_eq_true rfl), (Nat.le_of_ble_eq_true rfl)⟩ dX11_note_34 (fun r_6 er_6 => ?_)
    have er_6 : (r_6.toInt = 0 ∨ r_6.toInt = 1) ∧ ((r_6.toInt ≠ 0 → ((-1) : Int32).toInt ≤ x2.toInt ∧ x2.toInt ≤ z_4.toInt)) ∧ ((r_6.toInt = 0 → x2.toInt < ((-1) : Int32).toInt ∨ z_4.toInt < x2.toInt)) := er_6
    obtain ⟨er_6a, er_6b, er_6c⟩ := er_6
    refine lv_if_ne (tgt := 46) hx hb dX11_note_37 (by decide) (fun c_7 => ?_) (fun c_7 => ?_)
    · have ic_7 : r_6.toInt ≠ 0 := k_ne c_7 rfl (by decide)
      have fc_7 := er_6b ic_7
      clear er_6b er_6c er_6a
      obtain ⟨fc_7a, fc_7b⟩ := fc_7
      refine lv_iconst (v := 1) hx hb dX11_note_46 (by decide) ?_
      refine lv_goto (tgt := 51) hx hb dX11_note_47 (by decide) ?_
      refine lv_istore (lv' := [(4, .int 1), (0, .ref o), (1, .int x0), (2, .int x1), (3, .int x2)]) hx hb dX11_note_51 hl (by decide) rfl (fun ls hl => ?_)
      refine lv_iload_n hx hb dX11_note_53 rfl (lv_at hl 2 rfl) ?_
      refine lv_iconst (v := 0) hx hb dX11_note_54 (by decide) ?_
      refine lv_bipush (v := 40) hx hb dX11_note_55 (by decide) ?_
      have lt32_7 : (0 : Int32).toInt = 0 := by decide
      have lt32_8 : (40 : Int32).toInt = 40 := by decide
      refine kcS (As := [.int x0, .int 0, .int 40]) (rest := []) F hE hP hl.1 (cc_within l D cy (x0 := x0) (x1 := 0) (x2 := 40)) q_m_X11_90 ms_X11_within ⟨(Nat.le_of_ble_eq_true rfl), (Nat.le_of_ble_eq_true rfl)⟩ [] rfl rfl rfl (Nat.le_of_ble_eq_true rfl) ⟨(Nat.le_of_ble_eq_true rfl), (Nat.le_of_ble_eq_true rfl)⟩ dX11_note_57 (fun r_10 er_10 => ?_)
      have er_10 : (r_10.toInt = 0 ∨ r_10.toInt = 1) ∧ ((r_10.toInt ≠ 0 → (0 : Int32).toInt ≤ x0.toInt ∧ x0.toInt ≤ (40 : Int32).toInt)) ∧ ((r_10.toInt = 0 → x0.toInt < (0 : Int32).toInt ∨ (40 : Int32).toInt < x0.toInt)) := er_10
      obtain ⟨er_10a, er_10b, er_10c⟩ := er_10
      refine lv_if_eq (tgt := 95) hx hb dX11_note_60 (by decide) (fun c_11 => ?_) (fun c_11 => ?_)
      · have ic_11 : r_10.toInt = 0 := k_eq c_11 rfl (by decide)
        have fc_11 := er_10c ic_11
        clear er_10b er_10c er_10a
        refine lv_bipush (v := (-2)) hx hb dX11_note_95 (by decide) ?_
        have lit0 : ((-2) : Int32).toInt = (-2) := by decide
        exact KI.rt ⟨nwn_size, g_nwnr, g_nwna, g_nwnp⟩ F rfl (hP.sub [0, 1, 2, 3, 4, 5, 6, 7, 8, 9] rfl) (hD.sub [0, 1, 2, 3, 4, 5, 6, 7, 8, 9] (by decide) rfl) hS (show NRV g_nwnr ∧ NV g_nwna ∧ (0 ≤ o_rc.toInt) ∧ (o_rc.toInt ≤ 6) ∧ (0 ≤ nwn_size.toInt) ∧ (nwn_size.toInt ≤ 10) from ⟨h_g_nwnr, h_g_nwna, (by first | omega | assumption), (by first | omega | assumption), (by first | omega | assumption), (by first | omega | assumption)⟩) (Nat.le_of_ble_eq_true rfl) (Nat.le_of_ble_eq_true rfl) dX11_note_97
      · have ic_11 : r_10.toInt ≠ 0 := k_ne c_11 rfl (by decide)
        have fc_11 := er_10b ic_11
        clear er_10b er_10c er_10a
        obtain ⟨fc_11a, fc_11b⟩ := fc_11
        refine lv_aload_n hx hb dX11_note_63 rfl (lv_at hl 1 rfl) ?_
        refine va_get (D := D) (ci := 11) (v := .ref nw) (C := RX11) (T := TX11) (N := 11) hx hb hG inG_X11 hown hE.1 hP 0 rfl rfl 5 (by decide) (hG _ q_f_X11_43) (fun _ h9 => h9) rfl dX11_note_64 ?_
        refine va_get (D := D) (ci := 4) (v := .ref nwf) (C := RX4) (T := TX4) (N := 6) hx hb hG inG_X4 hown hE.1 hP 1 rfl rfl 0 (by decide) (hG _ q_f_X11_111) (fun _ h9 => h9) rfl dX11_note_67 ?_
        refine lv_iload_n hx hb dX11_note_70 rfl (lv_at hl 3 rfl) ?_
        refine kcV (As := [.int x1]) (rest := []) F hE hP hl.1 (cc_X1_hasArcher l D cy (o := nwf) (x0 := x1) (o_c := nwf_c) (g_o := g_nwf) (h_g_o := h_g_nwf)) q_m_X11_139 mv_X1_hasArcher ⟨(Nat.le_of_ble_eq_true rfl), (Nat.le_of_ble_eq_true rfl)⟩ [2, 3] rfl rfl rfl rfl rfl rfl (Nat.le_of_ble_eq_true rfl) ⟨(Nat.le_of_ble_eq_true rfl), (Nat.le_of_ble_eq_true rfl)⟩ dX11_note_71 (fun r_12 er_12 => ?_)
        have er_12 : (r_12.toInt = 0 ∨ r_12.toInt = 1) ∧ ((r_12.toInt ≠ 0 → 0 ≤ x1.toInt ∧ x1.toInt < (g_nwf 4).toInt)) := er_12
        obtain ⟨er_12a, er_12b⟩ := er_12
        refine lv_if_eq (tgt := 95) hx hb dX11_note_74 (by decide) (fun c_13 => ?_) (fun c_13 => ?_)
        · have ic_13 : r_12.toInt = 0 := k_eq c_13 rfl (by decide)
          clear er_12b er_12a
          refine lv_bipush (v := (-2)) hx hb dX11_note_95 (by decide) ?_
          have lit0 : ((-2) : Int32).toInt = (-2) := by decide
          exact KI.rt ⟨nwn_size, g_nwnr, g_nwna, g_nwnp⟩ F rfl (hP.sub [0, 1, 2, 3, 4, 5, 6, 7, 8, 9] rfl) (hD.sub [0, 1, 2, 3, 4, 5, 6, 7, 8, 9] (by decide) rfl) hS (show NRV g_nwnr ∧ NV g_nwna ∧ (0 ≤ o_rc.toInt) ∧ (o_rc.toInt ≤ 6) ∧ (0 ≤ nwn_size.toInt) ∧ (nwn_size.toInt ≤ 10) from ⟨h_g_nwnr, h_g_nwna, (by first | omega | assumption), (by first | omega | assumption), (by first | omega | assumption), (by first | omega | assumption)⟩) (Nat.le_of_ble_eq_true rfl) (Nat.le_of_ble_eq_true rfl) dX11_note_97
        · have ic_13 : r_12.toInt ≠ 0 := k_ne c_13 rfl (by decide)
          have fc_13 := er_12b ic_13
          clear er_12b er_12a
          obtain ⟨fc_13a, fc_13b⟩ := fc_13
          refine lv_iload hx hb dX11_note_77 (lv_at hl 0 rfl) ?_
          refine lv_if_eq (tgt := 95) hx hb dX11_note_79 (by decide) (fun q => absurd q (by decide)) (fun _ => ?_)
          refine lv_aload_n hx hb dX11_note_82 rfl (lv_at hl 1 rfl) ?_
          refine va_get (D := D) (ci := 11) (v := .ref nw) (C := RX11) (T := TX11) (N := 11) hx hb hG inG_X11 hown hE.1 hP 0 rfl rfl 5 (by decide) (hG _ q_f_X11_43) (fun _ h9 => h9) rfl dX11_note_83 ?_
          refine va_get (D := D) (ci := 4) (v := .ref nwn) (C := RX4) (T := TX4) (N := 6) hx hb hG inG_X4 hown hE.1 hP 1 rfl rfl 2 (by decide) (hG _ q_f_X11_114) (fun _ h9 => h9) rfl dX11_note_86 ?_
          refine kcV (As := []) (rest := []) F hE hP hl.1 (cc_X5_isFull l D cy (o := nwn) (o_r := nwn_r) (o_a := nwn_a) (o_p := nwn_p) (o_size := nwn_size) (g_or := g_nwnr) (g_oa := g_nwna) (g_op := g_nwnp) (h_g_or := h_g_nwnr) (h_g_oa := h_g_nwna)) q_m_X11_232 mv_X5_isFull ⟨(Nat.le_of_ble_eq_true rfl), (Nat.le_of_ble_eq_true rfl)⟩ [6, 7, 8, 9] rfl rfl rfl rfl rfl rfl (Nat.le_of_ble_eq_true rfl) ⟨(Nat.le_of_ble_eq_true rfl), (Nat.le_of_ble_eq_true rfl)⟩ dX11_note_89 (fun r_14 er_14 => ?_)
          have er_14 : (r_14.toInt = 0 ∨ r_14.toInt = 1) ∧ ((r_14.toInt ≠ 0 → 10 ≤ nwn_size.toInt)) ∧ ((r_14.toInt = 0 → nwn_size.toInt < 10)) := er_14
          obtain ⟨er_14a, er_14b, er_14c⟩ := er_14
          refine lv_if_eq (tgt := 98) hx hb dX11_note_92 (by decide) (fun c_15 => ?_) (fun c_15 => ?_)
          · have ic_15 : r_14.toInt = 0 := k_eq c_15 rfl (by decide)
            have fc_15 := er_14c ic_15
            clear er_14b er_14c er_14a
            refine lv_aload_n hx hb dX11_note_98 rfl (lv_at hl 1 rfl) ?_
            refine va_get (D := D) (ci := 11) (v := .ref nw) (C := RX11) (T := TX11) (N := 11) hx hb hG inG_X11 hown hE.1 hP 0 rfl rfl 5 (by decide) (hG _ q_f_X11_43) (fun _ h9 => h9) rfl dX11_note_99 ?_
            refine va_get (D := D) (ci := 4) (v := .ref nwn) (C := RX4) (T := TX4) (N := 6) hx hb hG inG_X4 hown hE.1 hP 1 rfl rfl 2 (by decide) (hG _ q_f_X11_114) (fun _ h9 => h9) rfl dX11_note_102 ?_
            refine lv_iload_n hx hb dX11_note_105 rfl (lv_at hl 2 rfl) ?_
            refine lv_iload_n hx hb dX11_note_106 rfl (lv_at hl 3 rfl) ?_
            refine lv_iload_n hx hb dX11_note_107 rfl (lv_at hl 4 rfl) ?_
            refine kwVV (wr := [(o, .inr (11, [.ref ta, .ref gr, .ref rr, .ref ru, .int o_rc, .ref nw, .ref im, .ref ac, .ref pl, .ref fc, .ref sd])), (nw, .inr (4, [.ref nwf, .ref nwb, .ref nwn, .int nw_force, .int nw_x, .int nw_made])), (nwf, .inr (1, [.ref nwf_c])), (nwf_c, .inl (cy 0, 63, .inl g_nwf)), (nwb, .inr (1, [.ref nwb_c])), (nwb_c, .inl (cy 0, 63, .inl g_nwb))]) (As := [.int x0, .int x1, .int x2]) (rest := []) F hE hP hD hS hA hl.1 (cc_X5_add l D cy (o := nwn) (x0 := x0) (x1 := x1) (x2 := x2) (o_r := nwn_r) (o_a := nwn_a) (o_p := nwn_p) (o_size := nwn_size) (g_or := g_nwnr) (g_oa := g_nwna) (g_op := g_nwnp) (h_g_or := h_g_nwnr) (h_g_oa := h_g_nwna) (p0 := (by first | omega | assumption)) (p1 := (by first | omega | assumption)) (p2 := (by first | omega | assumption)) (p3 := (by first | omega | assumption)) (p4 := (by first | omega | assumption))) q_m_X11_235 mv_X5_add ⟨(Nat.le_of_ble_eq_true rfl), (Nat.le_of_ble_eq_true rfl)⟩ [6, 7, 8, 9] [0, 1, 2, 3, 4, 5] (by decide) rfl rfl (by decide) (by decide) rfl rfl rfl rfl rfl (Nat.le_of_ble_eq_true rfl) ⟨(Nat.le_of_ble_eq_true rfl), (Nat.le_of_ble_eq_true rfl)⟩ dX11_note_108 (fun u_16 H locs eu_16 hP hD hS => ?_)
            obtain ⟨o_size_17, g_or_18, g_oa_19, g_op_20⟩ := u_16
            have eu_16 : NRV g_or_18 ∧ NV g_oa_19 ∧ (0 ≤ o_size_17.toInt) ∧ (o_size_17.toInt ≤ 10) := eu_16
            obtain ⟨eu_16a, eu_16b, eu_16c, eu_16d⟩ := eu_16
            have hP : va_P D vwCl [(o, .inr (11, [.ref ta, .ref gr, .ref rr, .ref ru, .int o_rc, .ref nw, .ref im, .ref ac, .ref pl, .ref fc, .ref sd])), (nw, .inr (4, [.ref nwf, .ref nwb, .ref nwn, .int nw_force, .int nw_x, .int nw_made])), (nwf, .inr (1, [.ref nwf_c])), (nwf_c, .inl (cy 0, 63, .inl g_nwf)), (nwb, .inr (1, [.ref nwb_c])), (nwb_c, .inl (cy 0, 63, .inl g_nwb)), (nwn, .inr (5, [.ref nwn_r, .ref nwn_a, .ref nwn_p, .int o_size_17])), (nwn_r, .inl (cy 0, 10, .inl g_or_18)), (nwn_a, .inl (cy 0, 10, .inl g_oa_19)), (nwn_p, .inl (cy 0, 10, .inl g_op_20))] H := hP
            have hD : va_D A [(o, .inr (11, [.ref ta, .ref gr, .ref rr, .ref ru, .int o_rc, .ref nw, .ref im, .ref ac, .ref pl, .ref fc, .ref sd])), (nw, .inr (4, [.ref nwf, .ref nwb, .ref nwn, .int nw_force, .int nw_x, .int nw_made])), (nwf, .inr (1, [.ref nwf_c])), (nwf_c, .inl (cy 0, 63, .inl g_nwf)), (nwb, .inr (1, [.ref nwb_c])), (nwb_c, .inl (cy 0, 63, .inl g_nwb)), (nwn, .inr (5, [.ref nwn_r, .ref nwn_a, .ref nwn_p, .int o_size_17])), (nwn_r, .inl (cy 0, 10, .inl g_or_18)), (nwn_a, .inl (cy 0, 10, .inl g_oa_19)), (nwn_p, .inl (cy 0, 10, .inl g_op_20))] := hD
            refine lv_aload_n hx hb dX11_note_111 rfl (lv_at hl 1 rfl) ?_
            refine va_get (D := D) (ci := 11) (v := .ref nw) (C := RX11) (T := TX11) (N := 11) hx hb hG inG_X11 hown hE.1 hP 0 rfl rfl 5 (by decide) (hG _ q_f_X11_43) (fun _ h9 => h9) rfl dX11_note_112 ?_
            refine va_get (D := D) (ci := 4) (v := .ref nwn) (C := RX4) (T := TX4) (N := 6) hx hb hG inG_X4 hown hE.1 hP 1 rfl rfl 2 (by decide) (hG _ q_f_X11_114) (fun _ h9 => h9) rfl dX11_note_115 ?_
            refine va_get (D := D) (ci := 5) (v := .int o_size_17) (C := RX5) (T := TX5) (N := 4) hx hb hG inG_X5 hown hE.1 hP 6 rfl rfl 3 (by decide) (hG _ q_f_X11_118) (fun _ h9 => h9) rfl dX11_note_118 ?_
            exact KI.rt ⟨o_size_17, g_or_18, g_oa_19, g_op_20⟩ F rfl (hP.sub [0, 1, 2, 3, 4, 5, 6, 7, 8, 9] rfl) (hD.sub [0, 1, 2, 3, 4, 5, 6, 7, 8, 9] (by decide) rfl) hS (show NRV g_or_18 ∧ NV g_oa_19 ∧ (0 ≤ o_rc.toInt) ∧ (o_rc.toInt ≤ 6) ∧ (0 ≤ o_size_17.toInt) ∧ (o_size_17.toInt ≤ 10) from ⟨eu_16a, eu_16b, (by first | omega | assumption), (by first | omega | assumption), (by first | omega | assumption), (by first | omega | assumption)⟩) (Nat.le_of_ble_eq_true rfl) (Nat.le_of_ble_eq_true rfl) dX11_note_121
          · have ic_15 : r_14.toInt ≠ 0 := k_ne c_15 rfl (by decide)
            have fc_15 := er_14b ic_15
            clear er_14b er_14c er_14a
            refine lv_bipush (v := (-2)) hx hb dX11_note_95 (by decide) ?_
            have lit0 : ((-2) : Int32).toInt = (-2) := by decide
            exact KI.rt ⟨nwn_size, g_nwnr, g_nwna, g_nwnp⟩ F rfl (hP.sub [0, 1, 2, 3, 4, 5, 6, 7, 8, 9] rfl) (hD.sub [0, 1, 2, 3, 4, 5, 6, 7, 8, 9] (by decide) rfl) hS (show NRV g_nwnr ∧ NV g_nwna ∧ (0 ≤ o_rc.toInt) ∧ (o_rc.toInt ≤ 6) ∧ (0 ≤ nwn_size.toInt) ∧ (nwn_size.toInt ≤ 10) from ⟨h_g_nwnr, h_g_nwna, (by first | omega | assumption), (by first | omega | assumption), (by first | omega | assumption), (by first | omega | assumption)⟩) (Nat.le_of_ble_eq_true rfl) (Nat.le_of_ble_eq_true rfl) dX11_note_97
    · have ic_7 : r_6.toInt = 0 := k_eq c_7 rfl (by decide)
      have fc_7 := er_6c ic_7
      clear er_6b er_6c er_6a
      refine lv_iload_n hx hb dX11_note_40 rfl (lv_at hl 3 rfl) ?_
      refine lv_bipush (v := 99) hx hb dX11_note_41 (by decide) ?_
      refine lv_icmp_ne (tgt := 50) hx hb dX11_note_43 (by decide) (fun c_21 => ?_) (fun c_21 => ?_)
      · have ic_21 : x2.toInt ≠ 99 := k_ne c_21 rfl (by decide)
        refine lv_iconst (v := 0) hx hb dX11_note_50 (by decide) ?_
        refine lv_istore (lv' := [(4, .int 0), (0, .ref o), (1, .int x0), (2, .int x1), (3, .int x2)]) hx hb dX11_note_51 hl (by decide) rfl (fun ls hl => ?_)
        refine lv_iload_n hx hb dX11_note_53 rfl (lv_at hl 2 rfl) ?_
        refine lv_iconst (v := 0) hx hb dX11_note_54 (by decide) ?_
        refine lv_bipush (v := 40) hx hb dX11_note_55 (by decide) ?_
        have lt32_21 : (0 : Int32).toInt = 0 := by decide
        have lt32_22 : (40 : Int32).toInt = 40 := by decide
        refine kcS (As := [.int x0, .int 0, .int 40]) (rest := []) F hE hP hl.1 (cc_within l D cy (x0 := x0) (x1 := 0) (x2 := 40)) q_m_X11_90 ms_X11_within ⟨(Nat.le_of_ble_eq_true rfl), (Nat.le_of_ble_eq_true rfl)⟩ [] rfl rfl rfl (Nat.le_of_ble_eq_true rfl) ⟨(Nat.le_of_ble_eq_true rfl), (Nat.le_of_ble_eq_true rfl)⟩ dX11_note_57 (fun r_24 er_24 => ?_)
        have er_24 : (r_24.toInt = 0 ∨ r_24.toInt = 1) ∧ ((r_24.toInt ≠ 0 → (0 : Int32).toInt ≤ x0.toInt ∧ x0.toInt ≤ (40 : Int32).toInt)) ∧ ((r_24.toInt = 0 → x0.toInt < (0 : Int32).toInt ∨ (40 : Int32).toInt < x0.toInt)) := er_24
        obtain ⟨er_24a, er_24b, er_24c⟩ := er_24
        refine lv_if_eq (tgt := 95) hx hb dX11_note_60 (by decide) (fun c_25 => ?_) (fun c_25 => ?_)
        · have ic_25 : r_24.toInt = 0 := k_eq c_25 rfl (by decide)
          have fc_25 := er_24c ic_25
          clear er_24b er_24c er_24a
          refine lv_bipush (v := (-2)) hx hb dX11_note_95 (by decide) ?_
          have lit0 : ((-2) : Int32).toInt = (-2) := by decide
          exact KI.rt ⟨nwn_size, g_nwnr, g_nwna, g_nwnp⟩ F rfl (hP.sub [0, 1, 2, 3, 4, 5, 6, 7, 8, 9] rfl) (hD.sub [0, 1, 2, 3, 4, 5, 6, 7, 8, 9] (by decide) rfl) hS (show NRV g_nwnr ∧ NV g_nwna ∧ (0 ≤ o_rc.toInt) ∧ (o_rc.toInt ≤ 6) ∧ (0 ≤ nwn_size.toInt) ∧ (nwn_size.toInt ≤ 10) from ⟨h_g_nwnr, h_g_nwna, (by first | omega | assumption), (by first | omega | assumption), (by first | omega | assumption), (by first | omega | assumption)⟩) (Nat.le_of_ble_eq_true rfl) (Nat.le_of_ble_eq_true rfl) dX11_note_97
        · have ic_25 : r_24.toInt ≠ 0 := k_ne c_25 rfl (by decide)
          have fc_25 := er_24b ic_25
          clear er_24b er_24c er_24a
          obtain ⟨fc_25a, fc_25b⟩ := fc_25
          refine lv_aload_n hx hb dX11_note_63 rfl (lv_at hl 1 rfl) ?_
          refine va_get (D := D) (ci := 11) (v := .ref nw) (C := RX11) (T := TX11) (N := 11) hx hb hG inG_X11 hown hE.1 hP 0 rfl rfl 5 (by decide) (hG _ q_f_X11_43) (fun _ h9 => h9) rfl dX11_note_64 ?_
          refine va_get (D := D) (ci := 4) (v := .ref nwf) (C := RX4) (T := TX4) (N := 6) hx hb hG inG_X4 hown hE.1 hP 1 rfl rfl 0 (by decide) (hG _ q_f_X11_111) (fun _ h9 => h9) rfl dX11_note_67 ?_
          refine lv_iload_n hx hb dX11_note_70 rfl (lv_at hl 3 rfl) ?_
          refine kcV (As := [.int x1]) (rest := []) F hE hP hl.1 (cc_X1_hasArcher l D cy (o := nwf) (x0 := x1) (o_c := nwf_c) (g_o := g_nwf) (h_g_o := h_g_nwf)) q_m_X11_139 mv_X1_hasArcher ⟨(Nat.le_of_ble_eq_true rfl), (Nat.le_of_ble_eq_true rfl)⟩ [2, 3] rfl rfl rfl rfl rfl rfl (Nat.le_of_ble_eq_true rfl) ⟨(Nat.le_of_ble_eq_true rfl), (Nat.le_of_ble_eq_true rfl)⟩ dX11_note_71 (fun r_26 er_26 => ?_)
          have er_26 : (r_26.toInt = 0 ∨ r_26.toInt = 1) ∧ ((r_26.toInt ≠ 0 → 0 ≤ x1.toInt ∧ x1.toInt < (g_nwf 4).toInt)) := er_26
          obtain ⟨er_26a, er_26b⟩ := er_26
          refine lv_if_eq (tgt := 95) hx hb dX11_note_74 (by decide) (fun c_27 => ?_) (fun c_27 => ?_)
          · have ic_27 : r_26.toInt = 0 := k_eq c_27 rfl (by decide)
            clear er_26b er_26a
            refine lv_bipush (v := (-2)) hx hb dX11_note_95 (by decide) ?_
            have lit0 : ((-2) : Int32).toInt = (-2) := by decide
            exact KI.rt ⟨nwn_size, g_nwnr, g_nwna, g_nwnp⟩ F rfl (hP.sub [0, 1, 2, 3, 4, 5, 6, 7, 8, 9] rfl) (hD.sub [0, 1, 2, 3, 4, 5, 6, 7, 8, 9] (by decide) rfl) hS (show NRV g_nwnr ∧ NV g_nwna ∧ (0 ≤ o_rc.toInt) ∧ (o_rc.toInt ≤ 6) ∧ (0 ≤ nwn_size.toInt) ∧ (nwn_size.toInt ≤ 10) from ⟨h_g_nwnr, h_g_nwna, (by first | omega | assumption), (by first | omega | assumption), (by first | omega | assumption), (by first | omega | assumption)⟩) (Nat.le_of_ble_eq_true rfl) (Nat.le_of_ble_eq_true rfl) dX11_note_97
          · have ic_27 : r_26.toInt ≠ 0 := k_ne c_27 rfl (by decide)
            have fc_27 := er_26b ic_27
            clear er_26b er_26a
            obtain ⟨fc_27a, fc_27b⟩ := fc_27
            refine lv_iload hx hb dX11_note_77 (lv_at hl 0 rfl) ?_
            refine lv_if_eq (tgt := 95) hx hb dX11_note_79 (by decide) (fun _ => ?_) (fun q => absurd q (by decide))
            refine lv_bipush (v := (-2)) hx hb dX11_note_95 (by decide) ?_
            have lit0 : ((-2) : Int32).toInt = (-2) := by decide
            exact KI.rt ⟨nwn_size, g_nwnr, g_nwna, g_nwnp⟩ F rfl (hP.sub [0, 1, 2, 3, 4, 5, 6, 7, 8, 9] rfl) (hD.sub [0, 1, 2, 3, 4, 5, 6, 7, 8, 9] (by decide) rfl) hS (show NRV g_nwnr ∧ NV g_nwna ∧ (0 ≤ o_rc.toInt) ∧ (o_rc.toInt ≤ 6) ∧ (0 ≤ nwn_size.toInt) ∧ (nwn_size.toInt ≤ 10) from ⟨h_g_nwnr, h_g_nwna, (by first | omega | assumption), (by first | omega | assumption), (by first | omega | assumption), (by first | omega | assumption)⟩) (Nat.le_of_ble_eq_true rfl) (Nat.le_of_ble_eq_true rfl) dX11_note_97
      · have ic_21 : x2.toInt = 99 := k_eq c_21 rfl (by decide)
        refine lv_iconst (v := 1) hx hb dX11_note_46 (by decide) ?_
        refine lv_goto (tgt := 51) hx hb dX11_note_47 (by decide) ?_
        refine lv_istore (lv' := [(4, .int 1), (0, .ref o), (1, .int x0), (2, .int x1), (3, .int x2)]) hx hb dX11_note_51 hl (by decide) rfl (fun ls hl => ?_)
        refine lv_iload_n hx hb dX11_note_53 rfl (lv_at hl 2 rfl) ?_
        refine lv_iconst (v := 0) hx hb dX11_note_54 (by decide) ?_
        refine lv_bipush (v := 40) hx hb dX11_note_55 (by decide) ?_
        have lt32_27 : (0 : Int32).toInt = 0 := by decide
        have lt32_28 : (40 : Int32).toInt = 40 := by decide
        refine kcS (As := [.int x0, .int 0, .int 40]) (rest := []) F hE hP hl.1 (cc_within l D cy (x0 := x0) (x1 := 0) (x2 := 40)) q_m_X11_90 ms_X11_within ⟨(Nat.le_of_ble_eq_true rfl), (Nat.le_of_ble_eq_true rfl)⟩ [] rfl rfl rfl (Nat.le_of_ble_eq_true rfl) ⟨(Nat.le_of_ble_eq_true rfl), (Nat.le_of_ble_eq_true rfl)⟩ dX11_note_57 (fun r_30 er_30 => ?_)
        have er_30 : (r_30.toInt = 0 ∨ r_30.toInt = 1) ∧ ((r_30.toInt ≠ 0 → (0 : Int32).toInt ≤ x0.toInt ∧ x0.toInt ≤ (40 : Int32).toInt)) ∧ ((r_30.toInt = 0 → x0.toInt < (0 : Int32).toInt ∨ (40 : Int32).toInt < x0.toInt)) := er_30
        obtain ⟨er_30a, er_30b, er_30c⟩ := er_30
        refine lv_if_eq (tgt := 95) hx hb dX11_note_60 (by decide) (fun c_31 => ?_) (fun c_31 => ?_)
        · have ic_31 : r_30.toInt = 0 := k_eq c_31 rfl (by decide)
          have fc_31 := er_30c ic_31
          clear er_30b er_30c er_30a
          refine lv_bipush (v := (-2)) hx hb dX11_note_95 (by decide) ?_
          have lit0 : ((-2) : Int32).toInt = (-2) := by decide
          exact KI.rt ⟨nwn_size, g_nwnr, g_nwna, g_nwnp⟩ F rfl (hP.sub [0, 1, 2, 3, 4, 5, 6, 7, 8, 9] rfl) (hD.sub [0, 1, 2, 3, 4, 5, 6, 7, 8, 9] (by decide) rfl) hS (show NRV g_nwnr ∧ NV g_nwna ∧ (0 ≤ o_rc.toInt) ∧ (o_rc.toInt ≤ 6) ∧ (0 ≤ nwn_size.toInt) ∧ (nwn_size.toInt ≤ 10) from ⟨h_g_nwnr, h_g_nwna, (by first | omega | assumption), (by first | omega | assumption), (by first | omega | assumption), (by first | omega | assumption)⟩) (Nat.le_of_ble_eq_true rfl) (Nat.le_of_ble_eq_true rfl) dX11_note_97
        · have ic_31 : r_30.toInt ≠ 0 := k_ne c_31 rfl (by decide)
          have fc_31 := er_30b ic_31
          clear er_30b er_30c er_30a
          obtain ⟨fc_31a, fc_31b⟩ := fc_31
          refine lv_aload_n hx hb dX11_note_63 rfl (lv_at hl 1 rfl) ?_
          refine va_get (D := D) (ci := 11) (v := .ref nw) (C := RX11) (T := TX11) (N := 11) hx hb hG inG_X11 hown hE.1 hP 0 rfl rfl 5 (by decide) (hG _ q_f_X11_43) (fun _ h9 => h9) rfl dX11_note_64 ?_
          refine va_get (D := D) (ci := 4) (v := .ref nwf) (C := RX4) (T := TX4) (N := 6) hx hb hG inG_X4 hown hE.1 hP 1 rfl rfl 0 (by decide) (hG _ q_f_X11_111) (fun _ h9 => h9) rfl dX11_note_67 ?_
          refine lv_iload_n hx hb dX11_note_70 rfl (lv_at hl 3 rfl) ?_
          refine kcV (As := [.int x1]) (rest := []) F hE hP hl.1 (cc_X1_hasArcher l D cy (o := nwf) (x0 := x1) (o_c := nwf_c) (g_o := g_nwf) (h_g_o := h_g_nwf)) q_m_X11_139 mv_X1_hasArcher ⟨(Nat.le_of_ble_eq_true rfl), (Nat.le_of_ble_eq_true rfl)⟩ [2, 3] rfl rfl rfl rfl rfl rfl (Nat.le_of_ble_eq_true rfl) ⟨(Nat.le_of_ble_eq_true rfl), (Nat.le_of_ble_eq_true rfl)⟩ dX11_note_71 (fun r_32 er_32 => ?_)
          have er_32 : (r_32.toInt = 0 ∨ r_32.toInt = 1) ∧ ((r_32.toInt ≠ 0 → 0 ≤ x1.toInt ∧ x1.toInt < (g_nwf 4).toInt)) := er_32
          obtain ⟨er_32a, er_32b⟩ := er_32
          refine lv_if_eq (tgt := 95) hx hb dX11_note_74 (by decide) (fun c_33 => ?_) (fun c_33 => ?_)
          · have ic_33 : r_32.toInt = 0 := k_eq c_33 rfl (by decide)
            clear er_32b er_32a
            refine lv_bipush (v := (-2)) hx hb dX11_note_95 (by decide) ?_
            have lit0 : ((-2) : Int32).toInt = (-2) := by decide
            exact KI.rt ⟨nwn_size, g_nwnr, g_nwna, g_nwnp⟩ F rfl (hP.sub [0, 1, 2, 3, 4, 5, 6, 7, 8, 9] rfl) (hD.sub [0, 1, 2, 3, 4, 5, 6, 7, 8, 9] (by decide) rfl) hS (show NRV g_nwnr ∧ NV g_nwna ∧ (0 ≤ o_rc.toInt) ∧ (o_rc.toInt ≤ 6) ∧ (0 ≤ nwn_size.toInt) ∧ (nwn_size.toInt ≤ 10) from ⟨h_g_nwnr, h_g_nwna, (by first | omega | assumption), (by first | omega | assumption), (by first | omega | assumption), (by first | omega | assumption)⟩) (Nat.le_of_ble_eq_true rfl) (Nat.le_of_ble_eq_true rfl) dX11_note_97
          · have ic_33 : r_32.toInt ≠ 0 := k_ne c_33 rfl (by decide)
            have fc_33 := er_32b ic_33
            clear er_32b er_32a
            obtain ⟨fc_33a, fc_33b⟩ := fc_33
            refine lv_iload hx hb dX11_note_77 (lv_at hl 0 rfl) ?_
            refine lv_if_eq (tgt := 95) hx hb dX11_note_79 (by decide) (fun q => absurd q (by decide)) (fun _ => ?_)
            refine lv_aload_n hx hb dX11_note_82 rfl (lv_at hl 1 rfl) ?_
            refine va_get (D := D) (ci := 11) (v := .ref nw) (C := RX11) (T := TX11) (N := 11) hx hb hG inG_X11 hown hE.1 hP 0 rfl rfl 5 (by decide) (hG _ q_f_X11_43) (fun _ h9 => h9) rfl dX11_note_83 ?_
            refine va_get (D := D) (ci := 4) (v := .ref nwn) (C := RX4) (T := TX4) (N := 6) hx hb hG inG_X4 hown hE.1 hP 1 rfl rfl 2 (by decide) (hG _ q_f_X11_114) (fun _ h9 => h9) rfl dX11_note_86 ?_
            refine kcV (As := []) (rest := []) F hE hP hl.1 (cc_X5_isFull l D cy (o := nwn) (o_r := nwn_r) (o_a := nwn_a) (o_p := nwn_p) (o_size := nwn_size) (g_or := g_nwnr) (g_oa := g_nwna) (g_op := g_nwnp) (h_g_or := h_g_nwnr) (h_g_oa := h_g_nwna)) q_m_X11_232 mv_X5_isFull ⟨(Nat.le_of_ble_eq_true rfl), (Nat.le_of_ble_eq_true rfl)⟩ [6, 7, 8, 9] rfl rfl rfl rfl rfl rfl (Nat.le_of_ble_eq_true rfl) ⟨(Nat.le_of_ble_eq_true rfl), (Nat.le_of_ble_eq_true rfl)⟩ dX11_note_89 (fun r_34 er_34 => ?_)
            have er_34 : (r_34.toInt = 0 ∨ r_34.toInt = 1) ∧ ((r_34.toInt ≠ 0 → 10 ≤ nwn_size.toInt)) ∧ ((r_34.toInt = 0 → nwn_size.toInt < 10)) := er_34
            obtain ⟨er_34a, er_34b, er_34c⟩ := er_34
            refine lv_if_eq (tgt := 98) hx hb dX11_note_92 (by decide) (fun c_35 => ?_) (fun c_35 => ?_)
            · have ic_35 : r_34.toInt = 0 := k_eq c_35 rfl (by decide)
              have fc_35 := er_34c ic_35
              clear er_34b er_34c er_34a
              refine lv_aload_n hx hb dX11_note_98 rfl (lv_at hl 1 rfl) ?_
              refine va_get (D := D) (ci := 11) (v := .ref nw) (C := RX11) (T := TX11) (N := 11) hx hb hG inG_X11 hown hE.1 hP 0 rfl rfl 5 (by decide) (hG _ q_f_X11_43) (fun _ h9 => h9) rfl dX11_note_99 ?_
              refine va_get (D := D) (ci := 4) (v := .ref nwn) (C := RX4) (T := TX4) (N := 6) hx hb hG inG_X4 hown hE.1 hP 1 rfl rfl 2 (by decide) (hG _ q_f_X11_114) (fun _ h9 => h9) rfl dX11_note_102 ?_
              refine lv_iload_n hx hb dX11_note_105 rfl (lv_at hl 2 rfl) ?_
              refine lv_iload_n hx hb dX11_note_106 rfl (lv_at hl 3 rfl) ?_
              refine lv_iload_n hx hb dX11_note_107 rfl (lv_at hl 4 rfl) ?_
              refine kwVV (wr := [(o, .inr (11, [.ref ta, .ref gr, .ref rr, .ref ru, .int o_rc, .ref nw, .ref im, .ref ac, .ref pl, .ref fc, .ref sd])), (nw, .inr (4, [.ref nwf, .ref nwb, .ref nwn, .int nw_force, .int nw_x, .int nw_made])), (nwf, .inr (1, [.ref nwf_c])), (nwf_c, .inl (cy 0, 63, .inl g_nwf)), (nwb, .inr (1, [.ref nwb_c])), (nwb_c, .inl (cy 0, 63, .inl g_nwb))]) (As := [.int x0, .int x1, .int x2]) (rest := []) F hE hP hD hS hA hl.1 (cc_X5_add l D cy (o := nwn) (x0 := x0) (x1 := x1) (x2 := x2) (o_r := nwn_r) (o_a := nwn_a) (o_p := nwn_p) (o_size := nwn_size) (g_or := g_nwnr) (g_oa := g_nwna) (g_op := g_nwnp) (h_g_or := h_g_nwnr) (h_g_oa := h_g_nwna) (p0 := (by first | omega | assumption)) (p1 := (by first | omega | assumption)) (p2 := (by first | omega | assumption)) (p3 := (by first | omega | assumption)) (p4 := (by first | omega | assumption))) q_m_X11_235 mv_X5_add ⟨(Nat.le_of_ble_eq_true rfl), (Nat.le_of_ble_eq_true rfl)⟩ [6, 7, 8, 9] [0, 1, 2, 3, 4, 5] (by decide) rfl rfl (by decide) (by decide) rfl rfl rfl rfl rfl (Nat.le_of_ble_eq_true rfl) ⟨(Nat.le_of_ble_eq_true rfl), (Nat.le_of_ble_eq_true rfl)⟩ dX11_note_108 (fun u_36 H locs eu_36 hP hD hS => ?_)
              obtain ⟨o_size_37, g_or_38, g_oa_39, g_op_40⟩ := u_36
              have eu_36 : NRV g_or_38 ∧ NV g_oa_39 ∧ (0 ≤ o_size_37.toInt) ∧ (o_size_37.toInt ≤ 10) := eu_36
              obtain ⟨eu_36a, eu_36b, eu_36c, eu_36d⟩ := eu_36
              have hP : va_P D vwCl [(o, .inr (11, [.ref ta, .ref gr, .ref rr, .ref ru, .int o_rc, .ref nw, .ref im, .ref ac, .ref pl, .ref fc, .ref sd])), (nw, .inr (4, [.ref nwf, .ref nwb, .ref nwn, .int nw_force, .int nw_x, .int nw_made])), (nwf, .inr (1, [.ref nwf_c])), (nwf_c, .inl (cy 0, 63, .inl g_nwf)), (nwb, .inr (1, [.ref nwb_c])), (nwb_c, .inl (cy 0, 63, .inl g_nwb)), (nwn, .inr (5, [.ref nwn_r, .ref nwn_a, .ref nwn_p, .int o_size_37])), (nwn_r, .inl (cy 0, 10, .inl g_or_38)), (nwn_a, .inl (cy 0, 10, .inl g_oa_39)), (nwn_p, .inl (cy 0, 10, .inl g_op_40))] H := hP
              have hD : va_D A [(o, .inr (11, [.ref ta, .ref gr, .ref rr, .ref ru, .int o_rc, .ref nw, .ref im, .ref ac, .ref pl, .ref fc, .ref sd])), (nw, .inr (4, [.ref nwf, .ref nwb, .ref nwn, .int nw_force, .int nw_x, .int nw_made])), (nwf, .inr (1, [.ref nwf_c])), (nwf_c, .inl (cy 0, 63, .inl g_nwf)), (nwb, .inr (1, [.ref nwb_c])), (nwb_c, .inl (cy 0, 63, .inl g_nwb)), (nwn, .inr (5, [.ref nwn_r, .ref nwn_a, .ref nwn_p, .int o_size_37])), (nwn_r, .inl (cy 0, 10, .inl g_or_38)), (nwn_a, .inl (cy 0, 10, .inl g_oa_39)), (nwn_p, .inl (cy 0, 10, .inl g_op_40))] := hD
              refine lv_aload_n hx hb dX11_note_111 rfl (lv_at hl 1 rfl) ?_
              refine va_get (D := D) (ci := 11) (v := .ref nw) (C := RX11) (T := TX11) (N := 11) hx hb hG inG_X11 hown hE.1 hP 0 rfl rfl 5 (by decide) (hG _ q_f_X11_43) (fun _ h9 => h9) rfl dX11_note_112 ?_
              refine va_get (D := D) (ci := 4) (v := .ref nwn) (C := RX4) (T := TX4) (N := 6) hx hb hG inG_X4 hown hE.1 hP 1 rfl rfl 2 (by decide) (hG _ q_f_X11_114) (fun _ h9 => h9) rfl dX11_note_115 ?_
              refine va_get (D := D) (ci := 5) (v := .int o_size_37) (C := RX5) (T := TX5) (N := 4) hx hb hG inG_X5 hown hE.1 hP 6 rfl rfl 3 (by decide) (hG _ q_f_X11_118) (fun _ h9 => h9) rfl dX11_note_118 ?_
              exact KI.rt ⟨o_size_37, g_or_38, g_oa_39, g_op_40⟩ F rfl (hP.sub [0, 1, 2, 3, 4, 5, 6, 7, 8, 9] rfl) (hD.sub [0, 1, 2, 3, 4, 5, 6, 7, 8, 9] (by decide) rfl) hS (show NRV g_or_38 ∧ NV g_oa_39 ∧ (0 ≤ o_rc.toInt) ∧ (o_rc.toInt ≤ 6) ∧ (0 ≤ o_size_37.toInt) ∧ (o_size_37.toInt ≤ 10) from ⟨eu_36a, eu_36b, (by first | omega | assumption), (by first | omega | assumption), (by first | omega | assumption), (by first | omega | assumption)⟩) (Nat.le_of_ble_eq_true rfl) (Nat.le_of_ble_eq_true rfl) dX11_note_121
            · have ic_35 : r_34.toInt ≠ 0 := k_ne c_35 rfl (by decide)
              have fc_35 := er_34b ic_35
              clear er_34b er_34c er_34a
              refine lv_bipush (v := (-2)) hx hb dX11_note_95 (by decide) ?_
              have lit0 : ((-2) : Int32).toInt = (-2) := by decide
              exact KI.rt ⟨nwn_size, g_nwnr, g_nwna, g_nwnp⟩ F rfl (hP.sub [0, 1, 2, 3, 4, 5, 6, 7, 8, 9] rfl) (hD.sub [0, 1, 2, 3, 4, 5, 6, 7, 8, 9] (by decide) rfl) hS (show NRV g_nwnr ∧ NV g_nwna ∧ (0 ≤ o_rc.toInt) ∧ (o_rc.toInt ≤ 6) ∧ (0 ≤ nwn_size.toInt) ∧ (nwn_size.toInt ≤ 10) from ⟨h_g_nwnr, h_g_nwna, (by first | omega | assumption), (by first | omega | assumption), (by first | omega | assumption), (by first | omega | assumption)⟩) (Nat.le_of_ble_eq_true rfl) (Nat.le_of_ble_eq_true rfl) dX11_note_97
  · have ic_3 : x0.toInt = (-1) := k_eq c_3 rfl (by decide)
    refine lv_aload_n hx hb dX11_note_5 rfl (lv_at hl 0 rfl) ?_
    refine va_get (D := D) (ci := 11) (v := .ref nw) (C := RX11) (T := TX11) (N := 11) hx hb hG inG_X11 hown hE.1 hP 0 rfl rfl 5 (by decide) (hG _ q_f_X11_43) (fun _ h9 => h9) rfl dX11_note_6 ?_
    refine va_get (D := D) (ci := 4) (v := .ref nwn) (C := RX4) (T := TX4) (N := 6) hx hb hG inG_X4 hown hE.1 hP 1 rfl rfl 2 (by decide) (hG _ q_f_X11_114) (fun _ h9 => h9) rfl dX11_note_9 ?_
    refine lv_iconst (v := 0) hx hb dX11_note_12 (by decide) ?_
    refine va_put (D := D) (ci := 5) (v := .int 0) (ty := .int) (C := RX5) (T := TX5) (N := 4) hx hb hG inG_X5 tyX5 tyX5_ok nmX5 hown hE.1 hP hD hS 6 rfl rfl 3 (by decide) (hG _ q_f_X11_118) (fun _ h9 => h9) rfl (by decide +kernel) rfl rfl (Nat.le_of_ble_eq_true rfl) dX11_note_13 (fun H locs hP hD hS => ?_)
    have hP : va_P D vwCl [(o, .inr (11, [.ref ta, .ref gr, .ref rr, .ref ru, .int o_rc, .ref nw, .ref im, .ref ac, .ref pl, .ref fc, .ref sd])), (nw, .inr (4, [.ref nwf, .ref nwb, .ref nwn, .int nw_force, .int nw_x, .int nw_made])), (nwf, .inr (1, [.ref nwf_c])), (nwf_c, .inl (cy 0, 63, .inl g_nwf)), (nwb, .inr (1, [.ref nwb_c])), (nwb_c, .inl (cy 0, 63, .inl g_nwb)), (nwn, .inr (5, [.ref nwn_r, .ref nwn_a, .ref nwn_p, .int 0])), (nwn_r, .inl (cy 0, 10, .inl g_nwnr)), (nwn_a, .inl (cy 0, 10, .inl g_nwna)), (nwn_p, .inl (cy 0, 10, .inl g_nwnp))] H := hP
    have hD : va_D A [(o, .inr (11, [.ref ta, .ref gr, .ref rr, .ref ru, .int o_rc, .ref nw, .ref im, .ref ac, .ref pl, .ref fc, .ref sd])), (nw, .inr (4, [.ref nwf, .ref nwb, .ref nwn, .int nw_force, .int nw_x, .int nw_made])), (nwf, .inr (1, [.ref nwf_c])), (nwf_c, .inl (cy 0, 63, .inl g_nwf)), (nwb, .inr (1, [.ref nwb_c])), (nwb_c, .inl (cy 0, 63, .inl g_nwb)), (nwn, .inr (5, [.ref nwn_r, .ref nwn_a, .ref nwn_p, .int 0])), (nwn_r, .inl (cy 0, 10, .inl g_nwnr)), (nwn_a, .inl (cy 0, 10, .inl g_nwna)), (nwn_p, .inl (cy 0, 10, .inl g_nwnp))] := hD
    refine lv_iconst (v := 0) hx hb dX11_note_16 (by decide) ?_
    have lit0 : (0 : Int32).toInt = 0 := by decide
    have litnwn_size : (0 : Int32).toInt = 0 := by decide
    exact KI.rt ⟨0, g_nwnr, g_nwna, g_nwnp⟩ F rfl (hP.sub [0, 1, 2, 3, 4, 5, 6, 7, 8, 9] rfl) (hD.sub [0, 1, 2, 3, 4, 5, 6, 7, 8, 9] (by decide) rfl) hS (show NRV g_nwnr ∧ NV g_nwna ∧ (0 ≤ o_rc.toInt) ∧ (o_rc.toInt ≤ 6) ∧ (0 ≤ (0 : Int32).toInt) ∧ ((0 : Int32).toInt ≤ 10) from ⟨h_g_nwnr, h_g_nwna, (by first | omega | assumption), (by first | omega | assumption), (by first | omega | assumption), (by first | omega | assumption)⟩) (Nat.le_of_ble_eq_true rfl) (Nat.le_of_ble_eq_true rfl) dX11_note_17

set_option maxHeartbeats 4000000 in
set_option maxRecDepth 100000 in
theorem cc_X11_seed (l : Launch) (D : va_G) (cy : Nat → ClassId) (o : Nat) (ta : Nat) (gr : Nat) (rr : Nat) (ru : Nat) (nw : Nat) (im : Nat) (ac : Nat) (pl : Nat) (fc : Nat) (sd : Nat) (o_rc : Int32) (nwf : Nat) (nwf_c : Nat) (g_nwf : Nat → Int32) (nwb : Nat) (nwb_c : Nat) (g_nwb : Nat → Int32) (nwn : Nat) (nwn_r : Nat) (nwn_a : Nat) (nwn_p : Nat) (nwn_size : Int32) (g_nwnr : Nat → Int32) (g_nwna : Nat → Int32) (g_nwnp : Nat → Int32) (nw_force : Int32) (nw_x : Int32) (nw_made : Int32) (x0 : Int32) (h_g_nwf : FV g_nwf) (h_g_nwb : FV g_nwb) (h_g_nwnr : NRV g_nwnr) (h_g_nwna : NV g_nwna) (p0 : 0 ≤ o_rc.toInt) (p1 : o_rc.toInt ≤ 6) (p2 : 0 ≤ nwn_size.toInt) (p3 : nwn_size.toInt ≤ 10) : KI l yX11_seed cX11_seed 3 (some .int) 0 0 D (kTY cy) [.ref o, .int x0] [(o, .inr (11, [.ref ta, .ref gr, .ref rr, .ref ru, .int o_rc, .ref nw, .ref im, .ref ac, .ref pl, .ref fc, .ref sd])), (nw, .inr (4, [.ref nwf, .ref nwb, .ref nwn, .int nw_force, .int nw_x, .int nw_made])), (nwf, .inr (1, [.ref nwf_c])), (nwf_c, .inl (cy 0, 63, .inl g_nwf)), (nwb, .inr (1, [.ref nwb_c])), (nwb_c, .inl (cy 0, 63, .inl g_nwb)), (nwn, .inr (5, [.ref nwn_r, .ref nwn_a, .ref nwn_p, .int nwn_size])), (nwn_r, .inl (cy 0, 10, .inl g_nwnr)), (nwn_a, .inl (cy 0, 10, .inl g_nwna)), (nwn_p, .inl (cy 0, 10, .inl g_nwnp))] (S := Int32) (fun r u => (0 ≤ o_rc.toInt) ∧ (o_rc.toInt ≤ 6) ∧ (0 ≤ nwn_size.toInt) ∧ (nwn_size.toInt ≤ 10) ∧ ((x0.toInt < 0 ∧ r = -1 ∧ u = nw_x) ∨ (0 ≤ x0.toInt ∧ r = nw_x ∧ u = x0))) (fun u => [(o, .inr (11, [.ref ta, .ref gr, .ref rr, .ref ru, .int o_rc, .ref nw, .ref im, .ref ac, .ref pl, .ref fc, .ref sd])), (nw, .inr (4, [.ref nwf, .ref nwb, .ref nwn, .int nw_force, .int u, .int nw_made])), (nwf, .inr (1, [.ref nwf_c])), (nwf_c, .inl (cy 0, 63, .inl g_nwf)), (nwb, .inr (1, [.ref nwb_c])), (nwb_c, .inl (cy 0, 63, .inl g_nwb)), (nwn, .inr (5, [.ref nwn_r, .ref nwn_a, .ref nwn_p, .int nwn_size])), (nwn_r, .inl (cy 0, 10, .inl g_nwnr)), (nwn_a, .inl (cy 0, 10, .inl g_nwna)), (nwn_p, .inl (cy 0, 10, .inl g_nwnp))]) 0 0 := by
  refine KI.of (by decide) (Nat.le_of_ble_eq_true rfl) (fun p e s m below meth c ls A F hE hP hD hA hS hl => ?_)
  have F : kF p s m meth c cX11_seed 3 (some .int) _ RX11 := F
  obtain ⟨hx, hb, hr, hml, hown, hG, hlk⟩ := id F
  have hl : lv_has ls 3 [(0, .ref o), (1, .int x0)] := hl
  obtain ⟨⟨b_1a, b_1b⟩, ⟨b_1c, b_1d⟩, ⟨b_1e, b_1f⟩⟩ := FV.bounds h_g_nwf
  obtain ⟨⟨b_2a, b_2b⟩, ⟨b_2c, b_2d⟩, ⟨b_2e, b_2f⟩⟩ := FV.bounds h_g_nwb
  refine lv_iload_n hx hb dX11_seed_0 rfl (lv_at hl 1 rfl) ?_
  refine lv_if_ge (tgt := 6) hx hb dX11_seed_1 (by decide) (fun c_3 => ?_) (fun c_3 => ?_)
  · have ic_3 : 0 ≤ x0.toInt := k_le c_3 (by decide) rfl
    refine lv_aload_n hx hb dX11_seed_6 rfl (lv_at hl 0 rfl) ?_
    refine va_get (D := D) (ci := 11) (v := .ref nw) (C := RX11) (T := TX11) (N := 11) hx hb hG inG_X11 hown hE.1 hP 0 rfl rfl 5 (by decide) (hG _ q_f_X11_43) (fun _ h9 => h9) rfl dX11_seed_7 ?_
    refine va_get (D := D) (ci := 4) (v := .int nw_x) (C := RX4) (T := TX4) (N := 6) hx hb hG inG_X4 hown hE.1 hP 1 rfl rfl 4 (by decide) (hG _ q_f_X11_149) (fun _ h9 => h9) rfl dX11_seed_10 ?_
    refine lv_istore_n (lv' := [(2, .int nw_x), (0, .ref o), (1, .int x0)]) hx hb dX11_seed_13 rfl hl (by decide) rfl (fun ls hl => ?_)
    refine lv_aload_n hx hb dX11_seed_14 rfl (lv_at hl 1 rfl) ?_
    refine va_get (D := D) (ci := 11) (v := .ref nw) (C := RX11) (T := TX11) (N := 11) hx hb hG inG_X11 hown hE.1 hP 0 rfl rfl 5 (by decide) (hG _ q_f_X11_43) (fun _ h9 => h9) rfl dX11_seed_15 ?_
    refine lv_iload_n hx hb dX11_seed_18 rfl (lv_at hl 2 rfl) ?_
    refine va_put (D := D) (ci := 4) (v := .int x0) (ty := .int) (C := RX4) (T := TX4) (N := 6) hx hb hG inG_X4 tyX4 tyX4_ok nmX4 hown hE.1 hP hD hS 1 rfl rfl 4 (by decide) (hG _ q_f_X11_149) (fun _ h9 => h9) rfl (by decide +kernel) rfl rfl (Nat.le_of_ble_eq_true rfl) dX11_seed_19 (fun H locs hP hD hS => ?_)
    have hP : va_P D vwCl [(o, .inr (11, [.ref ta, .ref gr, .ref rr, .ref ru, .int o_rc, .ref nw, .ref im, .ref ac, .ref pl, .ref fc, .ref sd])), (nw, .inr (4, [.ref nwf, .ref nwb, .ref nwn, .int nw_force, .int x0, .int nw_made])), (nwf, .inr (1, [.ref nwf_c])), (nwf_c, .inl (cy 0, 63, .inl g_nwf)), (nwb, .inr (1, [.ref nwb_c])), (nwb_c, .inl (cy 0, 63, .inl g_nwb)), (nwn, .inr (5, [.ref nwn_r, .ref nwn_a, .ref nwn_p, .int nwn_size])), (nwn_r, .inl (cy 0, 10, .inl g_nwnr)), (nwn_a, .inl (cy 0, 10, .inl g_nwna)), (nwn_p, .inl (cy 0, 10, .inl g_nwnp))] H := hP
    have hD : va_D A [(o, .inr (11, [.ref ta, .ref gr, .ref rr, .ref ru, .int o_rc, .ref nw, .ref im, .ref ac, .ref pl, .ref fc, .ref sd])), (nw, .inr (4, [.ref nwf, .ref nwb, .ref nwn, .int nw_force, .int x0, .int nw_made])), (nwf, .inr (1, [.ref nwf_c])), (nwf_c, .inl (cy 0, 63, .inl g_nwf)), (nwb, .inr (1, [.ref nwb_c])), (nwb_c, .inl (cy 0, 63, .inl g_nwb)), (nwn, .inr (5, [.ref nwn_r, .ref nwn_a, .ref nwn_p, .int nwn_size])), (nwn_r, .inl (cy 0, 10, .inl g_nwnr)), (nwn_a, .inl (cy 0, 10, .inl g_nwna)), (nwn_p, .inl (cy 0, 10, .inl g_nwnp))] := hD
    refine lv_iload_n hx hb dX11_seed_22 rfl (lv_at hl 0 rfl) ?_
    exact KI.rt x0 F rfl (hP.sub [0, 1, 2, 3, 4, 5, 6, 7, 8, 9] rfl) (hD.sub [0, 1, 2, 3, 4, 5, 6, 7, 8, 9] (by decide) rfl) hS (show (0 ≤ o_rc.toInt) ∧ (o_rc.toInt ≤ 6) ∧ (0 ≤ nwn_size.toInt) ∧ (nwn_size.toInt ≤ 10) ∧ ((x0.toInt < 0 ∧ nw_x = -1 ∧ x0 = nw_x) ∨ (0 ≤ x0.toInt ∧ nw_x = nw_x ∧ x0 = x0)) from ⟨(by first | omega | assumption), (by first | omega | assumption), (by first | omega | assumption), (by first | omega | assumption), (by first | exact Or.inl ⟨by omega, rfl, rfl⟩ | exact Or.inr ⟨by omega, rfl, rfl⟩)⟩) (Nat.le_of_ble_eq_true rfl) (Nat.le_of_ble_eq_true rfl) dX11_seed_23
  · have ic_3 : x0.toInt < 0 := k_nle c_3 (by decide) rfl
    refine lv_iconst (v := (-1)) hx hb dX11_seed_4 (by decide) ?_
    have lit0 : ((-1) : Int32).toInt = (-1) := by decide
    exact KI.rt nw_x F rfl (hP.sub [0, 1, 2, 3, 4, 5, 6, 7, 8, 9] rfl) (hD.sub [0, 1, 2, 3, 4, 5, 6, 7, 8, 9] (by decide) rfl) hS (show (0 ≤ o_rc.toInt) ∧ (o_rc.toInt ≤ 6) ∧ (0 ≤ nwn_size.toInt) ∧ (nwn_size.toInt ≤ 10) ∧ ((x0.toInt < 0 ∧ (-1) = -1 ∧ nw_x = nw_x) ∨ (0 ≤ x0.toInt ∧ (-1) = nw_x ∧ nw_x = x0)) from ⟨(by first | omega | assumption), (by first | omega | assumption), (by first | omega | assumption), (by first | omega | assumption), (by first | exact Or.inl ⟨by omega, rfl, rfl⟩ | exact Or.inr ⟨by omega, rfl, rfl⟩)⟩) (Nat.le_of_ble_eq_true rfl) (Nat.le_of_ble_eq_true rfl) dX11_seed_5
