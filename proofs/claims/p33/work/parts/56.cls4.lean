set_option maxHeartbeats 4000000 in
set_option maxRecDepth 100000 in
theorem cc_areWell (l : Launch) (D : va_G) (cy : Nat → ClassId) (q : Nat) (q_c : Nat) (g_q : Nat → Int32) (x0 : Int32) (x1 : Int32) (h_g_q : FV g_q) (p0 : 0 ≤ x0.toInt) (p1 : x1.toInt ≤ 4) (p2 : x0.toInt ≤ 5) : KP l yX2_areWell cX2_areWell 4 (some .boolean) 0 0 D (kTY cy) [.ref q, .int x0, .int x1] [(q, .inr (1, [.ref q_c])), (q_c, .inl (cy 0, 63, .inl g_q))] (fun r => (r.toInt = 0 ∨ r.toInt = 1)) := by
  refine KP.of (by decide) (Nat.le_of_ble_eq_true rfl) (fun p e s m below meth c ls F hE hP hl => ?_)
  have F : kF p s m meth c cX2_areWell 4 (some .boolean) _ RX2 := F
  obtain ⟨hx, hb, hr, hml, hown, hG, hlk⟩ := id F
  have hl : lv_has ls 4 [(0, .ref q), (1, .int x0), (2, .int x1)] := hl
  obtain ⟨⟨b_1a, b_1b⟩, ⟨b_1c, b_1d⟩, ⟨b_1e, b_1f⟩⟩ := FV.bounds h_g_q
  refine lv_iload_n hx hb dX2_areWell_0 rfl (lv_at hl 1 rfl) ?_
  refine lv_istore_n (lv' := [(3, .int x0), (0, .ref q), (1, .int x0), (2, .int x1)]) hx hb dX2_areWell_1 rfl hl (by decide) rfl (fun ls hl => ?_)
  have lp2 : ∀ (fu : Nat) (v3_2 : Int32) (ls : Array Slot), (0 ≤ v3_2.toInt) → (v3_2.toInt ≤ 5) → 5 - v3_2.toInt < (fu : Int) → lv_has ls 4 [(3, .int v3_2), (0, .ref q), (1, .int x0), (2, .int x1)] → W p l e (kR 0 0) s m ([.ref q, .int x0, .int x1] : List Value).toArray below meth c s.heap [] 0 0 (MQ below (kQ (fun r => (r.toInt = 0 ∨ r.toInt = 1))) ([.ref q, .int x0, .int x1] : List Value).toArray s 0 0 (fun _ => False)) (F0 m 2 ls []) := by
    intro fu2
    induction fu2 with
    | zero =>
      intro v3_2 ls j0_2 j1_2 hm2 hl
      exact absurd hm2 (by omega)
    | succ fu2 ih2 =>
      intro v3_2 ls j0_2 j1_2 hm2 hl
      refine lv_iload_n hx hb dX2_areWell_2 rfl (lv_at hl 0 rfl) ?_
      refine lv_iload_n hx hb dX2_areWell_3 rfl (lv_at hl 3 rfl) ?_
      refine lv_icmp_gt (tgt := 27) hx hb dX2_areWell_4 (by decide) (fun c_2 => ?_) (fun c_2 => ?_)
      · have ic_2 : x1.toInt < v3_2.toInt := k_lt c_2 rfl rfl
        refine lv_iconst (v := 1) hx hb dX2_areWell_27 (by decide) ?_
        have lit0 : (1 : Int32).toInt = 1 := by decide
        exact KP.rt F rfl (show ((1 : Int32).toInt = 0 ∨ (1 : Int32).toInt = 1) from (by first | omega | assumption)) dX2_areWell_28
      · have ic_2 : v3_2.toInt ≤ x1.toInt := k_nlt c_2 rfl rfl
        refine lv_aload_n hx hb dX2_areWell_7 rfl (lv_at hl 1 rfl) ?_
        refine va_get (D := D) (ci := 1) (v := .ref q_c) (C := RX1) (T := TX1) (N := 1) hx hb hG inG_X1 hown hE.1 hP 0 rfl rfl 0 (by decide) (hG _ q_f_X2_34) (fun _ h9 => h9) rfl dX2_areWell_8 ?_
        refine lv_bipush (v := 53) hx hb dX2_areWell_11 (by decide) ?_
        refine lv_iload_n hx hb dX2_areWell_13 rfl (lv_at hl 0 rfl) ?_
        refine lv_iadd hx hb dX2_areWell_14 ?_
        refine lv_topi (fun z_3 ez_3 => ?_)
        have iz_3 : z_3.toInt = 53 + v3_2.toInt := k_addI ez_3 (by decide) rfl (by omega)
        refine va_iald hx hb hE.1 hP 1 0 rfl rfl (k_in (by omega)) dX2_areWell_15 ?_
        refine k_top (z := (g_q (Int32.toNatClampNeg z_3))) rfl ?_
        refine lv_if_le (tgt := 21) hx hb dX2_areWell_16 (by decide) (fun c_4 => ?_) (fun c_4 => ?_)
        · have ic_4 : (g_q (Int32.toNatClampNeg z_3)).toInt ≤ 0 := k_le c_4 rfl (by decide)
          obtain ⟨z_5, ez_5⟩ : ∃ y : Int32, y = v3_2 + Int32.ofInt 1 := ⟨_, rfl⟩
          have iz_5 : z_5.toInt = v3_2.toInt + 1 := k_addI ez_5 rfl (by decide) (by omega)
          refine lv_iinc (v := z_5) (lv' := [(3, .int z_5), (0, .ref q), (1, .int x0), (2, .int x1)]) hx hb dX2_areWell_21 hl (k := 0) rfl ez_5.symm (by decide) rfl (fun ls hl => ?_)
          refine lv_goto (tgt := 2) hx hb dX2_areWell_24 (by decide) ?_
          exact ih2 z_5 ls (by first | omega | assumption) (by first | omega | assumption) (by omega) (lv_sub hl [0, 1, 2, 3] rfl)
        · have ic_4 : 0 < (g_q (Int32.toNatClampNeg z_3)).toInt := k_nle c_4 rfl (by decide)
          refine lv_iconst (v := 0) hx hb dX2_areWell_19 (by decide) ?_
          have lit0 : (0 : Int32).toInt = 0 := by decide
          exact KP.rt F rfl (show ((0 : Int32).toInt = 0 ∨ (0 : Int32).toInt = 1) from (by first | omega | assumption)) dX2_areWell_20
  exact lp2 100000 x0 ls (by first | omega | assumption) (by first | omega | assumption) (by omega) hl

set_option maxHeartbeats 4000000 in
set_option maxRecDepth 100000 in
theorem cc_X2_firstWell (l : Launch) (D : va_G) (cy : Nat → ClassId) {Z : (Nat → Prop) → State → Heap → Prop} (hz : zOK Z) {TT : va_W} (zt : ∀ (A : Nat → Prop) (U : State) (H : Heap), Z A U H → va_P D vwCl TT H) (o : Nat) (o_one : Nat) (o_oth : Nat) (o_which : Int32) (o_much : Int32) (o_drawn : Int32) (q : Nat) (qf : Nat) (qf_c : Nat) (g_qf : Nat → Int32) (q_ca : Nat) (q_bo : Nat) (q_wd : Nat) (q_sk : Nat) (q_gust : Int32) (q_still : Int32) (q_rv : Value) (g_qca : Nat → Int32) (g_qbo : Nat → Int32) (g_qwd : Nat → Int64) (g_qsk : Nat → Int64) (x0 : Int32) (x1 : Int32) (h_g_qf : FV g_qf) (h_g_qbo : PLV g_qbo) (hrv : RIn TT (cy 0) q_rv) (p0 : 0 ≤ x0.toInt) (p1 : x0.toInt ≤ 4) (p2 : x1.toInt ≤ 4) : JI l yX2_firstWell cX2_firstWell 6 (some .int) 5 126 D (kTY cy) [.ref o, .ref q, .int x0, .int x1] [(o, .inr (2, [.int o_which, .int o_much, .int o_drawn, .ref o_one, .ref o_oth])), (q, .inr (6, [.ref qf, .ref q_ca, .ref q_bo, .int q_gust, .int q_still, q_rv, .ref q_wd, .ref q_sk])), (qf, .inr (1, [.ref qf_c])), (qf_c, .inl (cy 0, 63, .inl g_qf)), (q_ca, .inl (cy 0, 5, .inl g_qca)), (q_bo, .inl (cy 0, 5, .inl g_qbo)), (q_wd, .inl (cy 1, 13, .inr (.inl g_qwd))), (q_sk, .inl (cy 1, 64, .inr (.inl g_qsk)))] Z (S := (Nat → Int32) × Int32 × (Nat → Int32) × (Nat → Int64) × (Nat → Int64)) (fun r u => FV (u.1)) (fun u => [(o, .inr (2, [.int o_which, .int o_much, .int o_drawn, .ref o_one, .ref o_oth])), (q, .inr (6, [.ref qf, .ref q_ca, .ref q_bo, .int q_gust, .int (u.2.1), q_rv, .ref q_wd, .ref q_sk])), (qf, .inr (1, [.ref qf_c])), (qf_c, .inl (cy 0, 63, .inl (u.1))), (q_ca, .inl (cy 0, 5, .inl (u.2.2.1))), (q_bo, .inl (cy 0, 5, .inl g_qbo)), (q_wd, .inl (cy 1, 13, .inr (.inl (u.2.2.2.1)))), (q_sk, .inl (cy 1, 64, .inr (.inl (u.2.2.2.2))))]) 0 0 := by
  refine JI.of (by decide) (Nat.le_of_ble_eq_true rfl) (fun p e s m below meth c ls A F hE hP hD hA hS hl hZ => ?_)
  have F : kF p s m meth c cX2_firstWell 6 (some .int) _ RX2 := F
  obtain ⟨hx, hb, hr, hml, hown, hG, hlk⟩ := id F
  have hl : lv_has ls 6 [(0, .ref o), (1, .ref q), (2, .int x0), (3, .int x1)] := hl
  obtain ⟨⟨b_1a, b_1b⟩, ⟨b_1c, b_1d⟩, ⟨b_1e, b_1f⟩⟩ := FV.bounds h_g_qf
  refine lv_iconst (v := 0) hx hb dX2_firstWell_0 (by decide) ?_
  refine lv_istore (lv' := [(4, .int 0), (0, .ref o), (1, .ref q), (2, .int x0), (3, .int x1)]) hx hb dX2_firstWell_1 hl (by decide) rfl (fun ls hl => ?_)
  have lp3 : ∀ (fu : Nat) (v4_3 : Int32) (w4_q_3 : Int32) (gqf_c_3 : Nat → Int32) (gq_ca_3 : Nat → Int32) (gq_wd_3 : Nat → Int64) (gq_sk_3 : Nat → Int64) (H : Heap) (locs : List Loc) (ls : Array Slot), FV gqf_c_3 → (0 ≤ v4_3.toInt) → (v4_3.toInt ≤ 200) → 200 - v4_3.toInt < (fu : Int) → va_P D vwCl [(o, .inr (2, [.int o_which, .int o_much, .int o_drawn, .ref o_one, .ref o_oth])), (q, .inr (6, [.ref qf, .ref q_ca, .ref q_bo, .int q_gust, .int w4_q_3, q_rv, .ref q_wd, .ref q_sk])), (qf, .inr (1, [.ref qf_c])), (qf_c, .inl (cy 0, 63, .inl gqf_c_3)), (q_ca, .inl (cy 0, 5, .inl gq_ca_3)), (q_bo, .inl (cy 0, 5, .inl g_qbo)), (q_wd, .inl (cy 1, 13, .inr (.inl gq_wd_3))), (q_sk, .inl (cy 1, 64, .inr (.inl gq_sk_3)))] H → va_D A [(o, .inr (2, [.int o_which, .int o_much, .int o_drawn, .ref o_one, .ref o_oth])), (q, .inr (6, [.ref qf, .ref q_ca, .ref q_bo, .int q_gust, .int w4_q_3, q_rv, .ref q_wd, .ref q_sk])), (qf, .inr (1, [.ref qf_c])), (qf_c, .inl (cy 0, 63, .inl gqf_c_3)), (q_ca, .inl (cy 0, 5, .inl gq_ca_3)), (q_bo, .inl (cy 0, 5, .inl g_qbo)), (q_wd, .inl (cy 1, 13, .inr (.inl gq_wd_3))), (q_sk, .inl (cy 1, 64, .inr (.inl gq_sk_3)))] → va_S A s.heap H locs → lv_has ls 6 [(4, .int v4_3), (0, .ref o), (1, .ref q), (2, .int x0), (3, .int x1)] → W p l e (kRm 5 126 0 0) s m ([.ref o, .ref q, .int x0, .int x1] : List Value).toArray below meth c H locs 0 0 (MQ below (va_Qi (S := (Nat → Int32) × Int32 × (Nat → Int32) × (Nat → Int64) × (Nat → Int64)) (fun r u => FV (u.1)) (kBw D A (fun u => [(o, .inr (2, [.int o_which, .int o_much, .int o_drawn, .ref o_one, .ref o_oth])), (q, .inr (6, [.ref qf, .ref q_ca, .ref q_bo, .int q_gust, .int (u.2.1), q_rv, .ref q_wd, .ref q_sk])), (qf, .inr (1, [.ref qf_c])), (qf_c, .inl (cy 0, 63, .inl (u.1))), (q_ca, .inl (cy 0, 5, .inl (u.2.2.1))), (q_bo, .inl (cy 0, 5, .inl g_qbo)), (q_wd, .inl (cy 1, 13, .inr (.inl (u.2.2.2.1)))), (q_sk, .inl (cy 1, 64, .inr (.inl (u.2.2.2.2))))])) A) ([.ref o, .ref q, .int x0, .int x1] : List Value).toArray s 0 0 A) (F0 m 3 ls []) := by
    intro fu3
    induction fu3 with
    | zero =>
      intro v4_3 w4_q_3 gqf_c_3 gq_ca_3 gq_wd_3 gq_sk_3 H locs ls hgqf_c_3 j0_3 j1_3 hm3 hP hD hS hl
      exact absurd hm3 (by omega)
    | succ fu3 ih3 =>
      intro v4_3 w4_q_3 gqf_c_3 gq_ca_3 gq_wd_3 gq_sk_3 H locs ls hgqf_c_3 j0_3 j1_3 hm3 hP hD hS hl
      obtain ⟨⟨b_2a, b_2b⟩, ⟨b_2c, b_2d⟩, ⟨b_2e, b_2f⟩⟩ := FV.bounds hgqf_c_3
      refine lv_iload hx hb dX2_firstWell_3 (lv_at hl 0 rfl) ?_
      refine lv_sipush (v := 200) hx hb dX2_firstWell_5 (by decide) ?_
      refine lv_icmp_ge (tgt := 58) hx hb dX2_firstWell_8 (by decide) (fun c_3 => ?_) (fun c_3 => ?_)
      · have ic_3 : 200 ≤ v4_3.toInt := k_le c_3 (by decide) rfl
        refine lv_bipush (v := (-2)) hx hb dX2_firstWell_58 (by decide) ?_
        have lit0 : ((-2) : Int32).toInt = (-2) := by decide
        exact KI.rt ⟨gqf_c_3, w4_q_3, gq_ca_3, gq_wd_3, gq_sk_3⟩ F rfl (hP.sub [0, 1, 2, 3, 4, 5, 6, 7] rfl) (hD.sub [0, 1, 2, 3, 4, 5, 6, 7] (by decide) rfl) hS (show FV gqf_c_3 from hgqf_c_3) (Nat.le_of_ble_eq_true rfl) (Nat.le_of_ble_eq_true rfl) dX2_firstWell_60
      · have ic_3 : v4_3.toInt < 200 := k_nle c_3 (by decide) rfl
        refine lv_aload_n hx hb dX2_firstWell_11 rfl (lv_at hl 2 rfl) ?_
        refine va_get (D := D) (ci := 6) (v := .ref qf) (C := RX6) (T := TX6) (N := 8) hx hb hG inG_X6 hown hE.1 hP 1 rfl rfl 0 (by decide) (hG _ q_f_X2_28) (fun _ h9 => h9) rfl dX2_firstWell_12 ?_
        refine va_get (D := D) (ci := 1) (v := .ref qf_c) (C := RX1) (T := TX1) (N := 1) hx hb hG inG_X1 hown hE.1 hP 2 rfl rfl 0 (by decide) (hG _ q_f_X2_34) (fun _ h9 => h9) rfl dX2_firstWell_15 ?_
        refine lv_iconst (v := 5) hx hb dX2_firstWell_18 (by decide) ?_
        refine va_iald hx hb hE.1 hP 3 0 rfl rfl (by unfold vp_in; decide) dX2_firstWell_19 ?_
        refine k_top (z := (gqf_c_3 5)) rfl ?_
        refine lv_istore (lv' := [(5, .int (gqf_c_3 5)), (4, .int v4_3), (0, .ref o), (1, .ref q), (2, .int x0), (3, .int x1)]) hx hb dX2_firstWell_20 hl (by decide) rfl (fun ls hl => ?_)
        refine lv_aload_n hx hb dX2_firstWell_22 rfl (lv_at hl 3 rfl) ?_
        refine jwVI (wr := [(o, .inr (2, [.int o_which, .int o_much, .int o_drawn, .ref o_one, .ref o_oth]))]) (As := []) (rest := []) F hE hP hD hS hA hl.1 hz hZ (cc_X6_playRound l D cy (Z := Z) (hz := hz) (TT := TT) (zt := zt) (o := q) (of := qf) (o_ca := q_ca) (o_bo := q_bo) (o_gust := q_gust) (o_still := w4_q_3) (o_rv := q_rv) (o_wd := q_wd) (o_sk := q_sk) (of_c := qf_c) (g_of := gqf_c_3) (g_oca := gq_ca_3) (g_obo := g_qbo) (g_owd := gq_wd_3) (g_osk := gq_sk_3) (h_g_of := hgqf_c_3) (h_g_obo := h_g_qbo) (hrv := (by first | omega | assumption))) q_m_X2_39 mv_X6_playRound ⟨(Nat.le_of_ble_eq_true rfl), (Nat.le_of_ble_eq_true rfl)⟩ [1, 2, 3, 4, 5, 6, 7] [0] (by decide) rfl rfl (by decide) (by decide) rfl rfl rfl rfl rfl (Nat.le_of_ble_eq_true rfl) ⟨(Nat.le_of_ble_eq_true rfl), (Nat.le_of_ble_eq_true rfl)⟩ dX2_firstWell_23 (fun r_5 u_4 H locs eu_4 hP hD hS => ?_)
        obtain ⟨g_of_6, o_still_7, g_oca_8, g_owd_9, g_osk_10⟩ := u_4
        have eu_4 : FV g_of_6 := eu_4
        have hP : va_P D vwCl [(o, .inr (2, [.int o_which, .int o_much, .int o_drawn, .ref o_one, .ref o_oth])), (q, .inr (6, [.ref qf, .ref q_ca, .ref q_bo, .int q_gust, .int o_still_7, q_rv, .ref q_wd, .ref q_sk])), (qf, .inr (1, [.ref qf_c])), (qf_c, .inl (cy 0, 63, .inl g_of_6)), (q_ca, .inl (cy 0, 5, .inl g_oca_8)), (q_bo, .inl (cy 0, 5, .inl g_qbo)), (q_wd, .inl (cy 1, 13, .inr (.inl g_owd_9))), (q_sk, .inl (cy 1, 64, .inr (.inl g_osk_10)))] H := hP
        have hD : va_D A [(o, .inr (2, [.int o_which, .int o_much, .int o_drawn, .ref o_one, .ref o_oth])), (q, .inr (6, [.ref qf, .ref q_ca, .ref q_bo, .int q_gust, .int o_still_7, q_rv, .ref q_wd, .ref q_sk])), (qf, .inr (1, [.ref qf_c])), (qf_c, .inl (cy 0, 63, .inl g_of_6)), (q_ca, .inl (cy 0, 5, .inl g_oca_8)), (q_bo, .inl (cy 0, 5, .inl g_qbo)), (q_wd, .inl (cy 1, 13, .inr (.inl g_owd_9))), (q_sk, .inl (cy 1, 64, .inr (.inl g_osk_10)))] := hD
        obtain ⟨⟨b_11a, b_11b⟩, ⟨b_11c, b_11d⟩, ⟨b_11e, b_11f⟩⟩ := FV.bounds eu_4
        refine lv_pop hx hb dX2_firstWell_26 rfl ?_
        refine lv_aload_n hx hb dX2_firstWell_27 rfl (lv_at hl 3 rfl) ?_
        refine va_get (D := D) (ci := 6) (v := .ref qf) (C := RX6) (T := TX6) (N := 8) hx hb hG inG_X6 hown hE.1 hP 1 rfl rfl 0 (by decide) (hG _ q_f_X2_28) (fun _ h9 => h9) rfl dX2_firstWell_28 ?_
        refine lv_iload_n hx hb dX2_firstWell_31 rfl (lv_at hl 4 rfl) ?_
        refine lv_iload_n hx hb dX2_firstWell_32 rfl (lv_at hl 5 rfl) ?_
        refine kcS (As := [.ref qf, .int x0, .int x1]) (rest := []) F hE hP hl.1 (cc_areWell l D cy (q := qf) (x0 := x0) (x1 := x1) (q_c := qf_c) (g_q := g_of_6) (h_g_q := eu_4) (p0 := (by first | omega | assumption)) (p1 := (by first | omega | assumption)) (p2 := (by first | omega | assumption))) q_m_X2_43 ms_X2_areWell ⟨(Nat.le_of_ble_eq_true rfl), (Nat.le_of_ble_eq_true rfl)⟩ [2, 3] rfl rfl rfl (Nat.le_of_ble_eq_true rfl) ⟨(Nat.le_of_ble_eq_true rfl), (Nat.le_of_ble_eq_true rfl)⟩ dX2_firstWell_33 (fun r_12 er_12 => ?_)
        have er_12 : (r_12.toInt = 0 ∨ r_12.toInt = 1) := er_12
        refine lv_if_eq (tgt := 42) hx hb dX2_firstWell_36 (by decide) (fun c_13 => ?_) (fun c_13 => ?_)
        · have ic_13 : r_12.toInt = 0 := k_eq c_13 rfl (by decide)
          clear er_12
          refine lv_aload_n hx hb dX2_firstWell_42 rfl (lv_at hl 3 rfl) ?_
          refine va_get (D := D) (ci := 6) (v := .int o_still_7) (C := RX6) (T := TX6) (N := 8) hx hb hG inG_X6 hown hE.1 hP 1 rfl rfl 4 (by decide) (hG _ q_f_X2_47) (fun _ h9 => h9) rfl dX2_firstWell_43 ?_
          refine lv_if_eq (tgt := 52) hx hb dX2_firstWell_46 (by decide) (fun c_14 => ?_) (fun c_14 => ?_)
          · have ic_14 : o_still_7.toInt = 0 := k_eq c_14 rfl (by decide)
            obtain ⟨z_15, ez_15⟩ : ∃ y : Int32, y = v4_3 + Int32.ofInt 1 := ⟨_, rfl⟩
            have iz_15 : z_15.toInt = v4_3.toInt + 1 := k_addI ez_15 rfl (by decide) (by omega)
            refine lv_iinc (v := z_15) (lv' := [(4, .int z_15), (5, .int (gqf_c_3 5)), (0, .ref o), (1, .ref q), (2, .int x0), (3, .int x1)]) hx hb dX2_firstWell_52 hl (k := 1) rfl ez_15.symm (by decide) rfl (fun ls hl => ?_)
            refine lv_goto (tgt := 3) hx hb dX2_firstWell_55 (by decide) ?_
            exact ih3 z_15 o_still_7 g_of_6 g_oca_8 g_owd_9 g_osk_10 _ _ ls eu_4 (by first | omega | assumption) (by first | omega | assumption) (by omega) hP hD hS (lv_sub hl [0, 2, 3, 4, 5] rfl)
          · have ic_14 : o_still_7.toInt ≠ 0 := k_ne c_14 rfl (by decide)
            refine lv_bipush (v := (-2)) hx hb dX2_firstWell_49 (by decide) ?_
            have lit0 : ((-2) : Int32).toInt = (-2) := by decide
            exact KI.rt ⟨g_of_6, o_still_7, g_oca_8, g_owd_9, g_osk_10⟩ F rfl (hP.sub [0, 1, 2, 3, 4, 5, 6, 7] rfl) (hD.sub [0, 1, 2, 3, 4, 5, 6, 7] (by decide) rfl) hS (show FV g_of_6 from eu_4) (Nat.le_of_ble_eq_true rfl) (Nat.le_of_ble_eq_true rfl) dX2_firstWell_51
        · have ic_13 : r_12.toInt ≠ 0 := k_ne c_13 rfl (by decide)
          clear er_12
          refine lv_iload hx hb dX2_firstWell_39 (lv_at hl 0 rfl) ?_
          exact KI.rt ⟨g_of_6, o_still_7, g_oca_8, g_owd_9, g_osk_10⟩ F rfl (hP.sub [0, 1, 2, 3, 4, 5, 6, 7] rfl) (hD.sub [0, 1, 2, 3, 4, 5, 6, 7] (by decide) rfl) hS (show FV g_of_6 from eu_4) (Nat.le_of_ble_eq_true rfl) (Nat.le_of_ble_eq_true rfl) dX2_firstWell_41
  have lt_16 : (0 : Int32).toInt = 0 := by decide
  exact lp3 100000 0 q_still g_qf g_qca g_qwd g_qsk _ _ ls h_g_qf (by first | omega | assumption) (by first | omega | assumption) (by omega) hP hD hS hl

set_option maxHeartbeats 4000000 in
set_option maxRecDepth 100000 in
theorem cc_X2_bestRow (l : Launch) (D : va_G) (cy : Nat → ClassId) (o : Nat) (o_one : Nat) (o_oth : Nat) (o_which : Int32) (o_much : Int32) (o_drawn : Int32) (q : Nat) (q_c : Nat) (g_q : Nat → Int32) (x0 : Int32) (x1 : Int32) (x2 : Int32) (h_g_q : FV g_q) (p0 : 0 ≤ x0.toInt) (p1 : x0.toInt ≤ 4) (p2 : 1 ≤ x1.toInt) (p3 : x1.toInt ≤ 5) : KP l yX2_bestRow cX2_bestRow 14 (some .int) 2 46 D (kTY cy) [.ref o, .ref q, .int x0, .int x1, .int x2] [(o, .inr (2, [.int o_which, .int o_much, .int o_drawn, .ref o_one, .ref o_oth])), (q, .inr (1, [.ref q_c])), (q_c, .inl (cy 0, 63, .inl g_q))] (fun r => True) := by
  refine KP.of (by decide) (Nat.le_of_ble_eq_true rfl) (fun p e s m below meth c ls F hE hP hl => ?_)
  have F : kF p s m meth c cX2_bestRow 14 (some .int) _ RX2 := F
  obtain ⟨hx, hb, hr, hml, hown, hG, hlk⟩ := id F
  have hl : lv_has ls 14 [(0, .ref o), (1, .ref q), (2, .int x0), (3, .int x1), (4, .int x2)] := hl
  obtain ⟨⟨b_1a, b_1b⟩, ⟨b_1c, b_1d⟩, ⟨b_1e, b_1f⟩⟩ := FV.bounds h_g_q
  refine lv_aload_n hx hb dX2_bestRow_0 rfl (lv_at hl 1 rfl) ?_
  refine va_get (D := D) (ci := 1) (v := .ref q_c) (C := RX1) (T := TX1) (N := 1) hx hb hG inG_X1 hown hE.1 hP 1 rfl rfl 0 (by decide) (hG _ q_f_X2_34) (fun _ h9 => h9) rfl dX2_bestRow_1 ?_
  refine lv_bipush (v := 6) hx hb dX2_bestRow_4 (by decide) ?_
  refine va_iald hx hb hE.1 hP 2 0 rfl rfl (by unfold vp_in; decide) dX2_bestRow_6 ?_
  refine k_top (z := (g_q 6)) rfl ?_
  refine lv_istore (lv' := [(5, .int (g_q 6)), (0, .ref o), (1, .ref q), (2, .int x0), (3, .int x1), (4, .int x2)]) hx hb dX2_bestRow_7 hl (by decide) rfl (fun ls hl => ?_)
  refine lv_aload_n hx hb dX2_bestRow_9 rfl (lv_at hl 2 rfl) ?_
  refine va_get (D := D) (ci := 1) (v := .ref q_c) (C := RX1) (T := TX1) (N := 1) hx hb hG inG_X1 hown hE.1 hP 1 rfl rfl 0 (by decide) (hG _ q_f_X2_34) (fun _ h9 => h9) rfl dX2_bestRow_10 ?_
  refine lv_bipush (v := 53) hx hb dX2_bestRow_13 (by decide) ?_
  refine lv_iload_n hx hb dX2_bestRow_15 rfl (lv_at hl 3 rfl) ?_
  refine lv_iadd hx hb dX2_bestRow_16 ?_
  refine lv_topi (fun z_2 ez_2 => ?_)
  have iz_2 : z_2.toInt = 53 + x0.toInt := k_addI ez_2 (by decide) rfl (by omega)
  refine va_iald hx hb hE.1 hP 2 0 rfl rfl (k_in (by omega)) dX2_bestRow_17 ?_
  refine k_top (z := (g_q (Int32.toNatClampNeg z_2))) rfl ?_
  refine lv_istore (lv' := [(6, .int (g_q (Int32.toNatClampNeg z_2))), (5, .int (g_q 6)), (0, .ref o), (1, .ref q), (2, .int x0), (3, .int x1), (4, .int x2)]) hx hb dX2_bestRow_18 hl (by decide) rfl (fun ls hl => ?_)
  refine lv_aload_n hx hb dX2_bestRow_20 rfl (lv_at hl 3 rfl) ?_
  refine va_get (D := D) (ci := 1) (v := .ref q_c) (C := RX1) (T := TX1) (N := 1) hx hb hG inG_X1 hown hE.1 hP 1 rfl rfl 0 (by decide) (hG _ q_f_X2_34) (fun _ h9 => h9) rfl dX2_bestRow_21 ?_
  refine lv_bipush (v := 26) hx hb dX2_bestRow_24 (by decide) ?_
  refine lv_aload_n hx hb dX2_bestRow_26 rfl (lv_at hl 3 rfl) ?_
  refine va_get (D := D) (ci := 1) (v := .ref q_c) (C := RX1) (T := TX1) (N := 1) hx hb hG inG_X1 hown hE.1 hP 1 rfl rfl 0 (by decide) (hG _ q_f_X2_34) (fun _ h9 => h9) rfl dX2_bestRow_27 ?_
  refine lv_bipush (v := 38) hx hb dX2_bestRow_30 (by decide) ?_
  refine lv_iload_n hx hb dX2_bestRow_32 rfl (lv_at hl 4 rfl) ?_
  refine lv_iadd hx hb dX2_bestRow_33 ?_
  refine lv_topi (fun z_3 ez_3 => ?_)
  have iz_3 : z_3.toInt = 38 + x0.toInt := k_addI ez_3 (by decide) rfl (by omega)
  refine va_iald hx hb hE.1 hP 2 0 rfl rfl (k_in (by omega)) dX2_bestRow_34 ?_
  refine k_top (z := (g_q (Int32.toNatClampNeg z_3))) rfl ?_
  have ow_4 := FV.own h_g_q z_3 (by omega)
  refine lv_iadd hx hb dX2_bestRow_35 ?_
  refine lv_topi (fun z_5 ez_5 => ?_)
  have iz_5 : z_5.toInt = 26 + (g_q (Int32.toNatClampNeg z_3)).toInt := k_addI ez_5 (by decide) rfl (by omega)
  refine va_iald hx hb hE.1 hP 2 0 rfl rfl (k_in (by omega)) dX2_bestRow_36 ?_
  refine k_top (z := (g_q (Int32.toNatClampNeg z_5))) rfl ?_
  refine lv_istore (lv' := [(7, .int (g_q (Int32.toNatClampNeg z_5))), (6, .int (g_q (Int32.toNatClampNeg z_2))), (5, .int (g_q 6)), (0, .ref o), (1, .ref q), (2, .int x0), (3, .int x1), (4, .int x2)]) hx hb dX2_bestRow_37 hl (by decide) rfl (fun ls hl => ?_)
  refine lv_iload hx hb dX2_bestRow_39 (lv_at hl 0 rfl) ?_
  refine lv_iconst (v := 1) hx hb dX2_bestRow_41 (by decide) ?_
  refine lv_icmp_ge (tgt := 49) hx hb dX2_bestRow_42 (by decide) (fun c_6 => ?_) (fun c_6 => ?_)
  · have ic_6 : 1 ≤ (g_q (Int32.toNatClampNeg z_5)).toInt := k_le c_6 (by decide) rfl
    refine lv_iload hx hb dX2_bestRow_49 (lv_at hl 1 rfl) ?_
    refine lv_iload hx hb dX2_bestRow_51 (lv_at hl 0 rfl) ?_
    refine lv_iadd hx hb dX2_bestRow_53 ?_
    refine lv_topi (fun z_7 ez_7 => ?_)
    refine lv_iconst (v := 1) hx hb dX2_bestRow_54 (by decide) ?_
    refine lv_isub hx hb dX2_bestRow_55 ?_
    refine lv_topi (fun z_8 ez_8 => ?_)
    refine lv_iload hx hb dX2_bestRow_56 (lv_at hl 0 rfl) ?_
    refine lv_idiv hx hb dX2_bestRow_58 (k_nz (by omega)) ?_
    refine lv_topi (fun z_9 ez_9 => ?_)
    refine lv_istore (lv' := [(8, .int z_9), (7, .int (g_q (Int32.toNatClampNeg z_5))), (6, .int (g_q (Int32.toNatClampNeg z_2))), (5, .int (g_q 6)), (0, .ref o), (1, .ref q), (2, .int x0), (3, .int x1), (4, .int x2)]) hx hb dX2_bestRow_59 hl (by decide) rfl (fun ls hl => ?_)
    refine lv_iload hx hb dX2_bestRow_61 (lv_at hl 0 rfl) ?_
    refine lv_aload_n hx hb dX2_bestRow_63 rfl (lv_at hl 5 rfl) ?_
    refine va_get (D := D) (ci := 1) (v := .ref q_c) (C := RX1) (T := TX1) (N := 1) hx hb hG inG_X1 hown hE.1 hP 1 rfl rfl 0 (by decide) (hG _ q_f_X2_34) (fun _ h9 => h9) rfl dX2_bestRow_64 ?_
    refine lv_bipush (v := 58) hx hb dX2_bestRow_67 (by decide) ?_
    refine lv_iload_n hx hb dX2_bestRow_69 rfl (lv_at hl 6 rfl) ?_
    refine lv_iadd hx hb dX2_bestRow_70 ?_
    refine lv_topi (fun z_10 ez_10 => ?_)
    have iz_10 : z_10.toInt = 58 + x0.toInt := k_addI ez_10 (by decide) rfl (by omega)
    refine va_iald hx hb hE.1 hP 2 0 rfl rfl (k_in (by omega)) dX2_bestRow_71 ?_
    refine k_top (z := (g_q (Int32.toNatClampNeg z_10))) rfl ?_
    refine va_mmin hx hb (by rw [hml]; exact hl.1.symm) hown (hG _ q_m_X2_51) (hG _ q_s_J9_min_7cf53) (hG _ q_z_J9) (hG _ q_c_J9_min_7cf53) (Nat.le_of_ble_eq_true rfl) (Nat.le_of_ble_eq_true rfl) (Nat.le_of_ble_eq_true rfl) (Nat.le_of_ble_eq_true rfl) dX2_bestRow_72 ?_
    refine lv_topi (fun z_11 ez_11 => ?_)
    obtain ⟨iz_11a, iz_11b, iz_11c⟩ := k_minI (a := (g_q (Int32.toNatClampNeg z_10)).toInt) (b := z_9.toInt) ez_11 rfl rfl
    refine lv_istore (lv' := [(9, .int z_11), (8, .int z_9), (7, .int (g_q (Int32.toNatClampNeg z_5))), (6, .int (g_q (Int32.toNatClampNeg z_2))), (5, .int (g_q 6)), (0, .ref o), (1, .ref q), (2, .int x0), (3, .int x1), (4, .int x2)]) hx hb dX2_bestRow_75 hl (by decide) rfl (fun ls hl => ?_)
    refine lv_iconst (v := 0) hx hb dX2_bestRow_77 (by decide) ?_
    refine lv_istore (lv' := [(10, .int 0), (9, .int z_11), (8, .int z_9), (7, .int (g_q (Int32.toNatClampNeg z_5))), (6, .int (g_q (Int32.toNatClampNeg z_2))), (5, .int (g_q 6)), (0, .ref o), (1, .ref q), (2, .int x0), (3, .int x1), (4, .int x2)]) hx hb dX2_bestRow_78 hl (by decide) rfl (fun ls hl => ?_)
    refine lv_iconst (v := (-1)) hx hb dX2_bestRow_80 (by decide) ?_
    refine lv_istore (lv' := [(11, .int (-1)), (10, .int 0), (9, .int z_11), (8, .int z_9), (7, .int (g_q (Int32.toNatClampNeg z_5))), (6, .int (g_q (Int32.toNatClampNeg z_2))), (5, .int (g_q 6)), (0, .ref o), (1, .ref q), (2, .int x0), (3, .int x1), (4, .int x2)]) hx hb dX2_bestRow_81 hl (by decide) rfl (fun ls hl => ?_)
    refine lv_iload_n hx hb dX2_bestRow_83 rfl (lv_at hl 10 rfl) ?_
    refine lv_istore (lv' := [(12, .int x1), (11, .int (-1)), (10, .int 0), (9, .int z_11), (8, .int z_9), (7, .int (g_q (Int32.toNatClampNeg z_5))), (6, .int (g_q (Int32.toNatClampNeg z_2))), (5, .int (g_q 6)), (0, .ref o), (1, .ref q), (2, .int x0), (3, .int x1), (4, .int x2)]) hx hb dX2_bestRow_84 hl (by decide) rfl (fun ls hl => ?_)
    have lp86 : ∀ (fu : Nat) (v12_86 : Int32) (v11_86 : Int32) (v10_86 : Int32) (ls : Array Slot), (0 ≤ v12_86.toInt) → (v12_86.toInt ≤ 5) → v12_86.toInt < (fu : Int) → lv_has ls 14 [(12, .int v12_86), (11, .int v11_86), (10, .int v10_86), (9, .int z_11), (8, .int z_9), (7, .int (g_q (Int32.toNatClampNeg z_5))), (6, .int (g_q (Int32.toNatClampNeg z_2))), (5, .int (g_q 6)), (0, .ref o), (1, .ref q), (2, .int x0), (3, .int x1), (4, .int x2)] → W p l e (kR 2 46) s m ([.ref o, .ref q, .int x0, .int x1, .int x2] : List Value).toArray below meth c s.heap [] 0 0 (MQ below (kQ (fun r => True)) ([.ref o, .ref q, .int x0, .int x1, .int x2] : List Value).toArray s 0 0 (fun _ => False)) (F0 m 86 ls []) := by
      intro fu86
      induction fu86 with
      | zero =>
        intro v12_86 v11_86 v10_86 ls j0_86 j1_86 hm86 hl
        exact absurd hm86 (by omega)
      | succ fu86 ih86 =>
        intro v12_86 v11_86 v10_86 ls j0_86 j1_86 hm86 hl
        refine lv_iload hx hb dX2_bestRow_86 (lv_at hl 0 rfl) ?_
        refine lv_iconst (v := 1) hx hb dX2_bestRow_88 (by decide) ?_
        refine lv_icmp_lt (tgt := 144) hx hb dX2_bestRow_89 (by decide) (fun c_12 => ?_) (fun c_12 => ?_)
        · have ic_12 : v12_86.toInt < 1 := k_lt c_12 rfl (by decide)
          refine lv_iload hx hb dX2_bestRow_144 (lv_at hl 12 rfl) ?_
          refine lv_if_ne (tgt := 162) hx hb dX2_bestRow_146 (by decide) (fun c_13 => ?_) (fun c_13 => ?_)
          · have ic_13 : x2.toInt ≠ 0 := k_ne c_13 rfl (by decide)
            refine lv_iload hx hb dX2_bestRow_162 (lv_at hl 1 rfl) ?_
            exact KP.rt F rfl trivial dX2_bestRow_164
          · have ic_13 : x2.toInt = 0 := k_eq c_13 rfl (by decide)
            refine lv_iload hx hb dX2_bestRow_149 (lv_at hl 6 rfl) ?_
            refine lv_iload hx hb dX2_bestRow_151 (lv_at hl 2 rfl) ?_
            refine lv_iload hx hb dX2_bestRow_153 (lv_at hl 5 rfl) ?_
            refine lv_imul hx hb dX2_bestRow_155 ?_
            refine lv_topi (fun z_14 ez_14 => ?_)
            refine va_mmin hx hb (by rw [hml]; exact hl.1.symm) hown (hG _ q_m_X2_51) (hG _ q_s_J9_min_7cf53) (hG _ q_z_J9) (hG _ q_c_J9_min_7cf53) (Nat.le_of_ble_eq_true rfl) (Nat.le_of_ble_eq_true rfl) (Nat.le_of_ble_eq_true rfl) (Nat.le_of_ble_eq_true rfl) dX2_bestRow_156 ?_
            refine lv_topi (fun z_15 ez_15 => ?_)
            obtain ⟨iz_15a, iz_15b, iz_15c⟩ := k_minI (a := z_14.toInt) (b := (g_q (Int32.toNatClampNeg z_2)).toInt) ez_15 rfl rfl
            refine lv_goto (tgt := 164) hx hb dX2_bestRow_159 (by decide) ?_
            exact KP.rt F rfl trivial dX2_bestRow_164
        · have ic_12 : 1 ≤ v12_86.toInt := k_nlt c_12 rfl (by decide)
          refine lv_iload hx hb dX2_bestRow_92 (lv_at hl 2 rfl) ?_
          refine lv_iload hx hb dX2_bestRow_94 (lv_at hl 3 rfl) ?_
          refine lv_icmp_ge (tgt := 144) hx hb dX2_bestRow_96 (by decide) (fun c_16 => ?_) (fun c_16 => ?_)
          · have ic_16 : z_11.toInt ≤ v10_86.toInt := k_le c_16 rfl rfl
            refine lv_iload hx hb dX2_bestRow_144 (lv_at hl 12 rfl) ?_
            refine lv_if_ne (tgt := 162) hx hb dX2_bestRow_146 (by decide) (fun c_17 => ?_) (fun c_17 => ?_)
            · have ic_17 : x2.toInt ≠ 0 := k_ne c_17 rfl (by decide)
              refine lv_iload hx hb dX2_bestRow_162 (lv_at hl 1 rfl) ?_
              exact KP.rt F rfl trivial dX2_bestRow_164
            · have ic_17 : x2.toInt = 0 := k_eq c_17 rfl (by decide)
              refine lv_iload hx hb dX2_bestRow_149 (lv_at hl 6 rfl) ?_
              refine lv_iload hx hb dX2_bestRow_151 (lv_at hl 2 rfl) ?_
              refine lv_iload hx hb dX2_bestRow_153 (lv_at hl 5 rfl) ?_
              refine lv_imul hx hb dX2_bestRow_155 ?_
              refine lv_topi (fun z_18 ez_18 => ?_)
              refine va_mmin hx hb (by rw [hml]; exact hl.1.symm) hown (hG _ q_m_X2_51) (hG _ q_s_J9_min_7cf53) (hG _ q_z_J9) (hG _ q_c_J9_min_7cf53) (Nat.le_of_ble_eq_true rfl) (Nat.le_of_ble_eq_true rfl) (Nat.le_of_ble_eq_true rfl) (Nat.le_of_ble_eq_true rfl) dX2_bestRow_156 ?_
              refine lv_topi (fun z_19 ez_19 => ?_)
              obtain ⟨iz_19a, iz_19b, iz_19c⟩ := k_minI (a := z_18.toInt) (b := (g_q (Int32.toNatClampNeg z_2)).toInt) ez_19 rfl rfl
              refine lv_goto (tgt := 164) hx hb dX2_bestRow_159 (by decide) ?_
              exact KP.rt F rfl trivial dX2_bestRow_164
          · have ic_16 : v10_86.toInt < z_11.toInt := k_nle c_16 rfl rfl
            refine lv_aload_n hx hb dX2_bestRow_99 rfl (lv_at hl 9 rfl) ?_
            refine lv_iload_n hx hb dX2_bestRow_100 rfl (lv_at hl 10 rfl) ?_
            refine lv_iload hx hb dX2_bestRow_101 (lv_at hl 7 rfl) ?_
            refine lv_iload hx hb dX2_bestRow_103 (lv_at hl 0 rfl) ?_
            refine lv_iadd hx hb dX2_bestRow_105 ?_
            refine lv_topi (fun z_20 ez_20 => ?_)
            refine lv_iconst (v := 1) hx hb dX2_bestRow_106 (by decide) ?_
            refine lv_isub hx hb dX2_bestRow_107 ?_
            refine lv_topi (fun z_21 ez_21 => ?_)
            refine kcV (As := [.int x0, .int z_21]) (rest := []) F hE hP hl.1 (cc_X1_ringThatHitsOwn l D cy (o := q) (x0 := x0) (x1 := z_21) (o_c := q_c) (g_o := g_q) (h_g_o := h_g_q) (p0 := (by first | omega | assumption)) (p1 := (by first | omega | assumption))) q_m_X2_57 mv_X1_ringThatHitsOwn ⟨(Nat.le_of_ble_eq_true rfl), (Nat.le_of_ble_eq_true rfl)⟩ [1, 2] rfl rfl rfl rfl rfl rfl (Nat.le_of_ble_eq_true rfl) ⟨(Nat.le_of_ble_eq_true rfl), (Nat.le_of_ble_eq_true rfl)⟩ dX2_bestRow_108 (fun r_22 er_22 => ?_)
            have er_22 : (-1 ≤ r_22.toInt) ∧ (r_22.toInt ≤ 5) := er_22
            obtain ⟨er_22a, er_22b⟩ := er_22
            refine lv_istore (lv' := [(13, .int r_22), (12, .int v12_86), (11, .int v11_86), (10, .int v10_86), (9, .int z_11), (8, .int z_9), (7, .int (g_q (Int32.toNatClampNeg z_5))), (6, .int (g_q (Int32.toNatClampNeg z_2))), (5, .int (g_q 6)), (0, .ref o), (1, .ref q), (2, .int x0), (3, .int x1), (4, .int x2)]) hx hb dX2_bestRow_111 hl (by decide) rfl (fun ls hl => ?_)
            refine lv_iload hx hb dX2_bestRow_113 (lv_at hl 0 rfl) ?_
            refine lv_iconst (v := (-1)) hx hb dX2_bestRow_115 (by decide) ?_
            refine lv_icmp_eq (tgt := 138) hx hb dX2_bestRow_116 (by decide) (fun c_23 => ?_) (fun c_23 => ?_)
            · have ic_23 : r_22.toInt = (-1) := k_eq c_23 rfl (by decide)
              obtain ⟨z_24, ez_24⟩ : ∃ y : Int32, y = v12_86 + Int32.ofInt (-1) := ⟨_, rfl⟩
              have iz_24 : z_24.toInt = v12_86.toInt + (-1) := k_addI ez_24 rfl (by decide) (by omega)
              refine lv_iinc (v := z_24) (lv' := [(12, .int z_24), (13, .int r_22), (11, .int v11_86), (10, .int v10_86), (9, .int z_11), (8, .int z_9), (7, .int (g_q (Int32.toNatClampNeg z_5))), (6, .int (g_q (Int32.toNatClampNeg z_2))), (5, .int (g_q 6)), (0, .ref o), (1, .ref q), (2, .int x0), (3, .int x1), (4, .int x2)]) hx hb dX2_bestRow_138 hl (k := 1) rfl ez_24.symm (by decide) rfl (fun ls hl => ?_)
              refine lv_goto (tgt := 86) hx hb dX2_bestRow_141 (by decide) ?_
              exact ih86 z_24 v11_86 v10_86 ls (by first | omega | assumption) (by first | omega | assumption) (by omega) (lv_sub hl [0, 2, 3, 4, 5, 6, 7, 8, 9, 10, 11, 12, 13] rfl)
            · have ic_23 : r_22.toInt ≠ (-1) := k_ne c_23 rfl (by decide)
              obtain ⟨z_25, ez_25⟩ : ∃ y : Int32, y = v10_86 + Int32.ofInt 1 := ⟨_, rfl⟩
              refine lv_iinc (v := z_25) (lv' := [(10, .int z_25), (13, .int r_22), (12, .int v12_86), (11, .int v11_86), (9, .int z_11), (8, .int z_9), (7, .int (g_q (Int32.toNatClampNeg z_5))), (6, .int (g_q (Int32.toNatClampNeg z_2))), (5, .int (g_q 6)), (0, .ref o), (1, .ref q), (2, .int x0), (3, .int x1), (4, .int x2)]) hx hb dX2_bestRow_119 hl (k := 3) rfl ez_25.symm (by decide) rfl (fun ls hl => ?_)
              refine lv_iload hx hb dX2_bestRow_122 (lv_at hl 2 rfl) ?_
              refine lv_iload hx hb dX2_bestRow_124 (lv_at hl 13 rfl) ?_
              refine lv_icmp_ne (tgt := 134) hx hb dX2_bestRow_126 (by decide) (fun c_26 => ?_) (fun c_26 => ?_)
              · have ic_26 : v12_86.toInt ≠ x2.toInt := k_ne c_26 rfl rfl
                refine lv_iload hx hb dX2_bestRow_134 (lv_at hl 3 rfl) ?_
                refine lv_istore (lv' := [(11, .int v11_86), (10, .int z_25), (13, .int r_22), (12, .int v12_86), (9, .int z_11), (8, .int z_9), (7, .int (g_q (Int32.toNatClampNeg z_5))), (6, .int (g_q (Int32.toNatClampNeg z_2))), (5, .int (g_q 6)), (0, .ref o), (1, .ref q), (2, .int x0), (3, .int x1), (4, .int x2)]) hx hb dX2_bestRow_136 hl (by decide) rfl (fun ls hl => ?_)
                obtain ⟨z_27, ez_27⟩ : ∃ y : Int32, y = v12_86 + Int32.ofInt (-1) := ⟨_, rfl⟩
                have iz_27 : z_27.toInt = v12_86.toInt + (-1) := k_addI ez_27 rfl (by decide) (by omega)
                refine lv_iinc (v := z_27) (lv' := [(12, .int z_27), (11, .int v11_86), (10, .int z_25), (13, .int r_22), (9, .int z_11), (8, .int z_9), (7, .int (g_q (Int32.toNatClampNeg z_5))), (6, .int (g_q (Int32.toNatClampNeg z_2))), (5, .int (g_q 6)), (0, .ref o), (1, .ref q), (2, .int x0), (3, .int x1), (4, .int x2)]) hx hb dX2_bestRow_138 hl (k := 3) rfl ez_27.symm (by decide) rfl (fun ls hl => ?_)
                refine lv_goto (tgt := 86) hx hb dX2_bestRow_141 (by decide) ?_
                exact ih86 z_27 v11_86 z_25 ls (by first | omega | assumption) (by first | omega | assumption) (by omega) (lv_sub hl [0, 1, 2, 4, 5, 6, 7, 8, 9, 10, 11, 12, 13] rfl)
              · have ic_26 : v12_86.toInt = x2.toInt := k_eq c_26 rfl rfl
                refine lv_iload hx hb dX2_bestRow_129 (lv_at hl 1 rfl) ?_
                refine lv_goto (tgt := 136) hx hb dX2_bestRow_131 (by decide) ?_
                refine lv_istore (lv' := [(11, .int r_22), (10, .int z_25), (13, .int r_22), (12, .int v12_86), (9, .int z_11), (8, .int z_9), (7, .int (g_q (Int32.toNatClampNeg z_5))), (6, .int (g_q (Int32.toNatClampNeg z_2))), (5, .int (g_q 6)), (0, .ref o), (1, .ref q), (2, .int x0), (3, .int x1), (4, .int x2)]) hx hb dX2_bestRow_136 hl (by decide) rfl (fun ls hl => ?_)
                obtain ⟨z_28, ez_28⟩ : ∃ y : Int32, y = v12_86 + Int32.ofInt (-1) := ⟨_, rfl⟩
                have iz_28 : z_28.toInt = v12_86.toInt + (-1) := k_addI ez_28 rfl (by decide) (by omega)
                refine lv_iinc (v := z_28) (lv' := [(12, .int z_28), (11, .int r_22), (10, .int z_25), (13, .int r_22), (9, .int z_11), (8, .int z_9), (7, .int (g_q (Int32.toNatClampNeg z_5))), (6, .int (g_q (Int32.toNatClampNeg z_2))), (5, .int (g_q 6)), (0, .ref o), (1, .ref q), (2, .int x0), (3, .int x1), (4, .int x2)]) hx hb dX2_bestRow_138 hl (k := 3) rfl ez_28.symm (by decide) rfl (fun ls hl => ?_)
                refine lv_goto (tgt := 86) hx hb dX2_bestRow_141 (by decide) ?_
                exact ih86 z_28 r_22 z_25 ls (by first | omega | assumption) (by first | omega | assumption) (by omega) (lv_sub hl [0, 1, 2, 4, 5, 6, 7, 8, 9, 10, 11, 12, 13] rfl)
    have lt_29 : ((-1) : Int32).toInt = (-1) := by decide
    have lt_30 : (0 : Int32).toInt = 0 := by decide
    exact lp86 100000 x1 (-1) 0 ls (by first | omega | assumption) (by first | omega | assumption) (by omega) hl
  · have ic_6 : (g_q (Int32.toNatClampNeg z_5)).toInt < 1 := k_nle c_6 (by decide) rfl
    refine lv_iconst (v := 0) hx hb dX2_bestRow_45 (by decide) ?_
    refine lv_goto (tgt := 59) hx hb dX2_bestRow_46 (by decide) ?_
    refine lv_istore (lv' := [(8, .int 0), (7, .int (g_q (Int32.toNatClampNeg z_5))), (6, .int (g_q (Int32.toNatClampNeg z_2))), (5, .int (g_q 6)), (0, .ref o), (1, .ref q), (2, .int x0), (3, .int x1), (4, .int x2)]) hx hb dX2_bestRow_59 hl (by decide) rfl (fun ls hl => ?_)
    refine lv_iload hx hb dX2_bestRow_61 (lv_at hl 0 rfl) ?_
    refine lv_aload_n hx hb dX2_bestRow_63 rfl (lv_at hl 5 rfl) ?_
    refine va_get (D := D) (ci := 1) (v := .ref q_c) (C := RX1) (T := TX1) (N := 1) hx hb hG inG_X1 hown hE.1 hP 1 rfl rfl 0 (by decide) (hG _ q_f_X2_34) (fun _ h9 => h9) rfl dX2_bestRow_64 ?_
    refine lv_bipush (v := 58) hx hb dX2_bestRow_67 (by decide) ?_
    refine lv_iload_n hx hb dX2_bestRow_69 rfl (lv_at hl 6 rfl) ?_
    refine lv_iadd hx hb dX2_bestRow_70 ?_
    refine lv_topi (fun z_31 ez_31 => ?_)
    have iz_31 : z_31.toInt = 58 + x0.toInt := k_addI ez_31 (by decide) rfl (by omega)
    refine va_iald hx hb hE.1 hP 2 0 rfl rfl (k_in (by omega)) dX2_bestRow_71 ?_
    refine k_top (z := (g_q (Int32.toNatClampNeg z_31))) rfl ?_
    refine va_mmin hx hb (by rw [hml]; exact hl.1.symm) hown (hG _ q_m_X2_51) (hG _ q_s_J9_min_7cf53) (hG _ q_z_J9) (hG _ q_c_J9_min_7cf53) (Nat.le_of_ble_eq_true rfl) (Nat.le_of_ble_eq_true rfl) (Nat.le_of_ble_eq_true rfl) (Nat.le_of_ble_eq_true rfl) dX2_bestRow_72 ?_
    refine lv_topi (fun z_32 ez_32 => ?_)
    obtain ⟨iz_32a, iz_32b, iz_32c⟩ := k_minI (a := (g_q (Int32.toNatClampNeg z_31)).toInt) (b := 0) ez_32 rfl (by decide)
    refine lv_istore (lv' := [(9, .int z_32), (8, .int 0), (7, .int (g_q (Int32.toNatClampNeg z_5))), (6, .int (g_q (Int32.toNatClampNeg z_2))), (5, .int (g_q 6)), (0, .ref o), (1, .ref q), (2, .int x0), (3, .int x1), (4, .int x2)]) hx hb dX2_bestRow_75 hl (by decide) rfl (fun ls hl => ?_)
    refine lv_iconst (v := 0) hx hb dX2_bestRow_77 (by decide) ?_
    refine lv_istore (lv' := [(10, .int 0), (9, .int z_32), (8, .int 0), (7, .int (g_q (Int32.toNatClampNeg z_5))), (6, .int (g_q (Int32.toNatClampNeg z_2))), (5, .int (g_q 6)), (0, .ref o), (1, .ref q), (2, .int x0), (3, .int x1), (4, .int x2)]) hx hb dX2_bestRow_78 hl (by decide) rfl (fun ls hl => ?_)
    refine lv_iconst (v := (-1)) hx hb dX2_bestRow_80 (by decide) ?_
    refine lv_istore (lv' := [(11, .int (-1)), (10, .int 0), (9, .int z_32), (8, .int 0), (7, .int (g_q (Int32.toNatClampNeg z_5))), (6, .int (g_q (Int32.toNatClampNeg z_2))), (5, .int (g_q 6)), (0, .ref o), (1, .ref q), (2, .int x0), (3, .int x1), (4, .int x2)]) hx hb dX2_bestRow_81 hl (by decide) rfl (fun ls hl => ?_)
    refine lv_iload_n hx hb dX2_bestRow_83 rfl (lv_at hl 10 rfl) ?_
    refine lv_istore (lv' := [(12, .int x1), (11, .int (-1)), (10, .int 0), (9, .int z_32), (8, .int 0), (7, .int (g_q (Int32.toNatClampNeg z_5))), (6, .int (g_q (Int32.toNatClampNeg z_2))), (5, .int (g_q 6)), (0, .ref o), (1, .ref q), (2, .int x0), (3, .int x1), (4, .int x2)]) hx hb dX2_bestRow_84 hl (by decide) rfl (fun ls hl => ?_)
    have lp86 : ∀ (fu : Nat) (v12_86 : Int32) (v11_86 : Int32) (v10_86 : Int32) (ls : Array Slot), (0 ≤ v12_86.toInt) → (v12_86.toInt ≤ 5) → v12_86.toInt < (fu : Int) → lv_has ls 14 [(12, .int v12_86), (11, .int v11_86), (10, .int v10_86), (9, .int z_32), (8, .int 0), (7, .int (g_q (Int32.toNatClampNeg z_5))), (6, .int (g_q (Int32.toNatClampNeg z_2))), (5, .int (g_q 6)), (0, .ref o), (1, .ref q), (2, .int x0), (3, .int x1), (4, .int x2)] → W p l e (kR 2 46) s m ([.ref o, .ref q, .int x0, .int x1, .int x2] : List Value).toArray below meth c s.heap [] 0 0 (MQ below (kQ (fun r => True)) ([.ref o, .ref q, .int x0, .int x1, .int x2] : List Value).toArray s 0 0 (fun _ => False)) (F0 m 86 ls []) := by
      intro fu86
      induction fu86 with
      | zero =>
        intro v12_86 v11_86 v10_86 ls j0_86 j1_86 hm86 hl
        exact absurd hm86 (by omega)
      | succ fu86 ih86 =>
        intro v12_86 v11_86 v10_86 ls j0_86 j1_86 hm86 hl
        refine lv_iload hx hb dX2_bestRow_86 (lv_at hl 0 rfl) ?_
        refine lv_iconst (v := 1) hx hb dX2_bestRow_88 (by decide) ?_
        refine lv_icmp_lt (tgt := 144) hx hb dX2_bestRow_89 (by decide) (fun c_33 => ?_) (fun c_33 => ?_)
        · have ic_33 : v12_86.toInt < 1 := k_lt c_33 rfl (by decide)
          refine lv_iload hx hb dX2_bestRow_144 (lv_at hl 12 rfl) ?_
          refine lv_if_ne (tgt := 162) hx hb dX2_bestRow_146 (by decide) (fun c_34 => ?_) (fun c_34 => ?_)
          · have ic_34 : x2.toInt ≠ 0 := k_ne c_34 rfl (by decide)
            refine lv_iload hx hb dX2_bestRow_162 (lv_at hl 1 rfl) ?_
            exact KP.rt F rfl trivial dX2_bestRow_164
          · have ic_34 : x2.toInt = 0 := k_eq c_34 rfl (by decide)
            refine lv_iload hx hb dX2_bestRow_149 (lv_at hl 6 rfl) ?_
            refine lv_iload hx hb dX2_bestRow_151 (lv_at hl 2 rfl) ?_
            refine lv_iload hx hb dX2_bestRow_153 (lv_at hl 5 rfl) ?_
            refine lv_imul hx hb dX2_bestRow_155 ?_
            refine lv_topi (fun z_35 ez_35 => ?_)
            refine va_mmin hx hb (by rw [hml]; exact hl.1.symm) hown (hG _ q_m_X2_51) (hG _ q_s_J9_min_7cf53) (hG _ q_z_J9) (hG _ q_c_J9_min_7cf53) (Nat.le_of_ble_eq_true rfl) (Nat.le_of_ble_eq_true rfl) (Nat.le_of_ble_eq_true rfl) (Nat.le_of_ble_eq_true rfl) dX2_bestRow_156 ?_
            refine lv_topi (fun z_36 ez_36 => ?_)
            obtain ⟨iz_36a, iz_36b, iz_36c⟩ := k_minI (a := z_35.toInt) (b := (g_q (Int32.toNatClampNeg z_2)).toInt) ez_36 rfl rfl
            refine lv_goto (tgt := 164) hx hb dX2_bestRow_159 (by decide) ?_
            exact KP.rt F rfl trivial dX2_bestRow_164
        · have ic_33 : 1 ≤ v12_86.toInt := k_nlt c_33 rfl (by decide)
          refine lv_iload hx hb dX2_bestRow_92 (lv_at hl 2 rfl) ?_
          refine lv_iload hx hb dX2_bestRow_94 (lv_at hl 3 rfl) ?_
          refine lv_icmp_ge (tgt := 144) hx hb dX2_bestRow_96 (by decide) (fun c_37 => ?_) (fun c_37 => ?_)
          · have ic_37 : z_32.toInt ≤ v10_86.toInt := k_le c_37 rfl rfl
            refine lv_iload hx hb dX2_bestRow_144 (lv_at hl 12 rfl) ?_
            refine lv_if_ne (tgt := 162) hx hb dX2_bestRow_146 (by decide) (fun c_38 => ?_) (fun c_38 => ?_)
            · have ic_38 : x2.toInt ≠ 0 := k_ne c_38 rfl (by decide)
              refine lv_iload hx hb dX2_bestRow_162 (lv_at hl 1 rfl) ?_
              exact KP.rt F rfl trivial dX2_bestRow_164
            · have ic_38 : x2.toInt = 0 := k_eq c_38 rfl (by decide)
              refine lv_iload hx hb dX2_bestRow_149 (lv_at hl 6 rfl) ?_
              refine lv_iload hx hb dX2_bestRow_151 (lv_at hl 2 rfl) ?_
              refine lv_iload hx hb dX2_bestRow_153 (lv_at hl 5 rfl) ?_
              refine lv_imul hx hb dX2_bestRow_155 ?_
              refine lv_topi (fun z_39 ez_39 => ?_)
              refine va_mmin hx hb (by rw [hml]; exact hl.1.symm) hown (hG _ q_m_X2_51) (hG _ q_s_J9_min_7cf53) (hG _ q_z_J9) (hG _ q_c_J9_min_7cf53) (Nat.le_of_ble_eq_true rfl) (Nat.le_of_ble_eq_true rfl) (Nat.le_of_ble_eq_true rfl) (Nat.le_of_ble_eq_true rfl) dX2_bestRow_156 ?_
              refine lv_topi (fun z_40 ez_40 => ?_)
              obtain ⟨iz_40a, iz_40b, iz_40c⟩ := k_minI (a := z_39.toInt) (b := (g_q (Int32.toNatClampNeg z_2)).toInt) ez_40 rfl rfl
              refine lv_goto (tgt := 164) hx hb dX2_bestRow_159 (by decide) ?_
              exact KP.rt F rfl trivial dX2_bestRow_164
          · have ic_37 : v10_86.toInt < z_32.toInt := k_nle c_37 rfl rfl
            refine lv_aload_n hx hb dX2_bestRow_99 rfl (lv_at hl 9 rfl) ?_
            refine lv_iload_n hx hb dX2_bestRow_100 rfl (lv_at hl 10 rfl) ?_
            refine lv_iload hx hb dX2_bestRow_101 (lv_at hl 7 rfl) ?_
            refine lv_iload hx hb dX2_bestRow_103 (lv_at hl 0 rfl) ?_
            refine lv_iadd hx hb dX2_bestRow_105 ?_
            refine lv_topi (fun z_41 ez_41 => ?_)
            refine lv_iconst (v := 1) hx hb dX2_bestRow_106 (by decide) ?_
            refine lv_isub hx hb dX2_bestRow_107 ?_
            refine lv_topi (fun z_42 ez_42 => ?_)
            refine kcV (As := [.int x0, .int z_42]) (rest := []) F hE hP hl.1 (cc_X1_ringThatHitsOwn l D cy (o := q) (x0 := x0) (x1 := z_42) (o_c := q_c) (g_o := g_q) (h_g_o := h_g_q) (p0 := (by first | omega | assumption)) (p1 := (by first | omega | assumption))) q_m_X2_57 mv_X1_ringThatHitsOwn ⟨(Nat.le_of_ble_eq_true rfl), (Nat.le_of_ble_eq_true rfl)⟩ [1, 2] rfl rfl rfl rfl rfl rfl (Nat.le_of_ble_eq_true rfl) ⟨(Nat.le_of_ble_eq_true rfl), (Nat.le_of_ble_eq_true rfl)⟩ dX2_bestRow_108 (fun r_43 er_43 => ?_)
            have er_43 : (-1 ≤ r_43.toInt) ∧ (r_43.toInt ≤ 5) := er_43
            obtain ⟨er_43a, er_43b⟩ := er_43
            refine lv_istore (lv' := [(13, .int r_43), (12, .int v12_86), (11, .int v11_86), (10, .int v10_86), (9, .int z_32), (8, .int 0), (7, .int (g_q (Int32.toNatClampNeg z_5))), (6, .int (g_q (Int32.toNatClampNeg z_2))), (5, .int (g_q 6)), (0, .ref o), (1, .ref q), (2, .int x0), (3, .int x1), (4, .int x2)]) hx hb dX2_bestRow_111 hl (by decide) rfl (fun ls hl => ?_)
            refine lv_iload hx hb dX2_bestRow_113 (lv_at hl 0 rfl) ?_
            refine lv_iconst (v := (-1)) hx hb dX2_bestRow_115 (by decide) ?_
            refine lv_icmp_eq (tgt := 138) hx hb dX2_bestRow_116 (by decide) (fun c_44 => ?_) (fun c_44 => ?_)
            · have ic_44 : r_43.toInt = (-1) := k_eq c_44 rfl (by decide)
              obtain ⟨z_45, ez_45⟩ : ∃ y : Int32, y = v12_86 + Int32.ofInt (-1) := ⟨_, rfl⟩
              have iz_45 : z_45.toInt = v12_86.toInt + (-1) := k_addI ez_45 rfl (by decide) (by omega)
              refine lv_iinc (v := z_45) (lv' := [(12, .int z_45), (13, .int r_43), (11, .int v11_86), (10, .int v10_86), (9, .int z_32), (8, .int 0), (7, .int (g_q (Int32.toNatClampNeg z_5))), (6, .int (g_q (Int32.toNatClampNeg z_2))), (5, .int (g_q 6)), (0, .ref o), (1, .ref q), (2, .int x0), (3, .int x1), (4, .int x2)]) hx hb dX2_bestRow_138 hl (k := 1) rfl ez_45.symm (by decide) rfl (fun ls hl => ?_)
              refine lv_goto (tgt := 86) hx hb dX2_bestRow_141 (by decide) ?_
              exact ih86 z_45 v11_86 v10_86 ls (by first | omega | assumption) (by first | omega | assumption) (by omega) (lv_sub hl [0, 2, 3, 4, 5, 6, 7, 8, 9, 10, 11, 12, 13] rfl)
            · have ic_44 : r_43.toInt ≠ (-1) := k_ne c_44 rfl (by decide)
              obtain ⟨z_46, ez_46⟩ : ∃ y : Int32, y = v10_86 + Int32.ofInt 1 := ⟨_, rfl⟩
              refine lv_iinc (v := z_46) (lv' := [(10, .int z_46), (13, .int r_43), (12, .int v12_86), (11, .int v11_86), (9, .int z_32), (8, .int 0), (7, .int (g_q (Int32.toNatClampNeg z_5))), (6, .int (g_q (Int32.toNatClampNeg z_2))), (5, .int (g_q 6)), (0, .ref o), (1, .ref q), (2, .int x0), (3, .int x1), (4, .int x2)]) hx hb dX2_bestRow_119 hl (k := 3) rfl ez_46.symm (by decide) rfl (fun ls hl => ?_)
              refine lv_iload hx hb dX2_bestRow_122 (lv_at hl 2 rfl) ?_
              refine lv_iload hx hb dX2_bestRow_124 (lv_at hl 13 rfl) ?_
              refine lv_icmp_ne (tgt := 134) hx hb dX2_bestRow_126 (by decide) (fun c_47 => ?_) (fun c_47 => ?_)
              · have ic_47 : v12_86.toInt ≠ x2.toInt := k_ne c_47 rfl rfl
                refine lv_iload hx hb dX2_bestRow_134 (lv_at hl 3 rfl) ?_
                refine lv_istore (lv' := [(11, .int v11_86), (10, .int z_46), (13, .int r_43), (12, .int v12_86), (9, .int z_32), (8, .int 0), (7, .int (g_q (Int32.toNatClampNeg z_5))), (6, .int (g_q (Int32.toNatClampNeg z_2))), (5, .int (g_q 6)), (0, .ref o), (1, .ref q), (2, .int x0), (3, .int x1), (4, .int x2)]) hx hb dX2_bestRow_136 hl (by decide) rfl (fun ls hl => ?_)
                obtain ⟨z_48, ez_48⟩ : ∃ y : Int32, y = v12_86 + Int32.ofInt (-1) := ⟨_, rfl⟩
                have iz_48 : z_48.toInt = v12_86.toInt + (-1) := k_addI ez_48 rfl (by decide) (by omega)
                refine lv_iinc (v := z_48) (lv' := [(12, .int z_48), (11, .int v11_86), (10, .int z_46), (13, .int r_43), (9, .int z_32), (8, .int 0), (7, .int (g_q (Int32.toNatClampNeg z_5))), (6, .int (g_q (Int32.toNatClampNeg z_2))), (5, .int (g_q 6)), (0, .ref o), (1, .ref q), (2, .int x0), (3, .int x1), (4, .int x2)]) hx hb dX2_bestRow_138 hl (k := 3) rfl ez_48.symm (by decide) rfl (fun ls hl => ?_)
                refine lv_goto (tgt := 86) hx hb dX2_bestRow_141 (by decide) ?_
                exact ih86 z_48 v11_86 z_46 ls (by first | omega | assumption) (by first | omega | assumption) (by omega) (lv_sub hl [0, 1, 2, 4, 5, 6, 7, 8, 9, 10, 11, 12, 13] rfl)
              · have ic_47 : v12_86.toInt = x2.toInt := k_eq c_47 rfl rfl
                refine lv_iload hx hb dX2_bestRow_129 (lv_at hl 1 rfl) ?_
                refine lv_goto (tgt := 136) hx hb dX2_bestRow_131 (by decide) ?_
                refine lv_istore (lv' := [(11, .int r_43), (10, .int z_46), (13, .int r_43), (12, .int v12_86), (9, .int z_32), (8, .int 0), (7, .int (g_q (Int32.toNatClampNeg z_5))), (6, .int (g_q (Int32.toNatClampNeg z_2))), (5, .int (g_q 6)), (0, .ref o), (1, .ref q), (2, .int x0), (3, .int x1), (4, .int x2)]) hx hb dX2_bestRow_136 hl (by decide) rfl (fun ls hl => ?_)
                obtain ⟨z_49, ez_49⟩ : ∃ y : Int32, y = v12_86 + Int32.ofInt (-1) := ⟨_, rfl⟩
                have iz_49 : z_49.toInt = v12_86.toInt + (-1) := k_addI ez_49 rfl (by decide) (by omega)
                refine lv_iinc (v := z_49) (lv' := [(12, .int z_49), (11, .int r_43), (10, .int z_46), (13, .int r_43), (9, .int z_32), (8, .int 0), (7, .int (g_q (Int32.toNatClampNeg z_5))), (6, .int (g_q (Int32.toNatClampNeg z_2))), (5, .int (g_q 6)), (0, .ref o), (1, .ref q), (2, .int x0), (3, .int x1), (4, .int x2)]) hx hb dX2_bestRow_138 hl (k := 3) rfl ez_49.symm (by decide) rfl (fun ls hl => ?_)
                refine lv_goto (tgt := 86) hx hb dX2_bestRow_141 (by decide) ?_
                exact ih86 z_49 r_43 z_46 ls (by first | omega | assumption) (by first | omega | assumption) (by omega) (lv_sub hl [0, 1, 2, 4, 5, 6, 7, 8, 9, 10, 11, 12, 13] rfl)
    have lt_50 : ((-1) : Int32).toInt = (-1) := by decide
    have lt_51 : (0 : Int32).toInt = 0 := by decide
    exact lp86 100000 x1 (-1) 0 ls (by first | omega | assumption) (by first | omega | assumption) (by omega) hl

set_option maxHeartbeats 4000000 in
set_option maxRecDepth 100000 in
theorem cc_X2_easedSince (l : Launch) (D : va_G) (cy : Nat → ClassId) (o : Nat) (o_one : Nat) (o_oth : Nat) (o_which : Int32) (o_much : Int32) (o_drawn : Int32) (q : Nat) (q_c : Nat) (g_q : Nat → Int32) (v : Nat) (v_c : Nat) (g_v : Nat → Int32) (h_g_q : FV g_q) (h_g_v : FV g_v) : KP l yX2_easedSince cX2_easedSince 3 (some .int) 1 23 D (kTY cy) [.ref o, .ref q, .ref v] [(o, .inr (2, [.int o_which, .int o_much, .int o_drawn, .ref o_one, .ref o_oth])), (q, .inr (1, [.ref q_c])), (q_c, .inl (cy 0, 63, .inl g_q)), (v, .inr (1, [.ref v_c])), (v_c, .inl (cy 0, 63, .inl g_v))] (fun r => True) := by
  refine KP.of (by decide) (Nat.le_of_ble_eq_true rfl) (fun p e s m below meth c ls F hE hP hl => ?_)
  have F : kF p s m meth c cX2_easedSince 3 (some .int) _ RX2 := F
  obtain ⟨hx, hb, hr, hml, hown, hG, hlk⟩ := id F
  have hl : lv_has ls 3 [(0, .ref o), (1, .ref q), (2, .ref v)] := hl
  obtain ⟨⟨b_1a, b_1b⟩, ⟨b_1c, b_1d⟩, ⟨b_1e, b_1f⟩⟩ := FV.bounds h_g_q
  obtain ⟨⟨b_2a, b_2b⟩, ⟨b_2c, b_2d⟩, ⟨b_2e, b_2f⟩⟩ := FV.bounds h_g_v
  refine lv_aload_n hx hb dX2_easedSince_0 rfl (lv_at hl 1 rfl) ?_
  refine lv_bipush (v := 53) hx hb dX2_easedSince_1 (by decide) ?_
  have lt32_2 : (53 : Int32).toInt = 53 := by decide
  refine kcV (As := [.int 53]) (rest := []) F hE hP hl.1 (cc_X1_sumOfArchers l D cy (o := q) (x0 := 53) (o_c := q_c) (g_o := g_q) (h_g_o := h_g_q) (p0 := (by first | omega | assumption)) (p1 := (by first | omega | assumption))) q_m_X2_80 mv_X1_sumOfArchers ⟨(Nat.le_of_ble_eq_true rfl), (Nat.le_of_ble_eq_true rfl)⟩ [1, 2] rfl rfl rfl rfl rfl rfl (Nat.le_of_ble_eq_true rfl) ⟨(Nat.le_of_ble_eq_true rfl), (Nat.le_of_ble_eq_true rfl)⟩ dX2_easedSince_3 (fun r_4 er_4 => ?_)
  refine lv_aload_n hx hb dX2_easedSince_6 rfl (lv_at hl 2 rfl) ?_
  refine lv_bipush (v := 53) hx hb dX2_easedSince_7 (by decide) ?_
  have lt32_4 : (53 : Int32).toInt = 53 := by decide
  refine kcV (As := [.int 53]) (rest := [.int r_4]) F hE hP hl.1 (cc_X1_sumOfArchers l D cy (o := v) (x0 := 53) (o_c := v_c) (g_o := g_v) (h_g_o := h_g_v) (p0 := (by first | omega | assumption)) (p1 := (by first | omega | assumption))) q_m_X2_80 mv_X1_sumOfArchers ⟨(Nat.le_of_ble_eq_true rfl), (Nat.le_of_ble_eq_true rfl)⟩ [3, 4] rfl rfl rfl rfl rfl rfl (Nat.le_of_ble_eq_true rfl) ⟨(Nat.le_of_ble_eq_true rfl), (Nat.le_of_ble_eq_true rfl)⟩ dX2_easedSince_9 (fun r_6 er_6 => ?_)
  refine lv_isub hx hb dX2_easedSince_12 ?_
  refine lv_topi (fun z_7 ez_7 => ?_)
  exact KP.rt F rfl trivial dX2_easedSince_13

set_option maxHeartbeats 4000000 in
set_option maxRecDepth 100000 in
theorem cc_X2_takeIfMore (l : Launch) (D : va_G) (cy : Nat → ClassId) (o : Nat) (o_one : Nat) (o_oth : Nat) (o_which : Int32) (o_much : Int32) (o_drawn : Int32) (x0 : Int32) (x1 : Int32)  : KV l yX2_takeIfMore cX2_takeIfMore 3 0 0 D (kTY cy) [.ref o, .int x0, .int x1] [(o, .inr (2, [.int o_which, .int o_much, .int o_drawn, .ref o_one, .ref o_oth]))] (S := Int32 × Int32) (fun u => True) (fun u => [(o, .inr (2, [.int (u.1), .int (u.2), .int o_drawn, .ref o_one, .ref o_oth]))]) 0 0 := by
  refine KV.of (by decide) (Nat.le_of_ble_eq_true rfl) (fun p e s m below meth c ls A F hin hE hP hD hA hS hl => ?_)
  have F : kF p s m meth c cX2_takeIfMore 3 none _ RX2 := F
  obtain ⟨hx, hb, hr, hml, hown, hG, hlk⟩ := id F
  have hl : lv_has ls 3 [(0, .ref o), (1, .int x0), (2, .int x1)] := hl
  refine lv_iload_n hx hb dX2_takeIfMore_0 rfl (lv_at hl 2 rfl) ?_
  refine lv_aload_n hx hb dX2_takeIfMore_1 rfl (lv_at hl 0 rfl) ?_
  refine va_get (D := D) (ci := 2) (v := .int o_much) (C := RX2) (T := TX2) (N := 5) hx hb hG inG_X2 hown hE.1 hP 0 rfl rfl 1 (by decide) (hG _ q_f_X2_15) (fun _ h9 => h9) rfl dX2_takeIfMore_2 ?_
  refine lv_icmp_le (tgt := 18) hx hb dX2_takeIfMore_5 (by decide) (fun c_1 => ?_) (fun c_1 => ?_)
  · have ic_1 : x1.toInt ≤ o_much.toInt := k_le c_1 rfl rfl
    exact KV.rt ⟨o_which, o_much⟩ F (hP.sub [0] rfl) (hD.sub [0] (by decide) rfl) hS trivial (Nat.le_of_ble_eq_true rfl) (Nat.le_of_ble_eq_true rfl) dX2_takeIfMore_18
  · have ic_1 : o_much.toInt < x1.toInt := k_nle c_1 rfl rfl
    refine lv_aload_n hx hb dX2_takeIfMore_8 rfl (lv_at hl 0 rfl) ?_
    refine lv_iload_n hx hb dX2_takeIfMore_9 rfl (lv_at hl 1 rfl) ?_
    refine va_put (D := D) (ci := 2) (v := .int x0) (ty := .int) (C := RX2) (T := TX2) (N := 5) hx hb hG inG_X2 tyX2 tyX2_ok nmX2 hown hE.1 hP hD hS 0 rfl rfl 0 (by decide) (hG _ q_f_X2_9) (fun _ h9 => h9) rfl (by decide +kernel) rfl rfl (Nat.le_of_ble_eq_true rfl) dX2_takeIfMore_10 (fun H locs hP hD hS => ?_)
    have hP : va_P D vwCl [(o, .inr (2, [.int x0, .int o_much, .int o_drawn, .ref o_one, .ref o_oth]))] H := hP
    have hD : va_D A [(o, .inr (2, [.int x0, .int o_much, .int o_drawn, .ref o_one, .ref o_oth]))] := hD
    refine lv_aload_n hx hb dX2_takeIfMore_13 rfl (lv_at hl 0 rfl) ?_
    refine lv_iload_n hx hb dX2_takeIfMore_14 rfl (lv_at hl 2 rfl) ?_
    refine va_put (D := D) (ci := 2) (v := .int x1) (ty := .int) (C := RX2) (T := TX2) (N := 5) hx hb hG inG_X2 tyX2 tyX2_ok nmX2 hown hE.1 hP hD hS 0 rfl rfl 1 (by decide) (hG _ q_f_X2_15) (fun _ h9 => h9) rfl (by decide +kernel) rfl rfl (Nat.le_of_ble_eq_true rfl) dX2_takeIfMore_15 (fun H locs hP hD hS => ?_)
    have hP : va_P D vwCl [(o, .inr (2, [.int x0, .int x1, .int o_drawn, .ref o_one, .ref o_oth]))] H := hP
    have hD : va_D A [(o, .inr (2, [.int x0, .int x1, .int o_drawn, .ref o_one, .ref o_oth]))] := hD
    exact KV.rt ⟨x0, x1⟩ F (hP.sub [0] rfl) (hD.sub [0] (by decide) rfl) hS trivial (Nat.le_of_ble_eq_true rfl) (Nat.le_of_ble_eq_true rfl) dX2_takeIfMore_18

set_option maxHeartbeats 4000000 in
set_option maxRecDepth 100000 in
theorem cc_findPlaceN (l : Launch) (D : va_G) (cy : Nat → ClassId) {Z : (Nat → Prop) → State → Heap → Prop} (hz : zOK Z) {TT : va_W} (zt : ∀ (A : Nat → Prop) (U : State) (H : Heap), Z A U H → va_P D vwCl TT H) (o : Nat) (o_one : Nat) (o_oth : Nat) (o_which : Int32) (o_much : Int32) (o_drawn : Int32) (q : Nat) (qf : Nat) (qf_c : Nat) (g_qf : Nat → Int32) (q_ca : Nat) (q_bo : Nat) (q_wd : Nat) (q_sk : Nat) (q_gust : Int32) (q_still : Int32) (q_rv : Value) (g_qca : Nat → Int32) (g_qbo : Nat → Int32) (g_qwd : Nat → Int64) (g_qsk : Nat → Int64) (v : Nat) (v_c : Nat) (g_v : Nat → Int32) (x0 : Int32) (x1 : Int32) (h_g_qf : FV g_qf) (h_g_qbo : PLV g_qbo) (h_g_v : FV g_v) (p0 : 0 ≤ x0.toInt) (p1 : x0.toInt ≤ 5) (p2 : 0 ≤ x1.toInt) (p3 : x1.toInt ≤ 100) : JV l yX2_findPlace cX2_findPlace 7 6 148 D (kTY cy) [.ref o, .ref q, .ref v, .null, .int x0, .int x1] [(o, .inr (2, [.int o_which, .int o_much, .int o_drawn, .ref o_one, .ref o_oth])), (q, .inr (6, [.ref qf, .ref q_ca, .ref q_bo, .int q_gust, .int q_still, q_rv, .ref q_wd, .ref q_sk])), (qf, .inr (1, [.ref qf_c])), (qf_c, .inl (cy 0, 63, .inl g_qf)), (q_ca, .inl (cy 0, 5, .inl g_qca)), (q_bo, .inl (cy 0, 5, .inl g_qbo)), (q_wd, .inl (cy 1, 13, .inr (.inl g_qwd))), (q_sk, .inl (cy 1, 64, .inr (.inl g_qsk))), (v, .inr (1, [.ref v_c])), (v_c, .inl (cy 0, 63, .inl g_v))] Z (S := Int32 × Int32 × (Nat → Int32) × Int32 × Int32 × Value × (Nat → Int32) × (Nat → Int32) × (Nat → Int64) × (Nat → Int64)) (fun u => FV (u.2.2.1) ∧ PLV (u.2.2.2.2.2.2.2.1)) (fun u => [(o, .inr (2, [.int (u.1), .int (u.2.1), .int o_drawn, .ref o_one, .ref o_oth])), (q, .inr (6, [.ref qf, .ref q_ca, .ref q_bo, .int (u.2.2.2.1), .int (u.2.2.2.2.1), (u.2.2.2.2.2.1), .ref q_wd, .ref q_sk])), (qf, .inr (1, [.ref qf_c])), (qf_c, .inl (cy 0, 63, .inl (u.2.2.1))), (q_ca, .inl (cy 0, 5, .inl (u.2.2.2.2.2.2.1))), (q_bo, .inl (cy 0, 5, .inl (u.2.2.2.2.2.2.2.1))), (q_wd, .inl (cy 1, 13, .inr (.inl (u.2.2.2.2.2.2.2.2.1)))), (q_sk, .inl (cy 1, 64, .inr (.inl (u.2.2.2.2.2.2.2.2.2)))), (v, .inr (1, [.ref v_c])), (v_c, .inl (cy 0, 63, .inl g_v))]) 0 0 := by
  refine JV.of (by decide) (Nat.le_of_ble_eq_true rfl) (fun p e s m below meth c ls A F hin hE hP hD hA hS hl hZ => ?_)
  have F : kF p s m meth c cX2_findPlace 7 none _ RX2 := F
  obtain ⟨hx, hb, hr, hml, hown, hG, hlk⟩ := id F
  have hl : lv_has ls 7 [(0, .ref o), (1, .ref q), (2, .ref v), (3, .null), (4, .int x0), (5, .int x1)] := hl
  obtain ⟨⟨b_1a, b_1b⟩, ⟨b_1c, b_1d⟩, ⟨b_1e, b_1f⟩⟩ := FV.bounds h_g_qf
  obtain ⟨⟨b_2a, b_2b⟩, ⟨b_2c, b_2d⟩, ⟨b_2e, b_2f⟩⟩ := FV.bounds h_g_v
  refine lv_aload_n hx hb dX2_findPlace_0 rfl (lv_at hl 0 rfl) ?_
  refine lv_aload_n hx hb dX2_findPlace_1 rfl (lv_at hl 2 rfl) ?_
  refine va_get (D := D) (ci := 1) (v := .ref v_c) (C := RX1) (T := TX1) (N := 1) hx hb hG inG_X1 hown hE.1 hP 8 rfl rfl 0 (by decide) (hG _ q_f_X2_34) (fun _ h9 => h9) rfl dX2_findPlace_2 ?_
  refine lv_bipush (v := 20) hx hb dX2_findPlace_5 (by decide) ?_
  refine lv_iload hx hb dX2_findPlace_7 (lv_at hl 4 rfl) ?_
  refine lv_iadd hx hb dX2_findPlace_9 ?_
  refine lv_topi (fun z_3 ez_3 => ?_)
  have iz_3 : z_3.toInt = 20 + x0.toInt := k_addI ez_3 (by decide) rfl (by omega)
  refine va_iald hx hb hE.1 hP 9 0 rfl rfl (k_in (by omega)) dX2_findPlace_10 ?_
  refine k_top (z := (g_v (Int32.toNatClampNeg z_3))) rfl ?_
  refine va_put (D := D) (ci := 2) (v := .int (g_v (Int32.toNatClampNeg z_3))) (ty := .int) (C := RX2) (T := TX2) (N := 5) hx hb hG inG_X2 tyX2 tyX2_ok nmX2 hown hE.1 hP hD hS 0 rfl rfl 0 (by decide) (hG _ q_f_X2_9) (fun _ h9 => h9) rfl (by decide +kernel) rfl rfl (Nat.le_of_ble_eq_true rfl) dX2_findPlace_11 (fun H locs hP hD hS => ?_)
  have hP : va_P D vwCl [(o, .inr (2, [.int (g_v (Int32.toNatClampNeg z_3)), .int o_much, .int o_drawn, .ref o_one, .ref o_oth])), (q, .inr (6, [.ref qf, .ref q_ca, .ref q_bo, .int q_gust, .int q_still, q_rv, .ref q_wd, .ref q_sk])), (qf, .inr (1, [.ref qf_c])), (qf_c, .inl (cy 0, 63, .inl g_qf)), (q_ca, .inl (cy 0, 5, .inl g_qca)), (q_bo, .inl (cy 0, 5, .inl g_qbo)), (q_wd, .inl (cy 1, 13, .inr (.inl g_qwd))), (q_sk, .inl (cy 1, 64, .inr (.inl g_qsk))), (v, .inr (1, [.ref v_c])), (v_c, .inl (cy 0, 63, .inl g_v))] H := hP
  have hD : va_D A [(o, .inr (2, [.int (g_v (Int32.toNatClampNeg z_3)), .int o_much, .int o_drawn, .ref o_one, .ref o_oth])), (q, .inr (6, [.ref qf, .ref q_ca, .ref q_bo, .int q_gust, .int q_still, q_rv, .ref q_wd, .ref q_sk])), (qf, .inr (1, [.ref qf_c])), (qf_c, .inl (cy 0, 63, .inl g_qf)), (q_ca, .inl (cy 0, 5, .inl g_qca)), (q_bo, .inl (cy 0, 5, .inl g_qbo)), (q_wd, .inl (cy 1, 13, .inr (.inl g_qwd))), (q_sk, .inl (cy 1, 64, .inr (.inl g_qsk))), (v, .inr (1, [.ref v_c])), (v_c, .inl (cy 0, 63, .inl g_v))] := hD
  refine lv_aload_n hx hb dX2_findPlace_14 rfl (lv_at hl 1 rfl) ?_
  refine lv_aload_n hx hb dX2_findPlace_15 rfl (lv_at hl 2 rfl) ?_
  refine lv_aload_nN hx hb dX2_findPlace_16 rfl (lv_at hl 3 rfl) ?_
  refine jwVV (wr := [(o, .inr (2, [.int (g_v (Int32.toNatClampNeg z_3)), .int o_much, .int o_drawn, .ref o_one, .ref o_oth]))]) (As := [.ref v, .null]) (rest := []) F hE hP hD hS hA hl.1 hz hZ (cc_startFromN l D cy (Z := Z) (hz := hz) (TT := TT) (zt := zt) (o := q) (q := v) (of := qf) (o_ca := q_ca) (o_bo := q_bo) (o_gust := q_gust) (o_still := q_still) (o_rv := q_rv) (o_wd := q_wd) (o_sk := q_sk) (of_c := qf_c) (g_of := g_qf) (g_oca := g_qca) (g_obo := g_qbo) (g_owd := g_qwd) (g_osk := g_qsk) (q_c := v_c) (g_q := g_v) (h_g_of := h_g_qf) (h_g_obo := h_g_qbo) (h_g_q := h_g_v)) q_m_X2_60 mv_X6_startFrom ⟨(Nat.le_of_ble_eq_true rfl), (Nat.le_of_ble_eq_true rfl)⟩ [1, 2, 3, 4, 5, 6, 7, 8, 9] [0] (by decide) rfl rfl (by decide) (by decide) rfl rfl rfl rfl rfl (Nat.le_of_ble_eq_true rfl) ⟨(Nat.le_of_ble_eq_true rfl), (Nat.le_of_ble_eq_true rfl)⟩ dX2_findPlace_17 (fun u_4 H locs eu_4 hP hD hS => ?_)
  obtain ⟨g_of_5, o_gust_6, o_still_7, o_rv_8, g_obo_9⟩ := u_4
  have eu_4 : FV g_of_5 ∧ PLV g_obo_9 ∧ (RIn TT (cy 0) o_rv_8) := eu_4
  obtain ⟨eu_4a, eu_4b, eu_4c⟩ := eu_4
  have hP : va_P D vwCl [(o, .inr (2, [.int (g_v (Int32.toNatClampNeg z_3)), .int o_much, .int o_drawn, .ref o_one, .ref o_oth])), (q, .inr (6, [.ref qf, .ref q_ca, .ref q_bo, .int o_gust_6, .int o_still_7, o_rv_8, .ref q_wd, .ref q_sk])), (qf, .inr (1, [.ref qf_c])), (qf_c, .inl (cy 0, 63, .inl g_of_5)), (q_ca, .inl (cy 0, 5, .inl g_qca)), (q_bo, .inl (cy 0, 5, .inl g_obo_9)), (q_wd, .inl (cy 1, 13, .inr (.inl g_qwd))), (q_sk, .inl (cy 1, 64, .inr (.inl g_qsk))), (v, .inr (1, [.ref v_c])), (v_c, .inl (cy 0, 63, .inl g_v))] H := hP
  have hD : va_D A [(o, .inr (2, [.int (g_v (Int32.toNatClampNeg z_3)), .int o_much, .int o_drawn, .ref o_one, .ref o_oth])), (q, .inr (6, [.ref qf, .ref q_ca, .ref q_bo, .int o_gust_6, .int o_still_7, o_rv_8, .ref q_wd, .ref q_sk])), (qf, .inr (1, [.ref qf_c])), (qf_c, .inl (cy 0, 63, .inl g_of_5)), (q_ca, .inl (cy 0, 5, .inl g_qca)), (q_bo, .inl (cy 0, 5, .inl g_obo_9)), (q_wd, .inl (cy 1, 13, .inr (.inl g_qwd))), (q_sk, .inl (cy 1, 64, .inr (.inl g_qsk))), (v, .inr (1, [.ref v_c])), (v_c, .inl (cy 0, 63, .inl g_v))] := hD
  obtain ⟨⟨b_10a, b_10b⟩, ⟨b_10c, b_10d⟩, ⟨b_10e, b_10f⟩⟩ := FV.bounds eu_4a
  refine lv_aload_n hx hb dX2_findPlace_20 rfl (lv_at hl 1 rfl) ?_
  refine lv_iload hx hb dX2_findPlace_21 (lv_at hl 5 rfl) ?_
  refine jwVV (wr := [(o, .inr (2, [.int (g_v (Int32.toNatClampNeg z_3)), .int o_much, .int o_drawn, .ref o_one, .ref o_oth])), (v, .inr (1, [.ref v_c])), (v_c, .inl (cy 0, 63, .inl g_v))]) (As := [.int x1]) (rest := []) F hE hP hD hS hA hl.1 hz hZ (cc_X6_playRounds l D cy (Z := Z) (hz := hz) (TT := TT) (zt := zt) (o := q) (x0 := x1) (of := qf) (o_ca := q_ca) (o_bo := q_bo) (o_gust := o_gust_6) (o_still := o_still_7) (o_rv := o_rv_8) (o_wd := q_wd) (o_sk := q_sk) (of_c := qf_c) (g_of := g_of_5) (g_oca := g_qca) (g_obo := g_obo_9) (g_owd := g_qwd) (g_osk := g_qsk) (h_g_of := eu_4a) (h_g_obo := eu_4b) (hrv := (by first | omega | assumption)) (p0 := (by first | omega | assumption)) (p1 := (by first | omega | assumption))) q_m_X2_64 mv_X6_playRounds ⟨(Nat.le_of_ble_eq_true rfl), (Nat.le_of_ble_eq_true rfl)⟩ [1, 2, 3, 4, 5, 6, 7] [0, 8, 9] (by decide) rfl rfl (by decide) (by decide) rfl rfl rfl rfl rfl (Nat.le_of_ble_eq_true rfl) ⟨(Nat.le_of_ble_eq_true rfl), (Nat.le_of_ble_eq_true rfl)⟩ dX2_findPlace_23 (fun u_11 H locs eu_11 hP hD hS => ?_)
  obtain ⟨g_of_12, o_still_13, g_oca_14, g_owd_15, g_osk_16⟩ := u_11
  have eu_11 : FV g_of_12 := eu_11
  have hP : va_P D vwCl [(o, .inr (2, [.int (g_v (Int32.toNatClampNeg z_3)), .int o_much, .int o_drawn, .ref o_one, .ref o_oth])), (v, .inr (1, [.ref v_c])), (v_c, .inl (cy 0, 63, .inl g_v)), (q, .inr (6, [.ref qf, .ref q_ca, .ref q_bo, .int o_gust_6, .int o_still_13, o_rv_8, .ref q_wd, .ref q_sk])), (qf, .inr (1, [.ref qf_c])), (qf_c, .inl (cy 0, 63, .inl g_of_12)), (q_ca, .inl (cy 0, 5, .inl g_oca_14)), (q_bo, .inl (cy 0, 5, .inl g_obo_9)), (q_wd, .inl (cy 1, 13, .inr (.inl g_owd_15))), (q_sk, .inl (cy 1, 64, .inr (.inl g_osk_16)))] H := hP
  have hD : va_D A [(o, .inr (2, [.int (g_v (Int32.toNatClampNeg z_3)), .int o_much, .int o_drawn, .ref o_one, .ref o_oth])), (v, .inr (1, [.ref v_c])), (v_c, .inl (cy 0, 63, .inl g_v)), (q, .inr (6, [.ref qf, .ref q_ca, .ref q_bo, .int o_gust_6, .int o_still_13, o_rv_8, .ref q_wd, .ref q_sk])), (qf, .inr (1, [.ref qf_c])), (qf_c, .inl (cy 0, 63, .inl g_of_12)), (q_ca, .inl (cy 0, 5, .inl g_oca_14)), (q_bo, .inl (cy 0, 5, .inl g_obo_9)), (q_wd, .inl (cy 1, 13, .inr (.inl g_owd_15))), (q_sk, .inl (cy 1, 64, .inr (.inl g_osk_16)))] := hD
  obtain ⟨⟨b_17a, b_17b⟩, ⟨b_17c, b_17d⟩, ⟨b_17e, b_17f⟩⟩ := FV.bounds eu_11
  refine lv_aload_n hx hb dX2_findPlace_26 rfl (lv_at hl 0 rfl) ?_
  refine lv_aload_n hx hb dX2_findPlace_27 rfl (lv_at hl 0 rfl) ?_
  refine lv_aload_n hx hb dX2_findPlace_28 rfl (lv_at hl 2 rfl) ?_
  refine lv_aload_n hx hb dX2_findPlace_29 rfl (lv_at hl 1 rfl) ?_
  refine va_get (D := D) (ci := 6) (v := .ref qf) (C := RX6) (T := TX6) (N := 8) hx hb hG inG_X6 hown hE.1 hP 3 rfl rfl 0 (by decide) (hG _ q_f_X2_28) (fun _ h9 => h9) rfl dX2_findPlace_30 ?_
  refine kcV (As := [.ref v, .ref qf]) (rest := [.ref o]) F hE hP hl.1 (cc_X2_easedSince l D cy (o := o) (q := v) (v := qf) (o_which := (g_v (Int32.toNatClampNeg z_3))) (o_much := o_much) (o_drawn := o_drawn) (o_one := o_one) (o_oth := o_oth) (q_c := v_c) (g_q := g_v) (v_c := qf_c) (g_v := g_of_12) (h_g_q := h_g_v) (h_g_v := eu_11)) q_m_X2_68 mv_X2_easedSince ⟨(Nat.le_of_ble_eq_true rfl), (Nat.le_of_ble_eq_true rfl)⟩ [0, 1, 2, 4, 5] rfl rfl rfl rfl rfl rfl (Nat.le_of_ble_eq_true rfl) ⟨(Nat.le_of_ble_eq_true rfl), (Nat.le_of_ble_eq_true rfl)⟩ dX2_findPlace_33 (fun r_18 er_18 => ?_)
  refine va_put (D := D) (ci := 2) (v := .int r_18) (ty := .int) (C := RX2) (T := TX2) (N := 5) hx hb hG inG_X2 tyX2 tyX2_ok nmX2 hown hE.1 hP hD hS 0 rfl rfl 1 (by decide) (hG _ q_f_X2_15) (fun _ h9 => h9) rfl (by decide +kernel) rfl rfl (Nat.le_of_ble_eq_true rfl) dX2_findPlace_36 (fun H locs hP hD hS => ?_)
  have hP : va_P D vwCl [(o, .inr (2, [.int (g_v (Int32.toNatClampNeg z_3)), .int r_18, .int o_drawn, .ref o_one, .ref o_oth])), (v, .inr (1, [.ref v_c])), (v_c, .inl (cy 0, 63, .inl g_v)), (q, .inr (6, [.ref qf, .ref q_ca, .ref q_bo, .int o_gust_6, .int o_still_13, o_rv_8, .ref q_wd, .ref q_sk])), (qf, .inr (1, [.ref qf_c])), (qf_c, .inl (cy 0, 63, .inl g_of_12)), (q_ca, .inl (cy 0, 5, .inl g_oca_14)), (q_bo, .inl (cy 0, 5, .inl g_obo_9)), (q_wd, .inl (cy 1, 13, .inr (.inl g_owd_15))), (q_sk, .inl (cy 1, 64, .inr (.inl g_osk_16)))] H := hP
  have hD : va_D A [(o, .inr (2, [.int (g_v (Int32.toNatClampNeg z_3)), .int r_18, .int o_drawn, .ref o_one, .ref o_oth])), (v, .inr (1, [.ref v_c])), (v_c, .inl (cy 0, 63, .inl g_v)), (q, .inr (6, [.ref qf, .ref q_ca, .ref q_bo, .int o_gust_6, .int o_still_13, o_rv_8, .ref q_wd, .ref q_sk])), (qf, .inr (1, [.ref qf_c])), (qf_c, .inl (cy 0, 63, .inl g_of_12)), (q_ca, .inl (cy 0, 5, .inl g_oca_14)), (q_bo, .inl (cy 0, 5, .inl g_obo_9)), (q_wd, .inl (cy 1, 13, .inr (.inl g_owd_15))), (q_sk, .inl (cy 1, 64, .inr (.inl g_osk_16)))] := hD
  refine lv_iconst (v := 0) hx hb dX2_findPlace_39 (by decide) ?_
  refine lv_istore (lv' := [(6, .int 0), (0, .ref o), (1, .ref q), (2, .ref v), (3, .null), (4, .int x0), (5, .int x1)]) hx hb dX2_findPlace_40 hl (by decide) rfl (fun ls hl => ?_)
  have lp42 : ∀ (fu : Nat) (v6_42 : Int32) (w0_o_42 : Int32) (w1_o_42 : Int32) (w3_q_42 : Int32) (w4_q_42 : Int32) (w5_q_42 : Value) (gqf_c_42 : Nat → Int32) (gq_ca_42 : Nat → Int32) (gq_bo_42 : Nat → Int32) (gq_wd_42 : Nat → Int64) (gq_sk_42 : Nat → Int64) (H : Heap) (locs : List Loc) (ls : Array Slot), FV gqf_c_42 → PLV gq_bo_42 → (0 ≤ v6_42.toInt) → (v6_42.toInt ≤ 2147483647) → 2147483647 - v6_42.toInt < (fu : Int) → va_P D vwCl [(o, .inr (2, [.int w0_o_42, .int w1_o_42, .int o_drawn, .ref o_one, .ref o_oth])), (v, .inr (1, [.ref v_c])), (v_c, .inl (cy 0, 63, .inl g_v)), (q, .inr (6, [.ref qf, .ref q_ca, .ref q_bo, .int w3_q_42, .int w4_q_42, w5_q_42, .ref q_wd, .ref q_sk])), (qf, .inr (1, [.ref qf_c])), (qf_c, .inl (cy 0, 63, .inl gqf_c_42)), (q_ca, .inl (cy 0, 5, .inl gq_ca_42)), (q_bo, .inl (cy 0, 5, .inl gq_bo_42)), (q_wd, .inl (cy 1, 13, .inr (.inl gq_wd_42))), (q_sk, .inl (cy 1, 64, .inr (.inl gq_sk_42)))] H → va_D A [(o, .inr (2, [.int w0_o_42, .int w1_o_42, .int o_drawn, .ref o_one, .ref o_oth])), (v, .inr (1, [.ref v_c])), (v_c, .inl (cy 0, 63, .inl g_v)), (q, .inr (6, [.ref qf, .ref q_ca, .ref q_bo, .int w3_q_42, .int w4_q_42, w5_q_42, .ref q_wd, .ref q_sk])), (qf, .inr (1, [.ref qf_c])), (qf_c, .inl (cy 0, 63, .inl gqf_c_42)), (q_ca, .inl (cy 0, 5, .inl gq_ca_42)), (q_bo, .inl (cy 0, 5, .inl gq_bo_42)), (q_wd, .inl (cy 1, 13, .inr (.inl gq_wd_42))), (q_sk, .inl (cy 1, 64, .inr (.inl gq_sk_42)))] → va_S A s.heap H locs → lv_has ls 7 [(6, .int v6_42), (0, .ref o), (1, .ref q), (2, .ref v), (3, .null), (4, .int x0), (5, .int x1)] → W p l e (kRm 6 148 0 0) s m ([.ref o, .ref q, .ref v, .null, .int x0, .int x1] : List Value).toArray below meth c H locs 0 0 (MQ below (va_Qv (S := Int32 × Int32 × (Nat → Int32) × Int32 × Int32 × Value × (Nat → Int32) × (Nat → Int32) × (Nat → Int64) × (Nat → Int64)) (fun u => FV (u.2.2.1) ∧ PLV (u.2.2.2.2.2.2.2.1)) (kBw D A (fun u => [(o, .inr (2, [.int (u.1), .int (u.2.1), .int o_drawn, .ref o_one, .ref o_oth])), (q, .inr (6, [.ref qf, .ref q_ca, .ref q_bo, .int (u.2.2.2.1), .int (u.2.2.2.2.1), (u.2.2.2.2.2.1), .ref q_wd, .ref q_sk])), (qf, .inr (1, [.ref qf_c])), (qf_c, .inl (cy 0, 63, .inl (u.2.2.1))), (q_ca, .inl (cy 0, 5, .inl (u.2.2.2.2.2.2.1))), (q_bo, .inl (cy 0, 5, .inl (u.2.2.2.2.2.2.2.1))), (q_wd, .inl (cy 1, 13, .inr (.inl (u.2.2.2.2.2.2.2.2.1)))), (q_sk, .inl (cy 1, 64, .inr (.inl (u.2.2.2.2.2.2.2.2.2)))), (v, .inr (1, [.ref v_c])), (v_c, .inl (cy 0, 63, .inl g_v))])) A) ([.ref o, .ref q, .ref v, .null, .int x0, .int x1] : List Value).toArray s 0 0 A) (F0 m 42 ls []) := by
    intro fu42
    induction fu42 with
    | zero =>
      intro v6_42 w0_o_42 w1_o_42 w3_q_42 w4_q_42 w5_q_42 gqf_c_42 gq_ca_42 gq_bo_42 gq_wd_42 gq_sk_42 H locs ls hgqf_c_42 hgq_bo_42 j0_42 j1_42 hm42 hP hD hS hl
      exact absurd hm42 (by omega)
    | succ fu42 ih42 =>
      intro v6_42 w0_o_42 w1_o_42 w3_q_42 w4_q_42 w5_q_42 gqf_c_42 gq_ca_42 gq_bo_42 gq_wd_42 gq_sk_42 H locs ls hgqf_c_42 hgq_bo_42 j0_42 j1_42 hm42 hP hD hS hl
      obtain ⟨⟨b_19a, b_19b⟩, ⟨b_19c, b_19d⟩, ⟨b_19e, b_19f⟩⟩ := FV.bounds hgqf_c_42
      have lgb := Int32.toInt_lt (g_v 0)
      refine lv_iload hx hb dX2_findPlace_42 (lv_at hl 0 rfl) ?_
      refine lv_aload_n hx hb dX2_findPlace_44 rfl (lv_at hl 3 rfl) ?_
      refine va_get (D := D) (ci := 1) (v := .ref v_c) (C := RX1) (T := TX1) (N := 1) hx hb hG inG_X1 hown hE.1 hP 1 rfl rfl 0 (by decide) (hG _ q_f_X2_34) (fun _ h9 => h9) rfl dX2_findPlace_45 ?_
      refine lv_iconst (v := 0) hx hb dX2_findPlace_48 (by decide) ?_
      refine va_iald hx hb hE.1 hP 2 0 rfl rfl (by unfold vp_in; decide) dX2_findPlace_49 ?_
      refine k_top (z := (g_v 0)) rfl ?_
      refine lv_icmp_ge (tgt := 111) hx hb dX2_findPlace_50 (by decide) (fun c_20 => ?_) (fun c_20 => ?_)
      · have ic_20 : (g_v 0).toInt ≤ v6_42.toInt := k_le c_20 rfl rfl
        exact KV.rt ⟨w0_o_42, w1_o_42, gqf_c_42, w3_q_42, w4_q_42, (w5_q_42), gq_ca_42, gq_bo_42, gq_wd_42, gq_sk_42⟩ F (hP.sub [0, 3, 4, 5, 6, 7, 8, 9, 1, 2] rfl) (hD.sub [0, 3, 4, 5, 6, 7, 8, 9, 1, 2] (by decide) rfl) hS (show FV gqf_c_42 ∧ PLV gq_bo_42 from ⟨hgqf_c_42, hgq_bo_42⟩) (Nat.le_of_ble_eq_true rfl) (Nat.le_of_ble_eq_true rfl) dX2_findPlace_111
      · have ic_20 : v6_42.toInt < (g_v 0).toInt := k_nle c_20 rfl rfl
        refine lv_aload_n hx hb dX2_findPlace_53 rfl (lv_at hl 3 rfl) ?_
        refine lv_iload hx hb dX2_findPlace_54 (lv_at hl 0 rfl) ?_
        refine kcV (As := [.int v6_42]) (rest := []) F hE hP hl.1 (cc_X1_ringAt l D cy (o := v) (x0 := v6_42) (o_c := v_c) (g_o := g_v) (h_g_o := h_g_v)) q_m_X2_72 mv_X1_ringAt ⟨(Nat.le_of_ble_eq_true rfl), (Nat.le_of_ble_eq_true rfl)⟩ [1, 2] rfl rfl rfl rfl rfl rfl (Nat.le_of_ble_eq_true rfl) ⟨(Nat.le_of_ble_eq_true rfl), (Nat.le_of_ble_eq_true rfl)⟩ dX2_findPlace_56 (fun r_21 er_21 => ?_)
        have er_21 : (-1 ≤ r_21.toInt) ∧ (r_21.toInt ≤ 5) := er_21
        obtain ⟨er_21a, er_21b⟩ := er_21
        refine lv_iconst (v := (-1)) hx hb dX2_findPlace_59 (by decide) ?_
        refine lv_icmp_ne (tgt := 105) hx hb dX2_findPlace_60 (by decide) (fun c_22 => ?_) (fun c_22 => ?_)
        · have ic_22 : r_21.toInt ≠ (-1) := k_ne c_22 rfl (by decide)
          obtain ⟨z_23, ez_23⟩ : ∃ y : Int32, y = v6_42 + Int32.ofInt 1 := ⟨_, rfl⟩
          have iz_23 : z_23.toInt = v6_42.toInt + 1 := k_addI ez_23 rfl (by decide) (by omega)
          refine lv_iinc (v := z_23) (lv' := [(6, .int z_23), (0, .ref o), (1, .ref q), (2, .ref v), (3, .null), (4, .int x0), (5, .int x1)]) hx hb dX2_findPlace_105 hl (k := 0) rfl ez_23.symm (by decide) rfl (fun ls hl => ?_)
          refine lv_goto (tgt := 42) hx hb dX2_findPlace_108 (by decide) ?_
          exact ih42 z_23 w0_o_42 w1_o_42 w3_q_42 w4_q_42 w5_q_42 gqf_c_42 gq_ca_42 gq_bo_42 gq_wd_42 gq_sk_42 _ _ ls hgqf_c_42 hgq_bo_42 (by first | omega | assumption) (by first | omega | assumption) (by omega) hP hD hS (lv_sub hl [0, 1, 2, 3, 4, 5, 6] rfl)
        · have ic_22 : r_21.toInt = (-1) := k_eq c_22 rfl (by decide)
          refine lv_aload_n hx hb dX2_findPlace_63 rfl (lv_at hl 2 rfl) ?_
          refine lv_aload_n hx hb dX2_findPlace_64 rfl (lv_at hl 3 rfl) ?_
          refine lv_aload_nN hx hb dX2_findPlace_65 rfl (lv_at hl 4 rfl) ?_
          refine jwVV (wr := [(o, .inr (2, [.int w0_o_42, .int w1_o_42, .int o_drawn, .ref o_one, .ref o_oth]))]) (As := [.ref v, .null]) (rest := []) F hE hP hD hS hA hl.1 hz hZ (cc_startFromN l D cy (Z := Z) (hz := hz) (TT := TT) (zt := zt) (o := q) (q := v) (of := qf) (o_ca := q_ca) (o_bo := q_bo) (o_gust := w3_q_42) (o_still := w4_q_42) (o_rv := w5_q_42) (o_wd := q_wd) (o_sk := q_sk) (of_c := qf_c) (g_of := gqf_c_42) (g_oca := gq_ca_42) (g_obo := gq_bo_42) (g_owd := gq_wd_42) (g_osk := gq_sk_42) (q_c := v_c) (g_q := g_v) (h_g_of := hgqf_c_42) (h_g_obo := hgq_bo_42) (h_g_q := h_g_v)) q_m_X2_60 mv_X6_startFrom ⟨(Nat.le_of_ble_eq_true rfl), (Nat.le_of_ble_eq_true rfl)⟩ [3, 4, 5, 6, 7, 8, 9, 1, 2] [0] (by decide) rfl rfl (by decide) (by decide) rfl rfl rfl rfl rfl (Nat.le_of_ble_eq_true rfl) ⟨(Nat.le_of_ble_eq_true rfl), (Nat.le_of_ble_eq_true rfl)⟩ dX2_findPlace_66 (fun u_24 H locs eu_24 hP hD hS => ?_)
          obtain ⟨g_of_25, o_gust_26, o_still_27, o_rv_28, g_obo_29⟩ := u_24
          have eu_24 : FV g_of_25 ∧ PLV g_obo_29 ∧ (RIn TT (cy 0) o_rv_28) := eu_24
          obtain ⟨eu_24a, eu_24b, eu_24c⟩ := eu_24
          have hP : va_P D vwCl [(o, .inr (2, [.int w0_o_42, .int w1_o_42, .int o_drawn, .ref o_one, .ref o_oth])), (q, .inr (6, [.ref qf, .ref q_ca, .ref q_bo, .int o_gust_26, .int o_still_27, o_rv_28, .ref q_wd, .ref q_sk])), (qf, .inr (1, [.ref qf_c])), (qf_c, .inl (cy 0, 63, .inl g_of_25)), (q_ca, .inl (cy 0, 5, .inl gq_ca_42)), (q_bo, .inl (cy 0, 5, .inl g_obo_29)), (q_wd, .inl (cy 1, 13, .inr (.inl gq_wd_42))), (q_sk, .inl (cy 1, 64, .inr (.inl gq_sk_42))), (v, .inr (1, [.ref v_c])), (v_c, .inl (cy 0, 63, .inl g_v))] H := hP
          have hD : va_D A [(o, .inr (2, [.int w0_o_42, .int w1_o_42, .int o_drawn, .ref o_one, .ref o_oth])), (q, .inr (6, [.ref qf, .ref q_ca, .ref q_bo, .int o_gust_26, .int o_still_27, o_rv_28, .ref q_wd, .ref q_sk])), (qf, .inr (1, [.ref qf_c])), (qf_c, .inl (cy 0, 63, .inl g_of_25)), (q_ca, .inl (cy 0, 5, .inl gq_ca_42)), (q_bo, .inl (cy 0, 5, .inl g_obo_29)), (q_wd, .inl (cy 1, 13, .inr (.inl gq_wd_42))), (q_sk, .inl (cy 1, 64, .inr (.inl gq_sk_42))), (v, .inr (1, [.ref v_c])), (v_c, .inl (cy 0, 63, .inl g_v))] := hD
          obtain ⟨⟨b_30a, b_30b⟩, ⟨b_30c, b_30d⟩, ⟨b_30e, b_30f⟩⟩ := FV.bounds eu_24a
          refine lv_aload_n hx hb dX2_findPlace_69 rfl (lv_at hl 2 rfl) ?_
          refine va_get (D := D) (ci := 6) (v := .ref qf) (C := RX6) (T := TX6) (N := 8) hx hb hG inG_X6 hown hE.1 hP 1 rfl rfl 0 (by decide) (hG _ q_f_X2_28) (fun _ h9 => h9) rfl dX2_findPlace_70 ?_
          refine va_get (D := D) (ci := 1) (v := .ref qf_c) (C := RX1) (T := TX1) (N := 1) hx hb hG inG_X1 hown hE.1 hP 2 rfl rfl 0 (by decide) (hG _ q_f_X2_34) (fun _ h9 => h9) rfl dX2_findPlace_73 ?_
          refine lv_bipush (v := 20) hx hb dX2_findPlace_76 (by decide) ?_
          refine lv_iload hx hb dX2_findPlace_78 (lv_at hl 5 rfl) ?_
          refine lv_iadd hx hb dX2_findPlace_80 ?_
          refine lv_topi (fun z_31 ez_31 => ?_)
          have iz_31 : z_31.toInt = 20 + x0.toInt := k_addI ez_31 (by decide) rfl (by omega)
          refine lv_iload hx hb dX2_findPlace_81 (lv_at hl 0 rfl) ?_
          refine va_iast hx hb hE.1 hP hD hS 3 0 rfl rfl (k_in (by omega)) dX2_findPlace_83 (fun H locs hP hD hS => ?_)
          have hr_33 : FV (upd g_of_25 (Int32.toNatClampNeg z_31) v6_42) := FV.put eu_24a z_31 v6_42 (by omega) (by omega) (by omega) (by omega) (by omega)
          generalize upd g_of_25 (Int32.toNatClampNeg z_31) v6_42 = fn_32 at hP hD hr_33
          have hP : va_P D vwCl [(o, .inr (2, [.int w0_o_42, .int w1_o_42, .int o_drawn, .ref o_one, .ref o_oth])), (q, .inr (6, [.ref qf, .ref q_ca, .ref q_bo, .int o_gust_26, .int o_still_27, o_rv_28, .ref q_wd, .ref q_sk])), (qf, .inr (1, [.ref qf_c])), (qf_c, .inl (cy 0, 63, .inl fn_32)), (q_ca, .inl (cy 0, 5, .inl gq_ca_42)), (q_bo, .inl (cy 0, 5, .inl g_obo_29)), (q_wd, .inl (cy 1, 13, .inr (.inl gq_wd_42))), (q_sk, .inl (cy 1, 64, .inr (.inl gq_sk_42))), (v, .inr (1, [.ref v_c])), (v_c, .inl (cy 0, 63, .inl g_v))] H := hP
          have hD : va_D A [(o, .inr (2, [.int w0_o_42, .int w1_o_42, .int o_drawn, .ref o_one, .ref o_oth])), (q, .inr (6, [.ref qf, .ref q_ca, .ref q_bo, .int o_gust_26, .int o_still_27, o_rv_28, .ref q_wd, .ref q_sk])), (qf, .inr (1, [.ref qf_c])), (qf_c, .inl (cy 0, 63, .inl fn_32)), (q_ca, .inl (cy 0, 5, .inl gq_ca_42)), (q_bo, .inl (cy 0, 5, .inl g_obo_29)), (q_wd, .inl (cy 1, 13, .inr (.inl gq_wd_42))), (q_sk, .inl (cy 1, 64, .inr (.inl gq_sk_42))), (v, .inr (1, [.ref v_c])), (v_c, .inl (cy 0, 63, .inl g_v))] := hD
          obtain ⟨⟨b_34a, b_34b⟩, ⟨b_34c, b_34d⟩, ⟨b_34e, b_34f⟩⟩ := FV.bounds hr_33
          refine lv_aload_n hx hb dX2_findPlace_84 rfl (lv_at hl 2 rfl) ?_
          refine lv_iload hx hb dX2_findPlace_85 (lv_at hl 6 rfl) ?_
          refine jwVV (wr := [(o, .inr (2, [.int w0_o_42, .int w1_o_42, .int o_drawn, .ref o_one, .ref o_oth])), (v, .inr (1, [.ref v_c])), (v_c, .inl (cy 0, 63, .inl g_v))]) (As := [.int x1]) (rest := []) F hE hP hD hS hA hl.1 hz hZ (cc_X6_playRounds l D cy (Z := Z) (hz := hz) (TT := TT) (zt := zt) (o := q) (x0 := x1) (of := qf) (o_ca := q_ca) (o_bo := q_bo) (o_gust := o_gust_26) (o_still := o_still_27) (o_rv := o_rv_28) (o_wd := q_wd) (o_sk := q_sk) (of_c := qf_c) (g_of := fn_32) (g_oca := gq_ca_42) (g_obo := g_obo_29) (g_owd := gq_wd_42) (g_osk := gq_sk_42) (h_g_of := hr_33) (h_g_obo := eu_24b) (hrv := (by first | omega | assumption)) (p0 := (by first | omega | assumption)) (p1 := (by first | omega | assumption))) q_m_X2_64 mv_X6_playRounds ⟨(Nat.le_of_ble_eq_true rfl), (Nat.le_of_ble_eq_true rfl)⟩ [1, 2, 3, 4, 5, 6, 7] [0, 8, 9] (by decide) rfl rfl (by decide) (by decide) rfl rfl rfl rfl rfl (Nat.le_of_ble_eq_true rfl) ⟨(Nat.le_of_ble_eq_true rfl), (Nat.le_of_ble_eq_true rfl)⟩ dX2_findPlace_87 (fun u_35 H locs eu_35 hP hD hS => ?_)
          obtain ⟨g_of_36, o_still_37, g_oca_38, g_owd_39, g_osk_40⟩ := u_35
          have eu_35 : FV g_of_36 := eu_35
          have hP : va_P D vwCl [(o, .inr (2, [.int w0_o_42, .int w1_o_42, .int o_drawn, .ref o_one, .ref o_oth])), (v, .inr (1, [.ref v_c])), (v_c, .inl (cy 0, 63, .inl g_v)), (q, .inr (6, [.ref qf, .ref q_ca, .ref q_bo, .int o_gust_26, .int o_still_37, o_rv_28, .ref q_wd, .ref q_sk])), (qf, .inr (1, [.ref qf_c])), (qf_c, .inl (cy 0, 63, .inl g_of_36)), (q_ca, .inl (cy 0, 5, .inl g_oca_38)), (q_bo, .inl (cy 0, 5, .inl g_obo_29)), (q_wd, .inl (cy 1, 13, .inr (.inl g_owd_39))), (q_sk, .inl (cy 1, 64, .inr (.inl g_osk_40)))] H := hP
          have hD : va_D A [(o, .inr (2, [.int w0_o_42, .int w1_o_42, .int o_drawn, .ref o_one, .ref o_oth])), (v, .inr (1, [.ref v_c])), (v_c, .inl (cy 0, 63, .inl g_v)), (q, .inr (6, [.ref qf, .ref q_ca, .ref q_bo, .int o_gust_26, .int o_still_37, o_rv_28, .ref q_wd, .ref q_sk])), (qf, .inr (1, [.ref qf_c])), (qf_c, .inl (cy 0, 63, .inl g_of_36)), (q_ca, .inl (cy 0, 5, .inl g_oca_38)), (q_bo, .inl (cy 0, 5, .inl g_obo_29)), (q_wd, .inl (cy 1, 13, .inr (.inl g_owd_39))), (q_sk, .inl (cy 1, 64, .inr (.inl g_osk_40)))] := hD
          obtain ⟨⟨b_41a, b_41b⟩, ⟨b_41c, b_41d⟩, ⟨b_41e, b_41f⟩⟩ := FV.bounds eu_35
          refine lv_aload_n hx hb dX2_findPlace_90 rfl (lv_at hl 1 rfl) ?_
          refine lv_iload hx hb dX2_findPlace_91 (lv_at hl 0 rfl) ?_
          refine lv_aload_n hx hb dX2_findPlace_93 rfl (lv_at hl 1 rfl) ?_
          refine lv_aload_n hx hb dX2_findPlace_94 rfl (lv_at hl 3 rfl) ?_
          refine lv_aload_n hx hb dX2_findPlace_95 rfl (lv_at hl 2 rfl) ?_
          refine va_get (D := D) (ci := 6) (v := .ref qf) (C := RX6) (T := TX6) (N := 8) hx hb hG inG_X6 hown hE.1 hP 3 rfl rfl 0 (by decide) (hG _ q_f_X2_28) (fun _ h9 => h9) rfl dX2_findPlace_96 ?_
          refine kcV (As := [.ref v, .ref qf]) (rest := [.int v6_42, .ref o]) F hE hP hl.1 (cc_X2_easedSince l D cy (o := o) (q := v) (v := qf) (o_which := w0_o_42) (o_much := w1_o_42) (o_drawn := o_drawn) (o_one := o_one) (o_oth := o_oth) (q_c := v_c) (g_q := g_v) (v_c := qf_c) (g_v := g_of_36) (h_g_q := h_g_v) (h_g_v := eu_35)) q_m_X2_68 mv_X2_easedSince ⟨(Nat.le_of_ble_eq_true rfl), (Nat.le_of_ble_eq_true rfl)⟩ [0, 1, 2, 4, 5] rfl rfl rfl rfl rfl rfl (Nat.le_of_ble_eq_true rfl) ⟨(Nat.le_of_ble_eq_true rfl), (Nat.le_of_ble_eq_true rfl)⟩ dX2_findPlace_99 (fun r_42 er_42 => ?_)
          refine kwVV (wr := [(v, .inr (1, [.ref v_c])), (v_c, .inl (cy 0, 63, .inl g_v)), (q, .inr (6, [.ref qf, .ref q_ca, .ref q_bo, .int o_gust_26, .int o_still_37, o_rv_28, .ref q_wd, .ref q_sk])), (qf, .inr (1, [.ref qf_c])), (qf_c, .inl (cy 0, 63, .inl g_of_36)), (q_ca, .inl (cy 0, 5, .inl g_oca_38)), (q_bo, .inl (cy 0, 5, .inl g_obo_29)), (q_wd, .inl (cy 1, 13, .inr (.inl g_owd_39))), (q_sk, .inl (cy 1, 64, .inr (.inl g_osk_40)))]) (As := [.int v6_42, .int r_42]) (rest := []) F hE hP hD hS hA hl.1 (cc_X2_takeIfMore l D cy (o := o) (x0 := v6_42) (x1 := r_42) (o_which := w0_o_42) (o_much := w1_o_42) (o_drawn := o_drawn) (o_one := o_one) (o_oth := o_oth)) q_m_X2_76 mv_X2_takeIfMore ⟨(Nat.le_of_ble_eq_true rfl), (Nat.le_of_ble_eq_true rfl)⟩ [0] [1, 2, 3, 4, 5, 6, 7, 8, 9] (by decide) rfl rfl (by decide) (by decide) rfl rfl rfl rfl rfl (Nat.le_of_ble_eq_true rfl) ⟨(Nat.le_of_ble_eq_true rfl), (Nat.le_of_ble_eq_true rfl)⟩ dX2_findPlace_102 (fun u_43 H locs eu_43 hP hD hS => ?_)
          obtain ⟨o_which_44, o_much_45⟩ := u_43
          have hP : va_P D vwCl [(v, .inr (1, [.ref v_c])), (v_c, .inl (cy 0, 63, .inl g_v)), (q, .inr (6, [.ref qf, .ref q_ca, .ref q_bo, .int o_gust_26, .int o_still_37, o_rv_28, .ref q_wd, .ref q_sk])), (qf, .inr (1, [.ref qf_c])), (qf_c, .inl (cy 0, 63, .inl g_of_36)), (q_ca, .inl (cy 0, 5, .inl g_oca_38)), (q_bo, .inl (cy 0, 5, .inl g_obo_29)), (q_wd, .inl (cy 1, 13, .inr (.inl g_owd_39))), (q_sk, .inl (cy 1, 64, .inr (.inl g_osk_40))), (o, .inr (2, [.int o_which_44, .int o_much_45, .int o_drawn, .ref o_one, .ref o_oth]))] H := hP
          have hD : va_D A [(v, .inr (1, [.ref v_c])), (v_c, .inl (cy 0, 63, .inl g_v)), (q, .inr (6, [.ref qf, .ref q_ca, .ref q_bo, .int o_gust_26, .int o_still_37, o_rv_28, .ref q_wd, .ref q_sk])), (qf, .inr (1, [.ref qf_c])), (qf_c, .inl (cy 0, 63, .inl g_of_36)), (q_ca, .inl (cy 0, 5, .inl g_oca_38)), (q_bo, .inl (cy 0, 5, .inl g_obo_29)), (q_wd, .inl (cy 1, 13, .inr (.inl g_owd_39))), (q_sk, .inl (cy 1, 64, .inr (.inl g_osk_40))), (o, .inr (2, [.int o_which_44, .int o_much_45, .int o_drawn, .ref o_one, .ref o_oth]))] := hD
          obtain ⟨z_46, ez_46⟩ : ∃ y : Int32, y = v6_42 + Int32.ofInt 1 := ⟨_, rfl⟩
          have iz_46 : z_46.toInt = v6_42.toInt + 1 := k_addI ez_46 rfl (by decide) (by omega)
          refine lv_iinc (v := z_46) (lv' := [(6, .int z_46), (0, .ref o), (1, .ref q), (2, .ref v), (3, .null), (4, .int x0), (5, .int x1)]) hx hb dX2_findPlace_105 hl (k := 0) rfl ez_46.symm (by decide) rfl (fun ls hl => ?_)
          refine lv_goto (tgt := 42) hx hb dX2_findPlace_108 (by decide) ?_
          have hP := hP.sub (ws' := [(o, .inr (2, [.int o_which_44, .int o_much_45, .int o_drawn, .ref o_one, .ref o_oth])), (v, .inr (1, [.ref v_c])), (v_c, .inl (cy 0, 63, .inl g_v)), (q, .inr (6, [.ref qf, .ref q_ca, .ref q_bo, .int o_gust_26, .int o_still_37, o_rv_28, .ref q_wd, .ref q_sk])), (qf, .inr (1, [.ref qf_c])), (qf_c, .inl (cy 0, 63, .inl g_of_36)), (q_ca, .inl (cy 0, 5, .inl g_oca_38)), (q_bo, .inl (cy 0, 5, .inl g_obo_29)), (q_wd, .inl (cy 1, 13, .inr (.inl g_owd_39))), (q_sk, .inl (cy 1, 64, .inr (.inl g_osk_40)))]) [9, 0, 1, 2, 3, 4, 5, 6, 7, 8] rfl
          have hD := hD.sub (ws' := [(o, .inr (2, [.int o_which_44, .int o_much_45, .int o_drawn, .ref o_one, .ref o_oth])), (v, .inr (1, [.ref v_c])), (v_c, .inl (cy 0, 63, .inl g_v)), (q, .inr (6, [.ref qf, .ref q_ca, .ref q_bo, .int o_gust_26, .int o_still_37, o_rv_28, .ref q_wd, .ref q_sk])), (qf, .inr (1, [.ref qf_c])), (qf_c, .inl (cy 0, 63, .inl g_of_36)), (q_ca, .inl (cy 0, 5, .inl g_oca_38)), (q_bo, .inl (cy 0, 5, .inl g_obo_29)), (q_wd, .inl (cy 1, 13, .inr (.inl g_owd_39))), (q_sk, .inl (cy 1, 64, .inr (.inl g_osk_40)))]) [9, 0, 1, 2, 3, 4, 5, 6, 7, 8] (by decide) rfl
          exact ih42 z_46 o_which_44 o_much_45 o_gust_26 o_still_37 o_rv_28 g_of_36 g_oca_38 g_obo_29 g_owd_39 g_osk_40 _ _ ls eu_35 eu_24b (by first | omega | assumption) (by first | omega | assumption) (by omega) hP hD hS (lv_sub hl [0, 1, 2, 3, 4, 5, 6] rfl)
  have lt_47 : (0 : Int32).toInt = 0 := by decide
  exact lp42 3000000000 0 (g_v (Int32.toNatClampNeg z_3)) r_18 o_gust_6 o_still_13 o_rv_8 g_of_12 g_oca_14 g_obo_9 g_owd_15 g_osk_16 _ _ ls eu_11 eu_4b (by first | omega | assumption) (by first | omega | assumption) (by omega) hP hD hS hl

set_option maxHeartbeats 4000000 in
set_option maxRecDepth 100000 in
theorem cc_findPlaceR (l : Launch) (D : va_G) (cy : Nat → ClassId) {Z : (Nat → Prop) → State → Heap → Prop} (hz : zOK Z) {TT : va_W} (zt : ∀ (A : Nat → Prop) (U : State) (H : Heap), Z A U H → va_P D vwCl TT H) (o : Nat) (o_one : Nat) (o_oth : Nat) (o_which : Int32) (o_much : Int32) (o_drawn : Int32) (q : Nat) (qf : Nat) (qf_c : Nat) (g_qf : Nat → Int32) (q_ca : Nat) (q_bo : Nat) (q_wd : Nat) (q_sk : Nat) (q_gust : Int32) (q_still : Int32) (q_rv : Value) (g_qca : Nat → Int32) (g_qbo : Nat → Int32) (g_qwd : Nat → Int64) (g_qsk : Nat → Int64) (v : Nat) (v_c : Nat) (g_v : Nat → Int32) (x0 : Int32) (x1 : Int32) (r : Nat) (st : Nat) (ra : Int32) (rn : Nat) (rg : Nat → Int32) (ri : Nat) (rj : Nat) (h_g_qf : FV g_qf) (h_g_qbo : PLV g_qbo) (h_g_v : FV g_v) (hTi : TT[ri]? = some (r, .inr (7, [.ref st, .int ra]))) (hTj : TT[rj]? = some (st, .inl (cy 0, rn, .inl rg))) (hn4 : rn ≤ 412) (hg : ∀ k : Nat, k < rn → 0 ≤ (rg k).toInt) (p0 : 0 ≤ x0.toInt) (p1 : x0.toInt ≤ 5) (p2 : 0 ≤ x1.toInt) (p3 : x1.toInt ≤ 100) : JV l yX2_findPlace cX2_findPlace 7 6 148 D (kTY cy) [.ref o, .ref q, .ref v, .ref r, .int x0, .int x1] [(o, .inr (2, [.int o_which, .int o_much, .int o_drawn, .ref o_one, .ref o_oth])), (q, .inr (6, [.ref qf, .ref q_ca, .ref q_bo, .int q_gust, .int q_still, q_rv, .ref q_wd, .ref q_sk])), (qf, .inr (1, [.ref qf_c])), (qf_c, .inl (cy 0, 63, .inl g_qf)), (q_ca, .inl (cy 0, 5, .inl g_qca)), (q_bo, .inl (cy 0, 5, .inl g_qbo)), (q_wd, .inl (cy 1, 13, .inr (.inl g_qwd))), (q_sk, .inl (cy 1, 64, .inr (.inl g_qsk))), (v, .inr (1, [.ref v_c])), (v_c, .inl (cy 0, 63, .inl g_v))] Z (S := Int32 × Int32 × (Nat → Int32) × Int32 × Int32 × Value × (Nat → Int32) × (Nat → Int32) × (Nat → Int64) × (Nat → Int64)) (fun u => FV (u.2.2.1) ∧ PLV (u.2.2.2.2.2.2.2.1)) (fun u => [(o, .inr (2, [.int (u.1), .int (u.2.1), .int o_drawn, .ref o_one, .ref o_oth])), (q, .inr (6, [.ref qf, .ref q_ca, .ref q_bo, .int (u.2.2.2.1), .int (u.2.2.2.2.1), (u.2.2.2.2.2.1), .ref q_wd, .ref q_sk])), (qf, .inr (1, [.ref qf_c])), (qf_c, .inl (cy 0, 63, .inl (u.2.2.1))), (q_ca, .inl (cy 0, 5, .inl (u.2.2.2.2.2.2.1))), (q_bo, .inl (cy 0, 5, .inl (u.2.2.2.2.2.2.2.1))), (q_wd, .inl (cy 1, 13, .inr (.inl (u.2.2.2.2.2.2.2.2.1)))), (q_sk, .inl (cy 1, 64, .inr (.inl (u.2.2.2.2.2.2.2.2.2)))), (v, .inr (1, [.ref v_c])), (v_c, .inl (cy 0, 63, .inl g_v))]) 0 0 := by
  refine JV.of (by decide) (Nat.le_of_ble_eq_true rfl) (fun p e s m below meth c ls A F hin hE hP hD hA hS hl hZ => ?_)
  have F : kF p s m meth c cX2_findPlace 7 none _ RX2 := F
  obtain ⟨hx, hb, hr, hml, hown, hG, hlk⟩ := id F
  have hl : lv_has ls 7 [(0, .ref o), (1, .ref q), (2, .ref v), (3, .ref r), (4, .int x0), (5, .int x1)] := hl
  obtain ⟨⟨b_1a, b_1b⟩, ⟨b_1c, b_1d⟩, ⟨b_1e, b_1f⟩⟩ := FV.bounds h_g_qf
  obtain ⟨⟨b_2a, b_2b⟩, ⟨b_2c, b_2d⟩, ⟨b_2e, b_2f⟩⟩ := FV.bounds h_g_v
  refine lv_aload_n hx hb dX2_findPlace_0 rfl (lv_at hl 0 rfl) ?_
  refine lv_aload_n hx hb dX2_findPlace_1 rfl (lv_at hl 2 rfl) ?_
  refine va_get (D := D) (ci := 1) (v := .ref v_c) (C := RX1) (T := TX1) (N := 1) hx hb hG inG_X1 hown hE.1 hP 8 rfl rfl 0 (by decide) (hG _ q_f_X2_34) (fun _ h9 => h9) rfl dX2_findPlace_2 ?_
  refine lv_bipush (v := 20) hx hb dX2_findPlace_5 (by decide) ?_
  refine lv_iload hx hb dX2_findPlace_7 (lv_at hl 4 rfl) ?_
  refine lv_iadd hx hb dX2_findPlace_9 ?_
  refine lv_topi (fun z_3 ez_3 => ?_)
  have iz_3 : z_3.toInt = 20 + x0.toInt := k_addI ez_3 (by decide) rfl (by omega)
  refine va_iald hx hb hE.1 hP 9 0 rfl rfl (k_in (by omega)) dX2_findPlace_10 ?_
  refine k_top (z := (g_v (Int32.toNatClampNeg z_3))) rfl ?_
  refine va_put (D := D) (ci := 2) (v := .int (g_v (Int32.toNatClampNeg z_3))) (ty := .int) (C := RX2) (T := TX2) (N := 5) hx hb hG inG_X2 tyX2 tyX2_ok nmX2 hown hE.1 hP hD hS 0 rfl rfl 0 (by decide) (hG _ q_f_X2_9) (fun _ h9 => h9) rfl (by decide +kernel) rfl rfl (Nat.le_of_ble_eq_true rfl) dX2_findPlace_11 (fun H locs hP hD hS => ?_)
  have hP : va_P D vwCl [(o, .inr (2, [.int (g_v (Int32.toNatClampNeg z_3)), .int o_much, .int o_drawn, .ref o_one, .ref o_oth])), (q, .inr (6, [.ref qf, .ref q_ca, .ref q_bo, .int q_gust, .int q_still, q_rv, .ref q_wd, .ref q_sk])), (qf, .inr (1, [.ref qf_c])), (qf_c, .inl (cy 0, 63, .inl g_qf)), (q_ca, .inl (cy 0, 5, .inl g_qca)), (q_bo, .inl (cy 0, 5, .inl g_qbo)), (q_wd, .inl (cy 1, 13, .inr (.inl g_qwd))), (q_sk, .inl (cy 1, 64, .inr (.inl g_qsk))), (v, .inr (1, [.ref v_c])), (v_c, .inl (cy 0, 63, .inl g_v))] H := hP
  have hD : va_D A [(o, .inr (2, [.int (g_v (Int32.toNatClampNeg z_3)), .int o_much, .int o_drawn, .ref o_one, .ref o_oth])), (q, .inr (6, [.ref qf, .ref q_ca, .ref q_bo, .int q_gust, .int q_still, q_rv, .ref q_wd, .ref q_sk])), (qf, .inr (1, [.ref qf_c])), (qf_c, .inl (cy 0, 63, .inl g_qf)), (q_ca, .inl (cy 0, 5, .inl g_qca)), (q_bo, .inl (cy 0, 5, .inl g_qbo)), (q_wd, .inl (cy 1, 13, .inr (.inl g_qwd))), (q_sk, .inl (cy 1, 64, .inr (.inl g_qsk))), (v, .inr (1, [.ref v_c])), (v_c, .inl (cy 0, 63, .inl g_v))] := hD
  refine lv_aload_n hx hb dX2_findPlace_14 rfl (lv_at hl 1 rfl) ?_
  refine lv_aload_n hx hb dX2_findPlace_15 rfl (lv_at hl 2 rfl) ?_
  refine lv_aload_n hx hb dX2_findPlace_16 rfl (lv_at hl 3 rfl) ?_
  refine jwVV (wr := [(o, .inr (2, [.int (g_v (Int32.toNatClampNeg z_3)), .int o_much, .int o_drawn, .ref o_one, .ref o_oth]))]) (As := [.ref v, .ref r]) (rest := []) F hE hP hD hS hA hl.1 hz hZ (cc_startFromR l D cy (Z := Z) (hz := hz) (TT := TT) (zt := zt) (o := q) (q := v) (r := r) (of := qf) (o_ca := q_ca) (o_bo := q_bo) (o_gust := q_gust) (o_still := q_still) (o_rv := q_rv) (o_wd := q_wd) (o_sk := q_sk) (of_c := qf_c) (g_of := g_qf) (g_oca := g_qca) (g_obo := g_qbo) (g_owd := g_qwd) (g_osk := g_qsk) (q_c := v_c) (g_q := g_v) (st := st) (ra := ra) (rn := rn) (rg := rg) (ri := ri) (rj := rj) (h_g_of := h_g_qf) (h_g_obo := h_g_qbo) (h_g_q := h_g_v) (hTi := (by first | omega | assumption)) (hTj := (by first | omega | assumption)) (hn4 := (by first | omega | assumption)) (hg := (by first | omega | assumption))) q_m_X2_60 mv_X6_startFrom ⟨(Nat.le_of_ble_eq_true rfl), (Nat.le_of_ble_eq_true rfl)⟩ [1, 2, 3, 4, 5, 6, 7, 8, 9] [0] (by decide) rfl rfl (by decide) (by decide) rfl rfl rfl rfl rfl (Nat.le_of_ble_eq_true rfl) ⟨(Nat.le_of_ble_eq_true rfl), (Nat.le_of_ble_eq_true rfl)⟩ dX2_findPlace_17 (fun u_4 H locs eu_4 hP hD hS => ?_)
  obtain ⟨g_of_5, o_gust_6, o_still_7, o_rv_8, g_obo_9⟩ := u_4
  have eu_4 : FV g_of_5 ∧ PLV g_obo_9 ∧ (RIn TT (cy 0) o_rv_8) := eu_4
  obtain ⟨eu_4a, eu_4b, eu_4c⟩ := eu_4
  have hP : va_P D vwCl [(o, .inr (2, [.int (g_v (Int32.toNatClampNeg z_3)), .int o_much, .int o_drawn, .ref o_one, .ref o_oth])), (q, .inr (6, [.ref qf, .ref q_ca, .ref q_bo, .int o_gust_6, .int o_still_7, o_rv_8, .ref q_wd, .ref q_sk])), (qf, .inr (1, [.ref qf_c])), (qf_c, .inl (cy 0, 63, .inl g_of_5)), (q_ca, .inl (cy 0, 5, .inl g_qca)), (q_bo, .inl (cy 0, 5, .inl g_obo_9)), (q_wd, .inl (cy 1, 13, .inr (.inl g_qwd))), (q_sk, .inl (cy 1, 64, .inr (.inl g_qsk))), (v, .inr (1, [.ref v_c])), (v_c, .inl (cy 0, 63, .inl g_v))] H := hP
  have hD : va_D A [(o, .inr (2, [.int (g_v (Int32.toNatClampNeg z_3)), .int o_much, .int o_drawn, .ref o_one, .ref o_oth])), (q, .inr (6, [.ref qf, .ref q_ca, .ref q_bo, .int o_gust_6, .int o_still_7, o_rv_8, .ref q_wd, .ref q_sk])), (qf, .inr (1, [.ref qf_c])), (qf_c, .inl (cy 0, 63, .inl g_of_5)), (q_ca, .inl (cy 0, 5, .inl g_qca)), (q_bo, .inl (cy 0, 5, .inl g_obo_9)), (q_wd, .inl (cy 1, 13, .inr (.inl g_qwd))), (q_sk, .inl (cy 1, 64, .inr (.inl g_qsk))), (v, .inr (1, [.ref v_c])), (v_c, .inl (cy 0, 63, .inl g_v))] := hD
  obtain ⟨⟨b_10a, b_10b⟩, ⟨b_10c, b_10d⟩, ⟨b_10e, b_10f⟩⟩ := FV.bounds eu_4a
  refine lv_aload_n hx hb dX2_findPlace_20 rfl (lv_at hl 1 rfl) ?_
  refine lv_iload hx hb dX2_findPlace_21 (lv_at hl 5 rfl) ?_
  refine jwVV (wr := [(o, .inr (2, [.int (g_v (Int32.toNatClampNeg z_3)), .int o_much, .int o_drawn, .ref o_one, .ref o_oth])), (v, .inr (1, [.ref v_c])), (v_c, .inl (cy 0, 63, .inl g_v))]) (As := [.int x1]) (rest := []) F hE hP hD hS hA hl.1 hz hZ (cc_X6_playRounds l D cy (Z := Z) (hz := hz) (TT := TT) (zt := zt) (o := q) (x0 := x1) (of := qf) (o_ca := q_ca) (o_bo := q_bo) (o_gust := o_gust_6) (o_still := o_still_7) (o_rv := o_rv_8) (o_wd := q_wd) (o_sk := q_sk) (of_c := qf_c) (g_of := g_of_5) (g_oca := g_qca) (g_obo := g_obo_9) (g_owd := g_qwd) (g_osk := g_qsk) (h_g_of := eu_4a) (h_g_obo := eu_4b) (hrv := (by first | omega | assumption)) (p0 := (by first | omega | assumption)) (p1 := (by first | omega | assumption))) q_m_X2_64 mv_X6_playRounds ⟨(Nat.le_of_ble_eq_true rfl), (Nat.le_of_ble_eq_true rfl)⟩ [1, 2, 3, 4, 5, 6, 7] [0, 8, 9] (by decide) rfl rfl (by decide) (by decide) rfl rfl rfl rfl rfl (Nat.le_of_ble_eq_true rfl) ⟨(Nat.le_of_ble_eq_true rfl), (Nat.le_of_ble_eq_true rfl)⟩ dX2_findPlace_23 (fun u_11 H locs eu_11 hP hD hS => ?_)
  obtain ⟨g_of_12, o_still_13, g_oca_14, g_owd_15, g_osk_16⟩ := u_11
  have eu_11 : FV g_of_12 := eu_11
  have hP : va_P D vwCl [(o, .inr (2, [.int (g_v (Int32.toNatClampNeg z_3)), .int o_much, .int o_drawn, .ref o_one, .ref o_oth])), (v, .inr (1, [.ref v_c])), (v_c, .inl (cy 0, 63, .inl g_v)), (q, .inr (6, [.ref qf, .ref q_ca, .ref q_bo, .int o_gust_6, .int o_still_13, o_rv_8, .ref q_wd, .ref q_sk])), (qf, .inr (1, [.ref qf_c])), (qf_c, .inl (cy 0, 63, .inl g_of_12)), (q_ca, .inl (cy 0, 5, .inl g_oca_14)), (q_bo, .inl (cy 0, 5, .inl g_obo_9)), (q_wd, .inl (cy 1, 13, .inr (.inl g_owd_15))), (q_sk, .inl (cy 1, 64, .inr (.inl g_osk_16)))] H := hP
  have hD : va_D A [(o, .inr (2, [.int (g_v (Int32.toNatClampNeg z_3)), .int o_much, .int o_drawn, .ref o_one, .ref o_oth])), (v, .inr (1, [.ref v_c])), (v_c, .inl (cy 0, 63, .inl g_v)), (q, .inr (6, [.ref qf, .ref q_ca, .ref q_bo, .int o_gust_6, .int o_still_13, o_rv_8, .ref q_wd, .ref q_sk])), (qf, .inr (1, [.ref qf_c])), (qf_c, .inl (cy 0, 63, .inl g_of_12)), (q_ca, .inl (cy 0, 5, .inl g_oca_14)), (q_bo, .inl (cy 0, 5, .inl g_obo_9)), (q_wd, .inl (cy 1, 13, .inr (.inl g_owd_15))), (q_sk, .inl (cy 1, 64, .inr (.inl g_osk_16)))] := hD
  obtain ⟨⟨b_17a, b_17b⟩, ⟨b_17c, b_17d⟩, ⟨b_17e, b_17f⟩⟩ := FV.bounds eu_11
  refine lv_aload_n hx hb dX2_findPlace_26 rfl (lv_at hl 0 rfl) ?_
  refine lv_aload_n hx hb dX2_findPlace_27 rfl (lv_at hl 0 rfl) ?_
  refine lv_aload_n hx hb dX2_findPlace_28 rfl (lv_at hl 2 rfl) ?_
  refine lv_aload_n hx hb dX2_findPlace_29 rfl (lv_at hl 1 rfl) ?_
  refine va_get (D := D) (ci := 6) (v := .ref qf) (C := RX6) (T := TX6) (N := 8) hx hb hG inG_X6 hown hE.1 hP 3 rfl rfl 0 (by decide) (hG _ q_f_X2_28) (fun _ h9 => h9) rfl dX2_findPlace_30 ?_
  refine kcV (As := [.ref v, .ref qf]) (rest := [.ref o]) F hE hP hl.1 (cc_X2_easedSince l D cy (o := o) (q := v) (v := qf) (o_which := (g_v (Int32.toNatClampNeg z_3))) (o_much := o_much) (o_drawn := o_drawn) (o_one := o_one) (o_oth := o_oth) (q_c := v_c) (g_q := g_v) (v_c := qf_c) (g_v := g_of_12) (h_g_q := h_g_v) (h_g_v := eu_11)) q_m_X2_68 mv_X2_easedSince ⟨(Nat.le_of_ble_eq_true rfl), (Nat.le_of_ble_eq_true rfl)⟩ [0, 1, 2, 4, 5] rfl rfl rfl rfl rfl rfl (Nat.le_of_ble_eq_true rfl) ⟨(Nat.le_of_ble_eq_true rfl), (Nat.le_of_ble_eq_true rfl)⟩ dX2_findPlace_33 (fun r_18 er_18 => ?_)
  refine va_put (D := D) (ci := 2) (v := .int r_18) (ty := .int) (C := RX2) (T := TX2) (N := 5) hx hb hG inG_X2 tyX2 tyX2_ok nmX2 hown hE.1 hP hD hS 0 rfl rfl 1 (by decide) (hG _ q_f_X2_15) (fun _ h9 => h9) rfl (by decide +kernel) rfl rfl (Nat.le_of_ble_eq_true rfl) dX2_findPlace_36 (fun H locs hP hD hS => ?_)
  have hP : va_P D vwCl [(o, .inr (2, [.int (g_v (Int32.toNatClampNeg z_3)), .int r_18, .int o_drawn, .ref o_one, .ref o_oth])), (v, .inr (1, [.ref v_c])), (v_c, .inl (cy 0, 63, .inl g_v)), (q, .inr (6, [.ref qf, .ref q_ca, .ref q_bo, .int o_gust_6, .int o_still_13, o_rv_8, .ref q_wd, .ref q_sk])), (qf, .inr (1, [.ref qf_c])), (qf_c, .inl (cy 0, 63, .inl g_of_12)), (q_ca, .inl (cy 0, 5, .inl g_oca_14)), (q_bo, .inl (cy 0, 5, .inl g_obo_9)), (q_wd, .inl (cy 1, 13, .inr (.inl g_owd_15))), (q_sk, .inl (cy 1, 64, .inr (.inl g_osk_16)))] H := hP
  have hD : va_D A [(o, .inr (2, [.int (g_v (Int32.toNatClampNeg z_3)), .int r_18, .int o_drawn, .ref o_one, .ref o_oth])), (v, .inr (1, [.ref v_c])), (v_c, .inl (cy 0, 63, .inl g_v)), (q, .inr (6, [.ref qf, .ref q_ca, .ref q_bo, .int o_gust_6, .int o_still_13, o_rv_8, .ref q_wd, .ref q_sk])), (qf, .inr (1, [.ref qf_c])), (qf_c, .inl (cy 0, 63, .inl g_of_12)), (q_ca, .inl (cy 0, 5, .inl g_oca_14)), (q_bo, .inl (cy 0, 5, .inl g_obo_9)), (q_wd, .inl (cy 1, 13, .inr (.inl g_owd_15))), (q_sk, .inl (cy 1, 64, .inr (.inl g_osk_16)))] := hD
  refine lv_iconst (v := 0) hx hb dX2_findPlace_39 (by decide) ?_
  refine lv_istore (lv' := [(6, .int 0), (0, .ref o), (1, .ref q), (2, .ref v), (3, .ref r), (4, .int x0), (5, .int x1)]) hx hb dX2_findPlace_40 hl (by decide) rfl (fun ls hl => ?_)
  have lp42 : ∀ (fu : Nat) (v6_42 : Int32) (w0_o_42 : Int32) (w1_o_42 : Int32) (w3_q_42 : Int32) (w4_q_42 : Int32) (w5_q_42 : Value) (gqf_c_42 : Nat → Int32) (gq_ca_42 : Nat → Int32) (gq_bo_42 : Nat → Int32) (gq_wd_42 : Nat → Int64) (gq_sk_42 : Nat → Int64) (H : Heap) (locs : List Loc) (ls : Array Slot), FV gqf_c_42 → PLV gq_bo_42 → (0 ≤ v6_42.toInt) → (v6_42.toInt ≤ 2147483647) → 2147483647 - v6_42.toInt < (fu : Int) → va_P D vwCl [(o, .inr (2, [.int w0_o_42, .int w1_o_42, .int o_drawn, .ref o_one, .ref o_oth])), (v, .inr (1, [.ref v_c])), (v_c, .inl (cy 0, 63, .inl g_v)), (q, .inr (6, [.ref qf, .ref q_ca, .ref q_bo, .int w3_q_42, .int w4_q_42, w5_q_42, .ref q_wd, .ref q_sk])), (qf, .inr (1, [.ref qf_c])), (qf_c, .inl (cy 0, 63, .inl gqf_c_42)), (q_ca, .inl (cy 0, 5, .inl gq_ca_42)), (q_bo, .inl (cy 0, 5, .inl gq_bo_42)), (q_wd, .inl (cy 1, 13, .inr (.inl gq_wd_42))), (q_sk, .inl (cy 1, 64, .inr (.inl gq_sk_42)))] H → va_D A [(o, .inr (2, [.int w0_o_42, .int w1_o_42, .int o_drawn, .ref o_one, .ref o_oth])), (v, .inr (1, [.ref v_c])), (v_c, .inl (cy 0, 63, .inl g_v)), (q, .inr (6, [.ref qf, .ref q_ca, .ref q_bo, .int w3_q_42, .int w4_q_42, w5_q_42, .ref q_wd, .ref q_sk])), (qf, .inr (1, [.ref qf_c])), (qf_c, .inl (cy 0, 63, .inl gqf_c_42)), (q_ca, .inl (cy 0, 5, .inl gq_ca_42)), (q_bo, .inl (cy 0, 5, .inl gq_bo_42)), (q_wd, .inl (cy 1, 13, .inr (.inl gq_wd_42))), (q_sk, .inl (cy 1, 64, .inr (.inl gq_sk_42)))] → va_S A s.heap H locs → lv_has ls 7 [(6, .int v6_42), (0, .ref o), (1, .ref q), (2, .ref v), (3, .ref r), (4, .int x0), (5, .int x1)] → W p l e (kRm 6 148 0 0) s m ([.ref o, .ref q, .ref v, .ref r, .int x0, .int x1] : List Value).toArray below meth c H locs 0 0 (MQ below (va_Qv (S := Int32 × Int32 × (Nat → Int32) × Int32 × Int32 × Value × (Nat → Int32) × (Nat → Int32) × (Nat → Int64) × (Nat → Int64)) (fun u => FV (u.2.2.1) ∧ PLV (u.2.2.2.2.2.2.2.1)) (kBw D A (fun u => [(o, .inr (2, [.int (u.1), .int (u.2.1), .int o_drawn, .ref o_one, .ref o_oth])), (q, .inr (6, [.ref qf, .ref q_ca, .ref q_bo, .int (u.2.2.2.1), .int (u.2.2.2.2.1), (u.2.2.2.2.2.1), .ref q_wd, .ref q_sk])), (qf, .inr (1, [.ref qf_c])), (qf_c, .inl (cy 0, 63, .inl (u.2.2.1))), (q_ca, .inl (cy 0, 5, .inl (u.2.2.2.2.2.2.1))), (q_bo, .inl (cy 0, 5, .inl (u.2.2.2.2.2.2.2.1))), (q_wd, .inl (cy 1, 13, .inr (.inl (u.2.2.2.2.2.2.2.2.1)))), (q_sk, .inl (cy 1, 64, .inr (.inl (u.2.2.2.2.2.2.2.2.2)))), (v, .inr (1, [.ref v_c])), (v_c, .inl (cy 0, 63, .inl g_v))])) A) ([.ref o, .ref q, .ref v, .ref r, .int x0, .int x1] : List Value).toArray s 0 0 A) (F0 m 42 ls []) := by
    intro fu42
    induction fu42 with
    | zero =>
      intro v6_42 w0_o_42 w1_o_42 w3_q_42 w4_q_42 w5_q_42 gqf_c_42 gq_ca_42 gq_bo_42 gq_wd_42 gq_sk_42 H locs ls hgqf_c_42 hgq_bo_42 j0_42 j1_42 hm42 hP hD hS hl
      exact absurd hm42 (by omega)
    | succ fu42 ih42 =>
      intro v6_42 w0_o_42 w1_o_42 w3_q_42 w4_q_42 w5_q_42 gqf_c_42 gq_ca_42 gq_bo_42 gq_wd_42 gq_sk_42 H locs ls hgqf_c_42 hgq_bo_42 j0_42 j1_42 hm42 hP hD hS hl
      obtain ⟨⟨b_19a, b_19b⟩, ⟨b_19c, b_19d⟩, ⟨b_19e, b_19f⟩⟩ := FV.bounds hgqf_c_42
      have lgb := Int32.toInt_lt (g_v 0)
      refine lv_iload hx hb dX2_findPlace_42 (lv_at hl 0 rfl) ?_
      refine lv_aload_n hx hb dX2_findPlace_44 rfl (lv_at hl 3 rfl) ?_
      refine va_get (D := D) (ci := 1) (v := .ref v_c) (C := RX1) (T := TX1) (N := 1) hx hb hG inG_X1 hown hE.1 hP 1 rfl rfl 0 (by decide) (hG _ q_f_X2_34) (fun _ h9 => h9) rfl dX2_findPlace_45 ?_
      refine lv_iconst (v := 0) hx hb dX2_findPlace_48 (by decide) ?_
      refine va_iald hx hb hE.1 hP 2 0 rfl rfl (by unfold vp_in; decide) dX2_findPlace_49 ?_
      refine k_top (z := (g_v 0)) rfl ?_
      refine lv_icmp_ge (tgt := 111) hx hb dX2_findPlace_50 (by decide) (fun c_20 => ?_) (fun c_20 => ?_)
      · have ic_20 : (g_v 0).toInt ≤ v6_42.toInt := k_le c_20 rfl rfl
        exact KV.rt ⟨w0_o_42, w1_o_42, gqf_c_42, w3_q_42, w4_q_42, (w5_q_42), gq_ca_42, gq_bo_42, gq_wd_42, gq_sk_42⟩ F (hP.sub [0, 3, 4, 5, 6, 7, 8, 9, 1, 2] rfl) (hD.sub [0, 3, 4, 5, 6, 7, 8, 9, 1, 2] (by decide) rfl) hS (show FV gqf_c_42 ∧ PLV gq_bo_42 from ⟨hgqf_c_42, hgq_bo_42⟩) (Nat.le_of_ble_eq_true rfl) (Nat.le_of_ble_eq_true rfl) dX2_findPlace_111
      · have ic_20 : v6_42.toInt < (g_v 0).toInt := k_nle c_20 rfl rfl
        refine lv_aload_n hx hb dX2_findPlace_53 rfl (lv_at hl 3 rfl) ?_
        refine lv_iload hx hb dX2_findPlace_54 (lv_at hl 0 rfl) ?_
        refine kcV (As := [.int v6_42]) (rest := []) F hE hP hl.1 (cc_X1_ringAt l D cy (o := v) (x0 := v6_42) (o_c := v_c) (g_o := g_v) (h_g_o := h_g_v)) q_m_X2_72 mv_X1_ringAt ⟨(Nat.le_of_ble_eq_true rfl), (Nat.le_of_ble_eq_true rfl)⟩ [1, 2] rfl rfl rfl rfl rfl rfl (Nat.le_of_ble_eq_true rfl) ⟨(Nat.le_of_ble_eq_true rfl), (Nat.le_of_ble_eq_true rfl)⟩ dX2_findPlace_56 (fun r_21 er_21 => ?_)
        have er_21 : (-1 ≤ r_21.toInt) ∧ (r_21.toInt ≤ 5) := er_21
        obtain ⟨er_21a, er_21b⟩ := er_21
        refine lv_iconst (v := (-1)) hx hb dX2_findPlace_59 (by decide) ?_
        refine lv_icmp_ne (tgt := 105) hx hb dX2_findPlace_60 (by decide) (fun c_22 => ?_) (fun c_22 => ?_)
        · have ic_22 : r_21.toInt ≠ (-1) := k_ne c_22 rfl (by decide)
          obtain ⟨z_23, ez_23⟩ : ∃ y : Int32, y = v6_42 + Int32.ofInt 1 := ⟨_, rfl⟩
          have iz_23 : z_23.toInt = v6_42.toInt + 1 := k_addI ez_23 rfl (by decide) (by omega)
          refine lv_iinc (v := z_23) (lv' := [(6, .int z_23), (0, .ref o), (1, .ref q), (2, .ref v), (3, .ref r), (4, .int x0), (5, .int x1)]) hx hb dX2_findPlace_105 hl (k := 0) rfl ez_23.symm (by decide) rfl (fun ls hl => ?_)
          refine lv_goto (tgt := 42) hx hb dX2_findPlace_108 (by decide) ?_
          exact ih42 z_23 w0_o_42 w1_o_42 w3_q_42 w4_q_42 w5_q_42 gqf_c_42 gq_ca_42 gq_bo_42 gq_wd_42 gq_sk_42 _ _ ls hgqf_c_42 hgq_bo_42 (by first | omega | assumption) (by first | omega | assumption) (by omega) hP hD hS (lv_sub hl [0, 1, 2, 3, 4, 5, 6] rfl)
        · have ic_22 : r_21.toInt = (-1) := k_eq c_22 rfl (by decide)
          refine lv_aload_n hx hb dX2_findPlace_63 rfl (lv_at hl 2 rfl) ?_
          refine lv_aload_n hx hb dX2_findPlace_64 rfl (lv_at hl 3 rfl) ?_
          refine lv_aload_n hx hb dX2_findPlace_65 rfl (lv_at hl 4 rfl) ?_
          refine jwVV (wr := [(o, .inr (2, [.int w0_o_42, .int w1_o_42, .int o_drawn, .ref o_one, .ref o_oth]))]) (As := [.ref v, .ref r]) (rest := []) F hE hP hD hS hA hl.1 hz hZ (cc_startFromR l D cy (Z := Z) (hz := hz) (TT := TT) (zt := zt) (o := q) (q := v) (r := r) (of := qf) (o_ca := q_ca) (o_bo := q_bo) (o_gust := w3_q_42) (o_still := w4_q_42) (o_rv := w5_q_42) (o_wd := q_wd) (o_sk := q_sk) (of_c := qf_c) (g_of := gqf_c_42) (g_oca := gq_ca_42) (g_obo := gq_bo_42) (g_owd := gq_wd_42) (g_osk := gq_sk_42) (q_c := v_c) (g_q := g_v) (st := st) (ra := ra) (rn := rn) (rg := rg) (ri := ri) (rj := rj) (h_g_of := hgqf_c_42) (h_g_obo := hgq_bo_42) (h_g_q := h_g_v) (hTi := (by first | omega | assumption)) (hTj := (by first | omega | assumption)) (hn4 := (by first | omega | assumption)) (hg := (by first | omega | assumption))) q_m_X2_60 mv_X6_startFrom ⟨(Nat.le_of_ble_eq_true rfl), (Nat.le_of_ble_eq_true rfl)⟩ [3, 4, 5, 6, 7, 8, 9, 1, 2] [0] (by decide) rfl rfl (by decide) (by decide) rfl rfl rfl rfl rfl (Nat.le_of_ble_eq_true rfl) ⟨(Nat.le_of_ble_eq_true rfl), (Nat.le_of_ble_eq_true rfl)⟩ dX2_findPlace_66 (fun u_24 H locs eu_24 hP hD hS => ?_)
          obtain ⟨g_of_25, o_gust_26, o_still_27, o_rv_28, g_obo_29⟩ := u_24
          have eu_24 : FV g_of_25 ∧ PLV g_obo_29 ∧ (RIn TT (cy 0) o_rv_28) := eu_24
          obtain ⟨eu_24a, eu_24b, eu_24c⟩ := eu_24
          have hP : va_P D vwCl [(o, .inr (2, [.int w0_o_42, .int w1_o_42, .int o_drawn, .ref o_one, .ref o_oth])), (q, .inr (6, [.ref qf, .ref q_ca, .ref q_bo, .int o_gust_26, .int o_still_27, o_rv_28, .ref q_wd, .ref q_sk])), (qf, .inr (1, [.ref qf_c])), (qf_c, .inl (cy 0, 63, .inl g_of_25)), (q_ca, .inl (cy 0, 5, .inl gq_ca_42)), (q_bo, .inl (cy 0, 5, .inl g_obo_29)), (q_wd, .inl (cy 1, 13, .inr (.inl gq_wd_42))), (q_sk, .inl (cy 1, 64, .inr (.inl gq_sk_42))), (v, .inr (1, [.ref v_c])), (v_c, .inl (cy 0, 63, .inl g_v))] H := hP
          have hD : va_D A [(o, .inr (2, [.int w0_o_42, .int w1_o_42, .int o_drawn, .ref o_one, .ref o_oth])), (q, .inr (6, [.ref qf, .ref q_ca, .ref q_bo, .int o_gust_26, .int o_still_27, o_rv_28, .ref q_wd, .ref q_sk])), (qf, .inr (1, [.ref qf_c])), (qf_c, .inl (cy 0, 63, .inl g_of_25)), (q_ca, .inl (cy 0, 5, .inl gq_ca_42)), (q_bo, .inl (cy 0, 5, .inl g_obo_29)), (q_wd, .inl (cy 1, 13, .inr (.inl gq_wd_42))), (q_sk, .inl (cy 1, 64, .inr (.inl gq_sk_42))), (v, .inr (1, [.ref v_c])), (v_c, .inl (cy 0, 63, .inl g_v))] := hD
          obtain ⟨⟨b_30a, b_30b⟩, ⟨b_30c, b_30d⟩, ⟨b_30e, b_30f⟩⟩ := FV.bounds eu_24a
          refine lv_aload_n hx hb dX2_findPlace_69 rfl (lv_at hl 2 rfl) ?_
          refine va_get (D := D) (ci := 6) (v := .ref qf) (C := RX6) (T := TX6) (N := 8) hx hb hG inG_X6 hown hE.1 hP 1 rfl rfl 0 (by decide) (hG _ q_f_X2_28) (fun _ h9 => h9) rfl dX2_findPlace_70 ?_
          refine va_get (D := D) (ci := 1) (v := .ref qf_c) (C := RX1) (T := TX1) (N := 1) hx hb hG inG_X1 hown hE.1 hP 2 rfl rfl 0 (by decide) (hG _ q_f_X2_34) (fun _ h9 => h9) rfl dX2_findPlace_73 ?_
          refine lv_bipush (v := 20) hx hb dX2_findPlace_76 (by decide) ?_
          refine lv_iload hx hb dX2_findPlace_78 (lv_at hl 5 rfl) ?_
          refine lv_iadd hx hb dX2_findPlace_80 ?_
          refine lv_topi (fun z_31 ez_31 => ?_)
          have iz_31 : z_31.toInt = 20 + x0.toInt := k_addI ez_31 (by decide) rfl (by omega)
          refine lv_iload hx hb dX2_findPlace_81 (lv_at hl 0 rfl) ?_
          refine va_iast hx hb hE.1 hP hD hS 3 0 rfl rfl (k_in (by omega)) dX2_findPlace_83 (fun H locs hP hD hS => ?_)
          have hr_33 : FV (upd g_of_25 (Int32.toNatClampNeg z_31) v6_42) := FV.put eu_24a z_31 v6_42 (by omega) (by omega) (by omega) (by omega) (by omega)
          generalize upd g_of_25 (Int32.toNatClampNeg z_31) v6_42 = fn_32 at hP hD hr_33
          have hP : va_P D vwCl [(o, .inr (2, [.int w0_o_42, .int w1_o_42, .int o_drawn, .ref o_one, .ref o_oth])), (q, .inr (6, [.ref qf, .ref q_ca, .ref q_bo, .int o_gust_26, .int o_still_27, o_rv_28, .ref q_wd, .ref q_sk])), (qf, .inr (1, [.ref qf_c])), (qf_c, .inl (cy 0, 63, .inl fn_32)), (q_ca, .inl (cy 0, 5, .inl gq_ca_42)), (q_bo, .inl (cy 0, 5, .inl g_obo_29)), (q_wd, .inl (cy 1, 13, .inr (.inl gq_wd_42))), (q_sk, .inl (cy 1, 64, .inr (.inl gq_sk_42))), (v, .inr (1, [.ref v_c])), (v_c, .inl (cy 0, 63, .inl g_v))] H := hP
          have hD : va_D A [(o, .inr (2, [.int w0_o_42, .int w1_o_42, .int o_drawn, .ref o_one, .ref o_oth])), (q, .inr (6, [.ref qf, .ref q_ca, .ref q_bo, .int o_gust_26, .int o_still_27, o_rv_28, .ref q_wd, .ref q_sk])), (qf, .inr (1, [.ref qf_c])), (qf_c, .inl (cy 0, 63, .inl fn_32)), (q_ca, .inl (cy 0, 5, .inl gq_ca_42)), (q_bo, .inl (cy 0, 5, .inl g_obo_29)), (q_wd, .inl (cy 1, 13, .inr (.inl gq_wd_42))), (q_sk, .inl (cy 1, 64, .inr (.inl gq_sk_42))), (v, .inr (1, [.ref v_c])), (v_c, .inl (cy 0, 63, .inl g_v))] := hD
          obtain ⟨⟨b_34a, b_34b⟩, ⟨b_34c, b_34d⟩, ⟨b_34e, b_34f⟩⟩ := FV.bounds hr_33
          refine lv_aload_n hx hb dX2_findPlace_84 rfl (lv_at hl 2 rfl) ?_
          refine lv_iload hx hb dX2_findPlace_85 (lv_at hl 6 rfl) ?_
          refine jwVV (wr := [(o, .inr (2, [.int w0_o_42, .int w1_o_42, .int o_drawn, .ref o_one, .ref o_oth])), (v, .inr (1, [.ref v_c])), (v_c, .inl (cy 0, 63, .inl g_v))]) (As := [.int x1]) (rest := []) F hE hP hD hS hA hl.1 hz hZ (cc_X6_playRounds l D cy (Z := Z) (hz := hz) (TT := TT) (zt := zt) (o := q) (x0 := x1) (of := qf) (o_ca := q_ca) (o_bo := q_bo) (o_gust := o_gust_26) (o_still := o_still_27) (o_rv := o_rv_28) (o_wd := q_wd) (o_sk := q_sk) (of_c := qf_c) (g_of := fn_32) (g_oca := gq_ca_42) (g_obo := g_obo_29) (g_owd := gq_wd_42) (g_osk := gq_sk_42) (h_g_of := hr_33) (h_g_obo := eu_24b) (hrv := (by first | omega | assumption)) (p0 := (by first | omega | assumption)) (p1 := (by first | omega | assumption))) q_m_X2_64 mv_X6_playRounds ⟨(Nat.le_of_ble_eq_true rfl), (Nat.le_of_ble_eq_true rfl)⟩ [1, 2, 3, 4, 5, 6, 7] [0, 8, 9] (by decide) rfl rfl (by decide) (by decide) rfl rfl rfl rfl rfl (Nat.le_of_ble_eq_true rfl) ⟨(Nat.le_of_ble_eq_true rfl), (Nat.le_of_ble_eq_true rfl)⟩ dX2_findPlace_87 (fun u_35 H locs eu_35 hP hD hS => ?_)
          obtain ⟨g_of_36, o_still_37, g_oca_38, g_owd_39, g_osk_40⟩ := u_35
          have eu_35 : FV g_of_36 := eu_35
          have hP : va_P D vwCl [(o, .inr (2, [.int w0_o_42, .int w1_o_42, .int o_drawn, .ref o_one, .ref o_oth])), (v, .inr (1, [.ref v_c])), (v_c, .inl (cy 0, 63, .inl g_v)), (q, .inr (6, [.ref qf, .ref q_ca, .ref q_bo, .int o_gust_26, .int o_still_37, o_rv_28, .ref q_wd, .ref q_sk])), (qf, .inr (1, [.ref qf_c])), (qf_c, .inl (cy 0, 63, .inl g_of_36)), (q_ca, .inl (cy 0, 5, .inl g_oca_38)), (q_bo, .inl (cy 0, 5, .inl g_obo_29)), (q_wd, .inl (cy 1, 13, .inr (.inl g_owd_39))), (q_sk, .inl (cy 1, 64, .inr (.inl g_osk_40)))] H := hP
          have hD : va_D A [(o, .inr (2, [.int w0_o_42, .int w1_o_42, .int o_drawn, .ref o_one, .ref o_oth])), (v, .inr (1, [.ref v_c])), (v_c, .inl (cy 0, 63, .inl g_v)), (q, .inr (6, [.ref qf, .ref q_ca, .ref q_bo, .int o_gust_26, .int o_still_37, o_rv_28, .ref q_wd, .ref q_sk])), (qf, .inr (1, [.ref qf_c])), (qf_c, .inl (cy 0, 63, .inl g_of_36)), (q_ca, .inl (cy 0, 5, .inl g_oca_38)), (q_bo, .inl (cy 0, 5, .inl g_obo_29)), (q_wd, .inl (cy 1, 13, .inr (.inl g_owd_39))), (q_sk, .inl (cy 1, 64, .inr (.inl g_osk_40)))] := hD
          obtain ⟨⟨b_41a, b_41b⟩, ⟨b_41c, b_41d⟩, ⟨b_41e, b_41f⟩⟩ := FV.bounds eu_35
          refine lv_aload_n hx hb dX2_findPlace_90 rfl (lv_at hl 1 rfl) ?_
          refine lv_iload hx hb dX2_findPlace_91 (lv_at hl 0 rfl) ?_
          refine lv_aload_n hx hb dX2_findPlace_93 rfl (lv_at hl 1 rfl) ?_
          refine lv_aload_n hx hb dX2_findPlace_94 rfl (lv_at hl 3 rfl) ?_
          refine lv_aload_n hx hb dX2_findPlace_95 rfl (lv_at hl 2 rfl) ?_
          refine va_get (D := D) (ci := 6) (v := .ref qf) (C := RX6) (T := TX6) (N := 8) hx hb hG inG_X6 hown hE.1 hP 3 rfl rfl 0 (by decide) (hG _ q_f_X2_28) (fun _ h9 => h9) rfl dX2_findPlace_96 ?_
          refine kcV (As := [.ref v, .ref qf]) (rest := [.int v6_42, .ref o]) F hE hP hl.1 (cc_X2_easedSince l D cy (o := o) (q := v) (v := qf) (o_which := w0_o_42) (o_much := w1_o_42) (o_drawn := o_drawn) (o_one := o_one) (o_oth := o_oth) (q_c := v_c) (g_q := g_v) (v_c := qf_c) (g_v := g_of_36) (h_g_q := h_g_v) (h_g_v := eu_35)) q_m_X2_68 mv_X2_easedSince ⟨(Nat.le_of_ble_eq_true rfl), (Nat.le_of_ble_eq_true rfl)⟩ [0, 1, 2, 4, 5] rfl rfl rfl rfl rfl rfl (Nat.le_of_ble_eq_true rfl) ⟨(Nat.le_of_ble_eq_true rfl), (Nat.le_of_ble_eq_true rfl)⟩ dX2_findPlace_99 (fun r_42 er_42 => ?_)
          refine kwVV (wr := [(v, .inr (1, [.ref v_c])), (v_c, .inl (cy 0, 63, .inl g_v)), (q, .inr (6, [.ref qf, .ref q_ca, .ref q_bo, .int o_gust_26, .int o_still_37, o_rv_28, .ref q_wd, .ref q_sk])), (qf, .inr (1, [.ref qf_c])), (qf_c, .inl (cy 0, 63, .inl g_of_36)), (q_ca, .inl (cy 0, 5, .inl g_oca_38)), (q_bo, .inl (cy 0, 5, .inl g_obo_29)), (q_wd, .inl (cy 1, 13, .inr (.inl g_owd_39))), (q_sk, .inl (cy 1, 64, .inr (.inl g_osk_40)))]) (As := [.int v6_42, .int r_42]) (rest := []) F hE hP hD hS hA hl.1 (cc_X2_takeIfMore l D cy (o := o) (x0 := v6_42) (x1 := r_42) (o_which := w0_o_42) (o_much := w1_o_42) (o_drawn := o_drawn) (o_one := o_one) (o_oth := o_oth)) q_m_X2_76 mv_X2_takeIfMore ⟨(Nat.le_of_ble_eq_true rfl), (Nat.le_of_ble_eq_true rfl)⟩ [0] [1, 2, 3, 4, 5, 6, 7, 8, 9] (by decide) rfl rfl (by decide) (by decide) rfl rfl rfl rfl rfl (Nat.le_of_ble_eq_true rfl) ⟨(Nat.le_of_ble_eq_true rfl), (Nat.le_of_ble_eq_true rfl)⟩ dX2_findPlace_102 (fun u_43 H locs eu_43 hP hD hS => ?_)
          obtain ⟨o_which_44, o_much_45⟩ := u_43
          have hP : va_P D vwCl [(v, .inr (1, [.ref v_c])), (v_c, .inl (cy 0, 63, .inl g_v)), (q, .inr (6, [.ref qf, .ref q_ca, .ref q_bo, .int o_gust_26, .int o_still_37, o_rv_28, .ref q_wd, .ref q_sk])), (qf, .inr (1, [.ref qf_c])), (qf_c, .inl (cy 0, 63, .inl g_of_36)), (q_ca, .inl (cy 0, 5, .inl g_oca_38)), (q_bo, .inl (cy 0, 5, .inl g_obo_29)), (q_wd, .inl (cy 1, 13, .inr (.inl g_owd_39))), (q_sk, .inl (cy 1, 64, .inr (.inl g_osk_40))), (o, .inr (2, [.int o_which_44, .int o_much_45, .int o_drawn, .ref o_one, .ref o_oth]))] H := hP
          have hD : va_D A [(v, .inr (1, [.ref v_c])), (v_c, .inl (cy 0, 63, .inl g_v)), (q, .inr (6, [.ref qf, .ref q_ca, .ref q_bo, .int o_gust_26, .int o_still_37, o_rv_28, .ref q_wd, .ref q_sk])), (qf, .inr (1, [.ref qf_c])), (qf_c, .inl (cy 0, 63, .inl g_of_36)), (q_ca, .inl (cy 0, 5, .inl g_oca_38)), (q_bo, .inl (cy 0, 5, .inl g_obo_29)), (q_wd, .inl (cy 1, 13, .inr (.inl g_owd_39))), (q_sk, .inl (cy 1, 64, .inr (.inl g_osk_40))), (o, .inr (2, [.int o_which_44, .int o_much_45, .int o_drawn, .ref o_one, .ref o_oth]))] := hD
          obtain ⟨z_46, ez_46⟩ : ∃ y : Int32, y = v6_42 + Int32.ofInt 1 := ⟨_, rfl⟩
          have iz_46 : z_46.toInt = v6_42.toInt + 1 := k_addI ez_46 rfl (by decide) (by omega)
          refine lv_iinc (v := z_46) (lv' := [(6, .int z_46), (0, .ref o), (1, .ref q), (2, .ref v), (3, .ref r), (4, .int x0), (5, .int x1)]) hx hb dX2_findPlace_105 hl (k := 0) rfl ez_46.symm (by decide) rfl (fun ls hl => ?_)
          refine lv_goto (tgt := 42) hx hb dX2_findPlace_108 (by decide) ?_
          have hP := hP.sub (ws' := [(o, .inr (2, [.int o_which_44, .int o_much_45, .int o_drawn, .ref o_one, .ref o_oth])), (v, .inr (1, [.ref v_c])), (v_c, .inl (cy 0, 63, .inl g_v)), (q, .inr (6, [.ref qf, .ref q_ca, .ref q_bo, .int o_gust_26, .int o_still_37, o_rv_28, .ref q_wd, .ref q_sk])), (qf, .inr (1, [.ref qf_c])), (qf_c, .inl (cy 0, 63, .inl g_of_36)), (q_ca, .inl (cy 0, 5, .inl g_oca_38)), (q_bo, .inl (cy 0, 5, .inl g_obo_29)), (q_wd, .inl (cy 1, 13, .inr (.inl g_owd_39))), (q_sk, .inl (cy 1, 64, .inr (.inl g_osk_40)))]) [9, 0, 1, 2, 3, 4, 5, 6, 7, 8] rfl
          have hD := hD.sub (ws' := [(o, .inr (2, [.int o_which_44, .int o_much_45, .int o_drawn, .ref o_one, .ref o_oth])), (v, .inr (1, [.ref v_c])), (v_c, .inl (cy 0, 63, .inl g_v)), (q, .inr (6, [.ref qf, .ref q_ca, .ref q_bo, .int o_gust_26, .int o_still_37, o_rv_28, .ref q_wd, .ref q_sk])), (qf, .inr (1, [.ref qf_c])), (qf_c, .inl (cy 0, 63, .inl g_of_36)), (q_ca, .inl (cy 0, 5, .inl g_oca_38)), (q_bo, .inl (cy 0, 5, .inl g_obo_29)), (q_wd, .inl (cy 1, 13, .inr (.inl g_owd_39))), (q_sk, .inl (cy 1, 64, .inr (.inl g_osk_40)))]) [9, 0, 1, 2, 3, 4, 5, 6, 7, 8] (by decide) rfl
          exact ih42 z_46 o_which_44 o_much_45 o_gust_26 o_still_37 o_rv_28 g_of_36 g_oca_38 g_obo_29 g_owd_39 g_osk_40 _ _ ls eu_35 eu_24b (by first | omega | assumption) (by first | omega | assumption) (by omega) hP hD hS (lv_sub hl [0, 1, 2, 3, 4, 5, 6] rfl)
  have lt_47 : (0 : Int32).toInt = 0 := by decide
  exact lp42 3000000000 0 (g_v (Int32.toNatClampNeg z_3)) r_18 o_gust_6 o_still_13 o_rv_8 g_of_12 g_oca_14 g_obo_9 g_owd_15 g_osk_16 _ _ ls eu_11 eu_4b (by first | omega | assumption) (by first | omega | assumption) (by omega) hP hD hS hl

theorem cc_findPlace (l : Launch) (D : va_G) (cy : Nat → ClassId) {Z : (Nat → Prop) → State → Heap → Prop} (hz : zOK Z) {TT : va_W} (zt : ∀ (A : Nat → Prop) (U : State) (H : Heap), Z A U H → va_P D vwCl TT H) (o : Nat) (o_one : Nat) (o_oth : Nat) (o_which : Int32) (o_much : Int32) (o_drawn : Int32) (q : Nat) (qf : Nat) (qf_c : Nat) (g_qf : Nat → Int32) (q_ca : Nat) (q_bo : Nat) (q_wd : Nat) (q_sk : Nat) (q_gust : Int32) (q_still : Int32) (q_rv : Value) (g_qca : Nat → Int32) (g_qbo : Nat → Int32) (g_qwd : Nat → Int64) (g_qsk : Nat → Int64) (v : Nat) (v_c : Nat) (g_v : Nat → Int32) (x0 : Int32) (x1 : Int32) (rv : Value) (hrv : RIn TT (cy 0) rv) (h_g_qf : FV g_qf) (h_g_qbo : PLV g_qbo) (h_g_v : FV g_v) (p0 : 0 ≤ x0.toInt) (p1 : x0.toInt ≤ 5) (p2 : 0 ≤ x1.toInt) (p3 : x1.toInt ≤ 100) : JV l yX2_findPlace cX2_findPlace 7 6 148 D (kTY cy) [.ref o, .ref q, .ref v, rv, .int x0, .int x1] [(o, .inr (2, [.int o_which, .int o_much, .int o_drawn, .ref o_one, .ref o_oth])), (q, .inr (6, [.ref qf, .ref q_ca, .ref q_bo, .int q_gust, .int q_still, q_rv, .ref q_wd, .ref q_sk])), (qf, .inr (1, [.ref qf_c])), (qf_c, .inl (cy 0, 63, .inl g_qf)), (q_ca, .inl (cy 0, 5, .inl g_qca)), (q_bo, .inl (cy 0, 5, .inl g_qbo)), (q_wd, .inl (cy 1, 13, .inr (.inl g_qwd))), (q_sk, .inl (cy 1, 64, .inr (.inl g_qsk))), (v, .inr (1, [.ref v_c])), (v_c, .inl (cy 0, 63, .inl g_v))] Z (S := Int32 × Int32 × (Nat → Int32) × Int32 × Int32 × Value × (Nat → Int32) × (Nat → Int32) × (Nat → Int64) × (Nat → Int64)) (fun u => FV (u.2.2.1) ∧ PLV (u.2.2.2.2.2.2.2.1)) (fun u => [(o, .inr (2, [.int (u.1), .int (u.2.1), .int o_drawn, .ref o_one, .ref o_oth])), (q, .inr (6, [.ref qf, .ref q_ca, .ref q_bo, .int (u.2.2.2.1), .int (u.2.2.2.2.1), (u.2.2.2.2.2.1), .ref q_wd, .ref q_sk])), (qf, .inr (1, [.ref qf_c])), (qf_c, .inl (cy 0, 63, .inl (u.2.2.1))), (q_ca, .inl (cy 0, 5, .inl (u.2.2.2.2.2.2.1))), (q_bo, .inl (cy 0, 5, .inl (u.2.2.2.2.2.2.2.1))), (q_wd, .inl (cy 1, 13, .inr (.inl (u.2.2.2.2.2.2.2.2.1)))), (q_sk, .inl (cy 1, 64, .inr (.inl (u.2.2.2.2.2.2.2.2.2)))), (v, .inr (1, [.ref v_c])), (v_c, .inl (cy 0, 63, .inl g_v))]) 0 0 := by
  rcases hrv with rfl | ⟨r, st, ra, rn, rg, ri, rj, rfl, hTi, hTj, hn4, hg⟩
  · exact cc_findPlaceN l D cy hz zt o o_one o_oth o_which o_much o_drawn q qf qf_c g_qf q_ca q_bo q_wd q_sk q_gust q_still q_rv g_qca g_qbo g_qwd g_qsk v v_c g_v x0 x1 h_g_qf h_g_qbo h_g_v p0 p1 p2 p3
  · exact cc_findPlaceR l D cy hz zt o o_one o_oth o_which o_much o_drawn q qf qf_c g_qf q_ca q_bo q_wd q_sk q_gust q_still q_rv g_qca g_qbo g_qwd g_qsk v v_c g_v x0 x1 r st ra rn rg ri rj h_g_qf h_g_qbo h_g_v hTi hTj hn4 hg p0 p1 p2 p3

set_option maxHeartbeats 4000000 in
set_option maxRecDepth 100000 in
theorem cc_findHeirN (l : Launch) (D : va_G) (cy : Nat → ClassId) {Z : (Nat → Prop) → State → Heap → Prop} (hz : zOK Z) {TT : va_W} (zt : ∀ (A : Nat → Prop) (U : State) (H : Heap), Z A U H → va_P D vwCl TT H) (o : Nat) (o_one : Nat) (o_oth : Nat) (o_which : Int32) (o_much : Int32) (o_drawn : Int32) (q : Nat) (qf : Nat) (qf_c : Nat) (g_qf : Nat → Int32) (q_ca : Nat) (q_bo : Nat) (q_wd : Nat) (q_sk : Nat) (q_gust : Int32) (q_still : Int32) (q_rv : Value) (g_qca : Nat → Int32) (g_qbo : Nat → Int32) (g_qwd : Nat → Int64) (g_qsk : Nat → Int64) (v : Nat) (v_c : Nat) (g_v : Nat → Int32) (x0 : Int32) (h_g_qf : FV g_qf) (h_g_qbo : PLV g_qbo) (h_g_v : FV g_v) (p0 : 0 ≤ x0.toInt) (p1 : x0.toInt ≤ 100) : JV l yX2_findHeir cX2_findHeir 8 6 148 D (kTY cy) [.ref o, .ref q, .ref v, .null, .int x0] [(o, .inr (2, [.int o_which, .int o_much, .int o_drawn, .ref o_one, .ref o_oth])), (q, .inr (6, [.ref qf, .ref q_ca, .ref q_bo, .int q_gust, .int q_still, q_rv, .ref q_wd, .ref q_sk])), (qf, .inr (1, [.ref qf_c])), (qf_c, .inl (cy 0, 63, .inl g_qf)), (q_ca, .inl (cy 0, 5, .inl g_qca)), (q_bo, .inl (cy 0, 5, .inl g_qbo)), (q_wd, .inl (cy 1, 13, .inr (.inl g_qwd))), (q_sk, .inl (cy 1, 64, .inr (.inl g_qsk))), (v, .inr (1, [.ref v_c])), (v_c, .inl (cy 0, 63, .inl g_v))] Z (S := Int32 × Int32 × (Nat → Int32) × Int32 × Int32 × Value × (Nat → Int32) × (Nat → Int32) × (Nat → Int64) × (Nat → Int64)) (fun u => FV (u.2.2.1) ∧ PLV (u.2.2.2.2.2.2.2.1)) (fun u => [(o, .inr (2, [.int (u.1), .int (u.2.1), .int o_drawn, .ref o_one, .ref o_oth])), (q, .inr (6, [.ref qf, .ref q_ca, .ref q_bo, .int (u.2.2.2.1), .int (u.2.2.2.2.1), (u.2.2.2.2.2.1), .ref q_wd, .ref q_sk])), (qf, .inr (1, [.ref qf_c])), (qf_c, .inl (cy 0, 63, .inl (u.2.2.1))), (q_ca, .inl (cy 0, 5, .inl (u.2.2.2.2.2.2.1))), (q_bo, .inl (cy 0, 5, .inl (u.2.2.2.2.2.2.2.1))), (q_wd, .inl (cy 1, 13, .inr (.inl (u.2.2.2.2.2.2.2.2.1)))), (q_sk, .inl (cy 1, 64, .inr (.inl (u.2.2.2.2.2.2.2.2.2)))), (v, .inr (1, [.ref v_c])), (v_c, .inl (cy 0, 63, .inl g_v))]) 0 0 := by
  refine JV.of (by decide) (Nat.le_of_ble_eq_true rfl) (fun p e s m below meth c ls A F hin hE hP hD hA hS hl hZ => ?_)
  have F : kF p s m meth c cX2_findHeir 8 none _ RX2 := F
  obtain ⟨hx, hb, hr, hml, hown, hG, hlk⟩ := id F
  have hl : lv_has ls 8 [(0, .ref o), (1, .ref q), (2, .ref v), (3, .null), (4, .int x0)] := hl
  obtain ⟨⟨b_1a, b_1b⟩, ⟨b_1c, b_1d⟩, ⟨b_1e, b_1f⟩⟩ := FV.bounds h_g_qf
  obtain ⟨⟨b_2a, b_2b⟩, ⟨b_2c, b_2d⟩, ⟨b_2e, b_2f⟩⟩ := FV.bounds h_g_v
  refine lv_bipush (v := 99) hx hb dX2_findHeir_0 (by decide) ?_
  refine lv_aload_n hx hb dX2_findHeir_2 rfl (lv_at hl 2 rfl) ?_
  refine lv_bipush (v := 58) hx hb dX2_findHeir_3 (by decide) ?_
  have lt32_2 : (58 : Int32).toInt = 58 := by decide
  refine kcV (As := [.int 58]) (rest := [.int 99]) F hE hP hl.1 (cc_X1_sumOfArchers l D cy (o := v) (x0 := 58) (o_c := v_c) (g_o := g_v) (h_g_o := h_g_v) (p0 := (by first | omega | assumption)) (p1 := (by first | omega | assumption))) q_m_X2_80 mv_X1_sumOfArchers ⟨(Nat.le_of_ble_eq_true rfl), (Nat.le_of_ble_eq_true rfl)⟩ [8, 9] rfl rfl rfl rfl rfl rfl (Nat.le_of_ble_eq_true rfl) ⟨(Nat.le_of_ble_eq_true rfl), (Nat.le_of_ble_eq_true rfl)⟩ dX2_findHeir_5 (fun r_4 er_4 => ?_)
  refine va_mmin hx hb (by rw [hml]; exact hl.1.symm) hown (hG _ q_m_X2_51) (hG _ q_s_J9_min_7cf53) (hG _ q_z_J9) (hG _ q_c_J9_min_7cf53) (Nat.le_of_ble_eq_true rfl) (Nat.le_of_ble_eq_true rfl) (Nat.le_of_ble_eq_true rfl) (Nat.le_of_ble_eq_true rfl) dX2_findHeir_8 ?_
  refine lv_topi (fun z_5 ez_5 => ?_)
  obtain ⟨iz_5a, iz_5b, iz_5c⟩ := k_minI (a := r_4.toInt) (b := 99) ez_5 rfl (by decide)
  refine lv_istore (lv' := [(5, .int z_5), (0, .ref o), (1, .ref q), (2, .ref v), (3, .null), (4, .int x0)]) hx hb dX2_findHeir_11 hl (by decide) rfl (fun ls hl => ?_)
  refine lv_aload_n hx hb dX2_findHeir_13 rfl (lv_at hl 1 rfl) ?_
  refine lv_iconst (v := (-1)) hx hb dX2_findHeir_14 (by decide) ?_
  refine va_put (D := D) (ci := 2) (v := .int (-1)) (ty := .int) (C := RX2) (T := TX2) (N := 5) hx hb hG inG_X2 tyX2 tyX2_ok nmX2 hown hE.1 hP hD hS 0 rfl rfl 0 (by decide) (hG _ q_f_X2_9) (fun _ h9 => h9) rfl (by decide +kernel) rfl rfl (Nat.le_of_ble_eq_true rfl) dX2_findHeir_15 (fun H locs hP hD hS => ?_)
  have hP : va_P D vwCl [(o, .inr (2, [.int (-1), .int o_much, .int o_drawn, .ref o_one, .ref o_oth])), (q, .inr (6, [.ref qf, .ref q_ca, .ref q_bo, .int q_gust, .int q_still, q_rv, .ref q_wd, .ref q_sk])), (qf, .inr (1, [.ref qf_c])), (qf_c, .inl (cy 0, 63, .inl g_qf)), (q_ca, .inl (cy 0, 5, .inl g_qca)), (q_bo, .inl (cy 0, 5, .inl g_qbo)), (q_wd, .inl (cy 1, 13, .inr (.inl g_qwd))), (q_sk, .inl (cy 1, 64, .inr (.inl g_qsk))), (v, .inr (1, [.ref v_c])), (v_c, .inl (cy 0, 63, .inl g_v))] H := hP
  have hD : va_D A [(o, .inr (2, [.int (-1), .int o_much, .int o_drawn, .ref o_one, .ref o_oth])), (q, .inr (6, [.ref qf, .ref q_ca, .ref q_bo, .int q_gust, .int q_still, q_rv, .ref q_wd, .ref q_sk])), (qf, .inr (1, [.ref qf_c])), (qf_c, .inl (cy 0, 63, .inl g_qf)), (q_ca, .inl (cy 0, 5, .inl g_qca)), (q_bo, .inl (cy 0, 5, .inl g_qbo)), (q_wd, .inl (cy 1, 13, .inr (.inl g_qwd))), (q_sk, .inl (cy 1, 64, .inr (.inl g_qsk))), (v, .inr (1, [.ref v_c])), (v_c, .inl (cy 0, 63, .inl g_v))] := hD
  refine lv_aload_n hx hb dX2_findHeir_18 rfl (lv_at hl 2 rfl) ?_
  refine lv_aload_n hx hb dX2_findHeir_19 rfl (lv_at hl 3 rfl) ?_
  refine lv_aload_nN hx hb dX2_findHeir_20 rfl (lv_at hl 4 rfl) ?_
  refine jwVV (wr := [(o, .inr (2, [.int (-1), .int o_much, .int o_drawn, .ref o_one, .ref o_oth]))]) (As := [.ref v, .null]) (rest := []) F hE hP hD hS hA hl.1 hz hZ (cc_startFromN l D cy (Z := Z) (hz := hz) (TT := TT) (zt := zt) (o := q) (q := v) (of := qf) (o_ca := q_ca) (o_bo := q_bo) (o_gust := q_gust) (o_still := q_still) (o_rv := q_rv) (o_wd := q_wd) (o_sk := q_sk) (of_c := qf_c) (g_of := g_qf) (g_oca := g_qca) (g_obo := g_qbo) (g_owd := g_qwd) (g_osk := g_qsk) (q_c := v_c) (g_q := g_v) (h_g_of := h_g_qf) (h_g_obo := h_g_qbo) (h_g_q := h_g_v)) q_m_X2_60 mv_X6_startFrom ⟨(Nat.le_of_ble_eq_true rfl), (Nat.le_of_ble_eq_true rfl)⟩ [1, 2, 3, 4, 5, 6, 7, 8, 9] [0] (by decide) rfl rfl (by decide) (by decide) rfl rfl rfl rfl rfl (Nat.le_of_ble_eq_true rfl) ⟨(Nat.le_of_ble_eq_true rfl), (Nat.le_of_ble_eq_true rfl)⟩ dX2_findHeir_21 (fun u_6 H locs eu_6 hP hD hS => ?_)
  obtain ⟨g_of_7, o_gust_8, o_still_9, o_rv_10, g_obo_11⟩ := u_6
  have eu_6 : FV g_of_7 ∧ PLV g_obo_11 ∧ (RIn TT (cy 0) o_rv_10) := eu_6
  obtain ⟨eu_6a, eu_6b, eu_6c⟩ := eu_6
  have hP : va_P D vwCl [(o, .inr (2, [.int (-1), .int o_much, .int o_drawn, .ref o_one, .ref o_oth])), (q, .inr (6, [.ref qf, .ref q_ca, .ref q_bo, .int o_gust_8, .int o_still_9, o_rv_10, .ref q_wd, .ref q_sk])), (qf, .inr (1, [.ref qf_c])), (qf_c, .inl (cy 0, 63, .inl g_of_7)), (q_ca, .inl (cy 0, 5, .inl g_qca)), (q_bo, .inl (cy 0, 5, .inl g_obo_11)), (q_wd, .inl (cy 1, 13, .inr (.inl g_qwd))), (q_sk, .inl (cy 1, 64, .inr (.inl g_qsk))), (v, .inr (1, [.ref v_c])), (v_c, .inl (cy 0, 63, .inl g_v))] H := hP
  have hD : va_D A [(o, .inr (2, [.int (-1), .int o_much, .int o_drawn, .ref o_one, .ref o_oth])), (q, .inr (6, [.ref qf, .ref q_ca, .ref q_bo, .int o_gust_8, .int o_still_9, o_rv_10, .ref q_wd, .ref q_sk])), (qf, .inr (1, [.ref qf_c])), (qf_c, .inl (cy 0, 63, .inl g_of_7)), (q_ca, .inl (cy 0, 5, .inl g_qca)), (q_bo, .inl (cy 0, 5, .inl g_obo_11)), (q_wd, .inl (cy 1, 13, .inr (.inl g_qwd))), (q_sk, .inl (cy 1, 64, .inr (.inl g_qsk))), (v, .inr (1, [.ref v_c])), (v_c, .inl (cy 0, 63, .inl g_v))] := hD
  obtain ⟨⟨b_12a, b_12b⟩, ⟨b_12c, b_12d⟩, ⟨b_12e, b_12f⟩⟩ := FV.bounds eu_6a
  refine lv_aload_n hx hb dX2_findHeir_24 rfl (lv_at hl 2 rfl) ?_
  refine lv_iload hx hb dX2_findHeir_25 (lv_at hl 5 rfl) ?_
  refine jwVV (wr := [(o, .inr (2, [.int (-1), .int o_much, .int o_drawn, .ref o_one, .ref o_oth])), (v, .inr (1, [.ref v_c])), (v_c, .inl (cy 0, 63, .inl g_v))]) (As := [.int x0]) (rest := []) F hE hP hD hS hA hl.1 hz hZ (cc_X6_playRounds l D cy (Z := Z) (hz := hz) (TT := TT) (zt := zt) (o := q) (x0 := x0) (of := qf) (o_ca := q_ca) (o_bo := q_bo) (o_gust := o_gust_8) (o_still := o_still_9) (o_rv := o_rv_10) (o_wd := q_wd) (o_sk := q_sk) (of_c := qf_c) (g_of := g_of_7) (g_oca := g_qca) (g_obo := g_obo_11) (g_owd := g_qwd) (g_osk := g_qsk) (h_g_of := eu_6a) (h_g_obo := eu_6b) (hrv := (by first | omega | assumption)) (p0 := (by first | omega | assumption)) (p1 := (by first | omega | assumption))) q_m_X2_64 mv_X6_playRounds ⟨(Nat.le_of_ble_eq_true rfl), (Nat.le_of_ble_eq_true rfl)⟩ [1, 2, 3, 4, 5, 6, 7] [0, 8, 9] (by decide) rfl rfl (by decide) (by decide) rfl rfl rfl rfl rfl (Nat.le_of_ble_eq_true rfl) ⟨(Nat.le_of_ble_eq_true rfl), (Nat.le_of_ble_eq_true rfl)⟩ dX2_findHeir_27 (fun u_13 H locs eu_13 hP hD hS => ?_)
  obtain ⟨g_of_14, o_still_15, g_oca_16, g_owd_17, g_osk_18⟩ := u_13
  have eu_13 : FV g_of_14 := eu_13
  have hP : va_P D vwCl [(o, .inr (2, [.int (-1), .int o_much, .int o_drawn, .ref o_one, .ref o_oth])), (v, .inr (1, [.ref v_c])), (v_c, .inl (cy 0, 63, .inl g_v)), (q, .inr (6, [.ref qf, .ref q_ca, .ref q_bo, .int o_gust_8, .int o_still_15, o_rv_10, .ref q_wd, .ref q_sk])), (qf, .inr (1, [.ref qf_c])), (qf_c, .inl (cy 0, 63, .inl g_of_14)), (q_ca, .inl (cy 0, 5, .inl g_oca_16)), (q_bo, .inl (cy 0, 5, .inl g_obo_11)), (q_wd, .inl (cy 1, 13, .inr (.inl g_owd_17))), (q_sk, .inl (cy 1, 64, .inr (.inl g_osk_18)))] H := hP
  have hD : va_D A [(o, .inr (2, [.int (-1), .int o_much, .int o_drawn, .ref o_one, .ref o_oth])), (v, .inr (1, [.ref v_c])), (v_c, .inl (cy 0, 63, .inl g_v)), (q, .inr (6, [.ref qf, .ref q_ca, .ref q_bo, .int o_gust_8, .int o_still_15, o_rv_10, .ref q_wd, .ref q_sk])), (qf, .inr (1, [.ref qf_c])), (qf_c, .inl (cy 0, 63, .inl g_of_14)), (q_ca, .inl (cy 0, 5, .inl g_oca_16)), (q_bo, .inl (cy 0, 5, .inl g_obo_11)), (q_wd, .inl (cy 1, 13, .inr (.inl g_owd_17))), (q_sk, .inl (cy 1, 64, .inr (.inl g_osk_18)))] := hD
  obtain ⟨⟨b_19a, b_19b⟩, ⟨b_19c, b_19d⟩, ⟨b_19e, b_19f⟩⟩ := FV.bounds eu_13
  refine lv_aload_n hx hb dX2_findHeir_30 rfl (lv_at hl 1 rfl) ?_
  refine lv_aload_n hx hb dX2_findHeir_31 rfl (lv_at hl 1 rfl) ?_
  refine lv_aload_n hx hb dX2_findHeir_32 rfl (lv_at hl 3 rfl) ?_
  refine lv_aload_n hx hb dX2_findHeir_33 rfl (lv_at hl 2 rfl) ?_
  refine va_get (D := D) (ci := 6) (v := .ref qf) (C := RX6) (T := TX6) (N := 8) hx hb hG inG_X6 hown hE.1 hP 3 rfl rfl 0 (by decide) (hG _ q_f_X2_28) (fun _ h9 => h9) rfl dX2_findHeir_34 ?_
  refine kcV (As := [.ref v, .ref qf]) (rest := [.ref o]) F hE hP hl.1 (cc_X2_easedSince l D cy (o := o) (q := v) (v := qf) (o_which := (-1)) (o_much := o_much) (o_drawn := o_drawn) (o_one := o_one) (o_oth := o_oth) (q_c := v_c) (g_q := g_v) (v_c := qf_c) (g_v := g_of_14) (h_g_q := h_g_v) (h_g_v := eu_13)) q_m_X2_68 mv_X2_easedSince ⟨(Nat.le_of_ble_eq_true rfl), (Nat.le_of_ble_eq_true rfl)⟩ [0, 1, 2, 4, 5] rfl rfl rfl rfl rfl rfl (Nat.le_of_ble_eq_true rfl) ⟨(Nat.le_of_ble_eq_true rfl), (Nat.le_of_ble_eq_true rfl)⟩ dX2_findHeir_37 (fun r_20 er_20 => ?_)
  refine va_put (D := D) (ci := 2) (v := .int r_20) (ty := .int) (C := RX2) (T := TX2) (N := 5) hx hb hG inG_X2 tyX2 tyX2_ok nmX2 hown hE.1 hP hD hS 0 rfl rfl 1 (by decide) (hG _ q_f_X2_15) (fun _ h9 => h9) rfl (by decide +kernel) rfl rfl (Nat.le_of_ble_eq_true rfl) dX2_findHeir_40 (fun H locs hP hD hS => ?_)
  have hP : va_P D vwCl [(o, .inr (2, [.int (-1), .int r_20, .int o_drawn, .ref o_one, .ref o_oth])), (v, .inr (1, [.ref v_c])), (v_c, .inl (cy 0, 63, .inl g_v)), (q, .inr (6, [.ref qf, .ref q_ca, .ref q_bo, .int o_gust_8, .int o_still_15, o_rv_10, .ref q_wd, .ref q_sk])), (qf, .inr (1, [.ref qf_c])), (qf_c, .inl (cy 0, 63, .inl g_of_14)), (q_ca, .inl (cy 0, 5, .inl g_oca_16)), (q_bo, .inl (cy 0, 5, .inl g_obo_11)), (q_wd, .inl (cy 1, 13, .inr (.inl g_owd_17))), (q_sk, .inl (cy 1, 64, .inr (.inl g_osk_18)))] H := hP
  have hD : va_D A [(o, .inr (2, [.int (-1), .int r_20, .int o_drawn, .ref o_one, .ref o_oth])), (v, .inr (1, [.ref v_c])), (v_c, .inl (cy 0, 63, .inl g_v)), (q, .inr (6, [.ref qf, .ref q_ca, .ref q_bo, .int o_gust_8, .int o_still_15, o_rv_10, .ref q_wd, .ref q_sk])), (qf, .inr (1, [.ref qf_c])), (qf_c, .inl (cy 0, 63, .inl g_of_14)), (q_ca, .inl (cy 0, 5, .inl g_oca_16)), (q_bo, .inl (cy 0, 5, .inl g_obo_11)), (q_wd, .inl (cy 1, 13, .inr (.inl g_owd_17))), (q_sk, .inl (cy 1, 64, .inr (.inl g_osk_18)))] := hD
  refine lv_iconst (v := 0) hx hb dX2_findHeir_43 (by decide) ?_
  refine lv_istore (lv' := [(6, .int 0), (5, .int z_5), (0, .ref o), (1, .ref q), (2, .ref v), (3, .null), (4, .int x0)]) hx hb dX2_findHeir_44 hl (by decide) rfl (fun ls hl => ?_)
  have lp46 : ∀ (fu : Nat) (v6_46 : Int32) (w0_o_46 : Int32) (w1_o_46 : Int32) (w3_q_46 : Int32) (w4_q_46 : Int32) (w5_q_46 : Value) (gqf_c_46 : Nat → Int32) (gq_ca_46 : Nat → Int32) (gq_bo_46 : Nat → Int32) (gq_wd_46 : Nat → Int64) (gq_sk_46 : Nat → Int64) (H : Heap) (locs : List Loc) (ls : Array Slot), FV gqf_c_46 → PLV gq_bo_46 → (0 ≤ v6_46.toInt) → (v6_46.toInt ≤ 5) → 5 - v6_46.toInt < (fu : Int) → va_P D vwCl [(o, .inr (2, [.int w0_o_46, .int w1_o_46, .int o_drawn, .ref o_one, .ref o_oth])), (v, .inr (1, [.ref v_c])), (v_c, .inl (cy 0, 63, .inl g_v)), (q, .inr (6, [.ref qf, .ref q_ca, .ref q_bo, .int w3_q_46, .int w4_q_46, w5_q_46, .ref q_wd, .ref q_sk])), (qf, .inr (1, [.ref qf_c])), (qf_c, .inl (cy 0, 63, .inl gqf_c_46)), (q_ca, .inl (cy 0, 5, .inl gq_ca_46)), (q_bo, .inl (cy 0, 5, .inl gq_bo_46)), (q_wd, .inl (cy 1, 13, .inr (.inl gq_wd_46))), (q_sk, .inl (cy 1, 64, .inr (.inl gq_sk_46)))] H → va_D A [(o, .inr (2, [.int w0_o_46, .int w1_o_46, .int o_drawn, .ref o_one, .ref o_oth])), (v, .inr (1, [.ref v_c])), (v_c, .inl (cy 0, 63, .inl g_v)), (q, .inr (6, [.ref qf, .ref q_ca, .ref q_bo, .int w3_q_46, .int w4_q_46, w5_q_46, .ref q_wd, .ref q_sk])), (qf, .inr (1, [.ref qf_c])), (qf_c, .inl (cy 0, 63, .inl gqf_c_46)), (q_ca, .inl (cy 0, 5, .inl gq_ca_46)), (q_bo, .inl (cy 0, 5, .inl gq_bo_46)), (q_wd, .inl (cy 1, 13, .inr (.inl gq_wd_46))), (q_sk, .inl (cy 1, 64, .inr (.inl gq_sk_46)))] → va_S A s.heap H locs → lv_has ls 8 [(6, .int v6_46), (5, .int z_5), (0, .ref o), (1, .ref q), (2, .ref v), (3, .null), (4, .int x0)] → W p l e (kRm 6 148 0 0) s m ([.ref o, .ref q, .ref v, .null, .int x0] : List Value).toArray below meth c H locs 0 0 (MQ below (va_Qv (S := Int32 × Int32 × (Nat → Int32) × Int32 × Int32 × Value × (Nat → Int32) × (Nat → Int32) × (Nat → Int64) × (Nat → Int64)) (fun u => FV (u.2.2.1) ∧ PLV (u.2.2.2.2.2.2.2.1)) (kBw D A (fun u => [(o, .inr (2, [.int (u.1), .int (u.2.1), .int o_drawn, .ref o_one, .ref o_oth])), (q, .inr (6, [.ref qf, .ref q_ca, .ref q_bo, .int (u.2.2.2.1), .int (u.2.2.2.2.1), (u.2.2.2.2.2.1), .ref q_wd, .ref q_sk])), (qf, .inr (1, [.ref qf_c])), (qf_c, .inl (cy 0, 63, .inl (u.2.2.1))), (q_ca, .inl (cy 0, 5, .inl (u.2.2.2.2.2.2.1))), (q_bo, .inl (cy 0, 5, .inl (u.2.2.2.2.2.2.2.1))), (q_wd, .inl (cy 1, 13, .inr (.inl (u.2.2.2.2.2.2.2.2.1)))), (q_sk, .inl (cy 1, 64, .inr (.inl (u.2.2.2.2.2.2.2.2.2)))), (v, .inr (1, [.ref v_c])), (v_c, .inl (cy 0, 63, .inl g_v))])) A) ([.ref o, .ref q, .ref v, .null, .int x0] : List Value).toArray s 0 0 A) (F0 m 46 ls []) := by
    intro fu46
    induction fu46 with
    | zero =>
      intro v6_46 w0_o_46 w1_o_46 w3_q_46 w4_q_46 w5_q_46 gqf_c_46 gq_ca_46 gq_bo_46 gq_wd_46 gq_sk_46 H locs ls hgqf_c_46 hgq_bo_46 j0_46 j1_46 hm46 hP hD hS hl
      exact absurd hm46 (by omega)
    | succ fu46 ih46 =>
      intro v6_46 w0_o_46 w1_o_46 w3_q_46 w4_q_46 w5_q_46 gqf_c_46 gq_ca_46 gq_bo_46 gq_wd_46 gq_sk_46 H locs ls hgqf_c_46 hgq_bo_46 j0_46 j1_46 hm46 hP hD hS hl
      obtain ⟨⟨b_21a, b_21b⟩, ⟨b_21c, b_21d⟩, ⟨b_21e, b_21f⟩⟩ := FV.bounds hgqf_c_46
      refine lv_iload hx hb dX2_findHeir_46 (lv_at hl 0 rfl) ?_
      refine lv_aload_n hx hb dX2_findHeir_48 rfl (lv_at hl 4 rfl) ?_
      refine va_get (D := D) (ci := 1) (v := .ref v_c) (C := RX1) (T := TX1) (N := 1) hx hb hG inG_X1 hown hE.1 hP 1 rfl rfl 0 (by decide) (hG _ q_f_X2_34) (fun _ h9 => h9) rfl dX2_findHeir_49 ?_
      refine lv_iconst (v := 4) hx hb dX2_findHeir_52 (by decide) ?_
      refine va_iald hx hb hE.1 hP 2 0 rfl rfl (by unfold vp_in; decide) dX2_findHeir_53 ?_
      refine k_top (z := (g_v 4)) rfl ?_
      refine lv_icmp_ge (tgt := 136) hx hb dX2_findHeir_54 (by decide) (fun c_22 => ?_) (fun c_22 => ?_)
      · have ic_22 : (g_v 4).toInt ≤ v6_46.toInt := k_le c_22 rfl rfl
        exact KV.rt ⟨w0_o_46, w1_o_46, gqf_c_46, w3_q_46, w4_q_46, (w5_q_46), gq_ca_46, gq_bo_46, gq_wd_46, gq_sk_46⟩ F (hP.sub [0, 3, 4, 5, 6, 7, 8, 9, 1, 2] rfl) (hD.sub [0, 3, 4, 5, 6, 7, 8, 9, 1, 2] (by decide) rfl) hS (show FV gqf_c_46 ∧ PLV gq_bo_46 from ⟨hgqf_c_46, hgq_bo_46⟩) (Nat.le_of_ble_eq_true rfl) (Nat.le_of_ble_eq_true rfl) dX2_findHeir_136
      · have ic_22 : v6_46.toInt < (g_v 4).toInt := k_nle c_22 rfl rfl
        refine lv_aload_n hx hb dX2_findHeir_57 rfl (lv_at hl 3 rfl) ?_
        refine lv_aload_n hx hb dX2_findHeir_58 rfl (lv_at hl 4 rfl) ?_
        refine lv_aload_nN hx hb dX2_findHeir_59 rfl (lv_at hl 5 rfl) ?_
        refine jwVV (wr := [(o, .inr (2, [.int w0_o_46, .int w1_o_46, .int o_drawn, .ref o_one, .ref o_oth]))]) (As := [.ref v, .null]) (rest := []) F hE hP hD hS hA hl.1 hz hZ (cc_startFromN l D cy (Z := Z) (hz := hz) (TT := TT) (zt := zt) (o := q) (q := v) (of := qf) (o_ca := q_ca) (o_bo := q_bo) (o_gust := w3_q_46) (o_still := w4_q_46) (o_rv := w5_q_46) (o_wd := q_wd) (o_sk := q_sk) (of_c := qf_c) (g_of := gqf_c_46) (g_oca := gq_ca_46) (g_obo := gq_bo_46) (g_owd := gq_wd_46) (g_osk := gq_sk_46) (q_c := v_c) (g_q := g_v) (h_g_of := hgqf_c_46) (h_g_obo := hgq_bo_46) (h_g_q := h_g_v)) q_m_X2_60 mv_X6_startFrom ⟨(Nat.le_of_ble_eq_true rfl), (Nat.le_of_ble_eq_true rfl)⟩ [3, 4, 5, 6, 7, 8, 9, 1, 2] [0] (by decide) rfl rfl (by decide) (by decide) rfl rfl rfl rfl rfl (Nat.le_of_ble_eq_true rfl) ⟨(Nat.le_of_ble_eq_true rfl), (Nat.le_of_ble_eq_true rfl)⟩ dX2_findHeir_60 (fun u_23 H locs eu_23 hP hD hS => ?_)
        obtain ⟨g_of_24, o_gust_25, o_still_26, o_rv_27, g_obo_28⟩ := u_23
        have eu_23 : FV g_of_24 ∧ PLV g_obo_28 ∧ (RIn TT (cy 0) o_rv_27) := eu_23
        obtain ⟨eu_23a, eu_23b, eu_23c⟩ := eu_23
        have hP : va_P D vwCl [(o, .inr (2, [.int w0_o_46, .int w1_o_46, .int o_drawn, .ref o_one, .ref o_oth])), (q, .inr (6, [.ref qf, .ref q_ca, .ref q_bo, .int o_gust_25, .int o_still_26, o_rv_27, .ref q_wd, .ref q_sk])), (qf, .inr (1, [.ref qf_c])), (qf_c, .inl (cy 0, 63, .inl g_of_24)), (q_ca, .inl (cy 0, 5, .inl gq_ca_46)), (q_bo, .inl (cy 0, 5, .inl g_obo_28)), (q_wd, .inl (cy 1, 13, .inr (.inl gq_wd_46))), (q_sk, .inl (cy 1, 64, .inr (.inl gq_sk_46))), (v, .inr (1, [.ref v_c])), (v_c, .inl (cy 0, 63, .inl g_v))] H := hP
        have hD : va_D A [(o, .inr (2, [.int w0_o_46, .int w1_o_46, .int o_drawn, .ref o_one, .ref o_oth])), (q, .inr (6, [.ref qf, .ref q_ca, .ref q_bo, .int o_gust_25, .int o_still_26, o_rv_27, .ref q_wd, .ref q_sk])), (qf, .inr (1, [.ref qf_c])), (qf_c, .inl (cy 0, 63, .inl g_of_24)), (q_ca, .inl (cy 0, 5, .inl gq_ca_46)), (q_bo, .inl (cy 0, 5, .inl g_obo_28)), (q_wd, .inl (cy 1, 13, .inr (.inl gq_wd_46))), (q_sk, .inl (cy 1, 64, .inr (.inl gq_sk_46))), (v, .inr (1, [.ref v_c])), (v_c, .inl (cy 0, 63, .inl g_v))] := hD
        obtain ⟨⟨b_29a, b_29b⟩, ⟨b_29c, b_29d⟩, ⟨b_29e, b_29f⟩⟩ := FV.bounds eu_23a
        refine lv_iconst (v := 0) hx hb dX2_findHeir_63 (by decide) ?_
        refine lv_istore (lv' := [(7, .int 0), (6, .int v6_46), (5, .int z_5), (0, .ref o), (1, .ref q), (2, .ref v), (3, .null), (4, .int x0)]) hx hb dX2_findHeir_64 hl (by decide) rfl (fun ls hl => ?_)
        have lp66 : ∀ (fu : Nat) (v7_66 : Int32) (gqf_c_66 : Nat → Int32) (H : Heap) (locs : List Loc) (ls : Array Slot), FV gqf_c_66 → (0 ≤ v7_66.toInt) → (v7_66.toInt ≤ 5) → 5 - v7_66.toInt < (fu : Int) → va_P D vwCl [(o, .inr (2, [.int w0_o_46, .int w1_o_46, .int o_drawn, .ref o_one, .ref o_oth])), (q, .inr (6, [.ref qf, .ref q_ca, .ref q_bo, .int o_gust_25, .int o_still_26, o_rv_27, .ref q_wd, .ref q_sk])), (qf, .inr (1, [.ref qf_c])), (qf_c, .inl (cy 0, 63, .inl gqf_c_66)), (q_ca, .inl (cy 0, 5, .inl gq_ca_46)), (q_bo, .inl (cy 0, 5, .inl g_obo_28)), (q_wd, .inl (cy 1, 13, .inr (.inl gq_wd_46))), (q_sk, .inl (cy 1, 64, .inr (.inl gq_sk_46))), (v, .inr (1, [.ref v_c])), (v_c, .inl (cy 0, 63, .inl g_v))] H → va_D A [(o, .inr (2, [.int w0_o_46, .int w1_o_46, .int o_drawn, .ref o_one, .ref o_oth])), (q, .inr (6, [.ref qf, .ref q_ca, .ref q_bo, .int o_gust_25, .int o_still_26, o_rv_27, .ref q_wd, .ref q_sk])), (qf, .inr (1, [.ref qf_c])), (qf_c, .inl (cy 0, 63, .inl gqf_c_66)), (q_ca, .inl (cy 0, 5, .inl gq_ca_46)), (q_bo, .inl (cy 0, 5, .inl g_obo_28)), (q_wd, .inl (cy 1, 13, .inr (.inl gq_wd_46))), (q_sk, .inl (cy 1, 64, .inr (.inl gq_sk_46))), (v, .inr (1, [.ref v_c])), (v_c, .inl (cy 0, 63, .inl g_v))] → va_S A s.heap H locs → lv_has ls 8 [(7, .int v7_66), (6, .int v6_46), (5, .int z_5), (0, .ref o), (1, .ref q), (2, .ref v), (3, .null), (4, .int x0)] → W p l e (kRm 6 148 0 0) s m ([.ref o, .ref q, .ref v, .null, .int x0] : List Value).toArray below meth c H locs 0 0 (MQ below (va_Qv (S := Int32 × Int32 × (Nat → Int32) × Int32 × Int32 × Value × (Nat → Int32) × (Nat → Int32) × (Nat → Int64) × (Nat → Int64)) (fun u => FV (u.2.2.1) ∧ PLV (u.2.2.2.2.2.2.2.1)) (kBw D A (fun u => [(o, .inr (2, [.int (u.1), .int (u.2.1), .int o_drawn, .ref o_one, .ref o_oth])), (q, .inr (6, [.ref qf, .ref q_ca, .ref q_bo, .int (u.2.2.2.1), .int (u.2.2.2.2.1), (u.2.2.2.2.2.1), .ref q_wd, .ref q_sk])), (qf, .inr (1, [.ref qf_c])), (qf_c, .inl (cy 0, 63, .inl (u.2.2.1))), (q_ca, .inl (cy 0, 5, .inl (u.2.2.2.2.2.2.1))), (q_bo, .inl (cy 0, 5, .inl (u.2.2.2.2.2.2.2.1))), (q_wd, .inl (cy 1, 13, .inr (.inl (u.2.2.2.2.2.2.2.2.1)))), (q_sk, .inl (cy 1, 64, .inr (.inl (u.2.2.2.2.2.2.2.2.2)))), (v, .inr (1, [.ref v_c])), (v_c, .inl (cy 0, 63, .inl g_v))])) A) ([.ref o, .ref q, .ref v, .null, .int x0] : List Value).toArray s 0 0 A) (F0 m 66 ls []) := by
          intro fu66
          induction fu66 with
          | zero =>
            intro v7_66 gqf_c_66 H locs ls hgqf_c_66 j0_66 j1_66 hm66 hP hD hS hl
            exact absurd hm66 (by omega)
          | succ fu66 ih66 =>
            intro v7_66 gqf_c_66 H locs ls hgqf_c_66 j0_66 j1_66 hm66 hP hD hS hl
            obtain ⟨⟨b_30a, b_30b⟩, ⟨b_30c, b_30d⟩, ⟨b_30e, b_30f⟩⟩ := FV.bounds hgqf_c_66
            refine lv_iload hx hb dX2_findHeir_66 (lv_at hl 0 rfl) ?_
            refine lv_aload_n hx hb dX2_findHeir_68 rfl (lv_at hl 5 rfl) ?_
            refine va_get (D := D) (ci := 1) (v := .ref v_c) (C := RX1) (T := TX1) (N := 1) hx hb hG inG_X1 hown hE.1 hP 8 rfl rfl 0 (by decide) (hG _ q_f_X2_34) (fun _ h9 => h9) rfl dX2_findHeir_69 ?_
            refine lv_iconst (v := 4) hx hb dX2_findHeir_72 (by decide) ?_
            refine va_iald hx hb hE.1 hP 9 0 rfl rfl (by unfold vp_in; decide) dX2_findHeir_73 ?_
            refine k_top (z := (g_v 4)) rfl ?_
            refine lv_icmp_ge (tgt := 109) hx hb dX2_findHeir_74 (by decide) (fun c_31 => ?_) (fun c_31 => ?_)
            · have ic_31 : (g_v 4).toInt ≤ v7_66.toInt := k_le c_31 rfl rfl
              refine lv_aload_n hx hb dX2_findHeir_109 rfl (lv_at hl 4 rfl) ?_
              refine lv_iload hx hb dX2_findHeir_110 (lv_at hl 7 rfl) ?_
              refine jwVV (wr := [(o, .inr (2, [.int w0_o_46, .int w1_o_46, .int o_drawn, .ref o_one, .ref o_oth])), (v, .inr (1, [.ref v_c])), (v_c, .inl (cy 0, 63, .inl g_v))]) (As := [.int x0]) (rest := []) F hE hP hD hS hA hl.1 hz hZ (cc_X6_playRounds l D cy (Z := Z) (hz := hz) (TT := TT) (zt := zt) (o := q) (x0 := x0) (of := qf) (o_ca := q_ca) (o_bo := q_bo) (o_gust := o_gust_25) (o_still := o_still_26) (o_rv := o_rv_27) (o_wd := q_wd) (o_sk := q_sk) (of_c := qf_c) (g_of := gqf_c_66) (g_oca := gq_ca_46) (g_obo := g_obo_28) (g_owd := gq_wd_46) (g_osk := gq_sk_46) (h_g_of := hgqf_c_66) (h_g_obo := eu_23b) (hrv := (by first | omega | assumption)) (p0 := (by first | omega | assumption)) (p1 := (by first | omega | assumption))) q_m_X2_64 mv_X6_playRounds ⟨(Nat.le_of_ble_eq_true rfl), (Nat.le_of_ble_eq_true rfl)⟩ [1, 2, 3, 4, 5, 6, 7] [0, 8, 9] (by decide) rfl rfl (by decide) (by decide) rfl rfl rfl rfl rfl (Nat.le_of_ble_eq_true rfl) ⟨(Nat.le_of_ble_eq_true rfl), (Nat.le_of_ble_eq_true rfl)⟩ dX2_findHeir_112 (fun u_32 H locs eu_32 hP hD hS => ?_)
              obtain ⟨g_of_33, o_still_34, g_oca_35, g_owd_36, g_osk_37⟩ := u_32
              have eu_32 : FV g_of_33 := eu_32
              have hP : va_P D vwCl [(o, .inr (2, [.int w0_o_46, .int w1_o_46, .int o_drawn, .ref o_one, .ref o_oth])), (v, .inr (1, [.ref v_c])), (v_c, .inl (cy 0, 63, .inl g_v)), (q, .inr (6, [.ref qf, .ref q_ca, .ref q_bo, .int o_gust_25, .int o_still_34, o_rv_27, .ref q_wd, .ref q_sk])), (qf, .inr (1, [.ref qf_c])), (qf_c, .inl (cy 0, 63, .inl g_of_33)), (q_ca, .inl (cy 0, 5, .inl g_oca_35)), (q_bo, .inl (cy 0, 5, .inl g_obo_28)), (q_wd, .inl (cy 1, 13, .inr (.inl g_owd_36))), (q_sk, .inl (cy 1, 64, .inr (.inl g_osk_37)))] H := hP
              have hD : va_D A [(o, .inr (2, [.int w0_o_46, .int w1_o_46, .int o_drawn, .ref o_one, .ref o_oth])), (v, .inr (1, [.ref v_c])), (v_c, .inl (cy 0, 63, .inl g_v)), (q, .inr (6, [.ref qf, .ref q_ca, .ref q_bo, .int o_gust_25, .int o_still_34, o_rv_27, .ref q_wd, .ref q_sk])), (qf, .inr (1, [.ref qf_c])), (qf_c, .inl (cy 0, 63, .inl g_of_33)), (q_ca, .inl (cy 0, 5, .inl g_oca_35)), (q_bo, .inl (cy 0, 5, .inl g_obo_28)), (q_wd, .inl (cy 1, 13, .inr (.inl g_owd_36))), (q_sk, .inl (cy 1, 64, .inr (.inl g_osk_37)))] := hD
              obtain ⟨⟨b_38a, b_38b⟩, ⟨b_38c, b_38d⟩, ⟨b_38e, b_38f⟩⟩ := FV.bounds eu_32
              refine lv_aload_n hx hb dX2_findHeir_115 rfl (lv_at hl 3 rfl) ?_
              refine lv_iload hx hb dX2_findHeir_116 (lv_at hl 1 rfl) ?_
              refine lv_aload_n hx hb dX2_findHeir_118 rfl (lv_at hl 3 rfl) ?_
              refine lv_aload_n hx hb dX2_findHeir_119 rfl (lv_at hl 5 rfl) ?_
              refine lv_aload_n hx hb dX2_findHeir_120 rfl (lv_at hl 4 rfl) ?_
              refine va_get (D := D) (ci := 6) (v := .ref qf) (C := RX6) (T := TX6) (N := 8) hx hb hG inG_X6 hown hE.1 hP 3 rfl rfl 0 (by decide) (hG _ q_f_X2_28) (fun _ h9 => h9) rfl dX2_findHeir_121 ?_
              refine kcV (As := [.ref v, .ref qf]) (rest := [.int v6_46, .ref o]) F hE hP hl.1 (cc_X2_easedSince l D cy (o := o) (q := v) (v := qf) (o_which := w0_o_46) (o_much := w1_o_46) (o_drawn := o_drawn) (o_one := o_one) (o_oth := o_oth) (q_c := v_c) (g_q := g_v) (v_c := qf_c) (g_v := g_of_33) (h_g_q := h_g_v) (h_g_v := eu_32)) q_m_X2_68 mv_X2_easedSince ⟨(Nat.le_of_ble_eq_true rfl), (Nat.le_of_ble_eq_true rfl)⟩ [0, 1, 2, 4, 5] rfl rfl rfl rfl rfl rfl (Nat.le_of_ble_eq_true rfl) ⟨(Nat.le_of_ble_eq_true rfl), (Nat.le_of_ble_eq_true rfl)⟩ dX2_findHeir_124 (fun r_39 er_39 => ?_)
              refine kwVV (wr := [(v, .inr (1, [.ref v_c])), (v_c, .inl (cy 0, 63, .inl g_v)), (q, .inr (6, [.ref qf, .ref q_ca, .ref q_bo, .int o_gust_25, .int o_still_34, o_rv_27, .ref q_wd, .ref q_sk])), (qf, .inr (1, [.ref qf_c])), (qf_c, .inl (cy 0, 63, .inl g_of_33)), (q_ca, .inl (cy 0, 5, .inl g_oca_35)), (q_bo, .inl (cy 0, 5, .inl g_obo_28)), (q_wd, .inl (cy 1, 13, .inr (.inl g_owd_36))), (q_sk, .inl (cy 1, 64, .inr (.inl g_osk_37)))]) (As := [.int v6_46, .int r_39]) (rest := []) F hE hP hD hS hA hl.1 (cc_X2_takeIfMore l D cy (o := o) (x0 := v6_46) (x1 := r_39) (o_which := w0_o_46) (o_much := w1_o_46) (o_drawn := o_drawn) (o_one := o_one) (o_oth := o_oth)) q_m_X2_76 mv_X2_takeIfMore ⟨(Nat.le_of_ble_eq_true rfl), (Nat.le_of_ble_eq_true rfl)⟩ [0] [1, 2, 3, 4, 5, 6, 7, 8, 9] (by decide) rfl rfl (by decide) (by decide) rfl rfl rfl rfl rfl (Nat.le_of_ble_eq_true rfl) ⟨(Nat.le_of_ble_eq_true rfl), (Nat.le_of_ble_eq_true rfl)⟩ dX2_findHeir_127 (fun u_40 H locs eu_40 hP hD hS => ?_)
              obtain ⟨o_which_41, o_much_42⟩ := u_40
              have hP : va_P D vwCl [(v, .inr (1, [.ref v_c])), (v_c, .inl (cy 0, 63, .inl g_v)), (q, .inr (6, [.ref qf, .ref q_ca, .ref q_bo, .int o_gust_25, .int o_still_34, o_rv_27, .ref q_wd, .ref q_sk])), (qf, .inr (1, [.ref qf_c])), (qf_c, .inl (cy 0, 63, .inl g_of_33)), (q_ca, .inl (cy 0, 5, .inl g_oca_35)), (q_bo, .inl (cy 0, 5, .inl g_obo_28)), (q_wd, .inl (cy 1, 13, .inr (.inl g_owd_36))), (q_sk, .inl (cy 1, 64, .inr (.inl g_osk_37))), (o, .inr (2, [.int o_which_41, .int o_much_42, .int o_drawn, .ref o_one, .ref o_oth]))] H := hP
              have hD : va_D A [(v, .inr (1, [.ref v_c])), (v_c, .inl (cy 0, 63, .inl g_v)), (q, .inr (6, [.ref qf, .ref q_ca, .ref q_bo, .int o_gust_25, .int o_still_34, o_rv_27, .ref q_wd, .ref q_sk])), (qf, .inr (1, [.ref qf_c])), (qf_c, .inl (cy 0, 63, .inl g_of_33)), (q_ca, .inl (cy 0, 5, .inl g_oca_35)), (q_bo, .inl (cy 0, 5, .inl g_obo_28)), (q_wd, .inl (cy 1, 13, .inr (.inl g_owd_36))), (q_sk, .inl (cy 1, 64, .inr (.inl g_osk_37))), (o, .inr (2, [.int o_which_41, .int o_much_42, .int o_drawn, .ref o_one, .ref o_oth]))] := hD
              obtain ⟨z_43, ez_43⟩ : ∃ y : Int32, y = v6_46 + Int32.ofInt 1 := ⟨_, rfl⟩
              have iz_43 : z_43.toInt = v6_46.toInt + 1 := k_addI ez_43 rfl (by decide) (by omega)
              refine lv_iinc (v := z_43) (lv' := [(6, .int z_43), (7, .int v7_66), (5, .int z_5), (0, .ref o), (1, .ref q), (2, .ref v), (3, .null), (4, .int x0)]) hx hb dX2_findHeir_130 hl (k := 1) rfl ez_43.symm (by decide) rfl (fun ls hl => ?_)
              refine lv_goto (tgt := 46) hx hb dX2_findHeir_133 (by decide) ?_
              have hP := hP.sub (ws' := [(o, .inr (2, [.int o_which_41, .int o_much_42, .int o_drawn, .ref o_one, .ref o_oth])), (v, .inr (1, [.ref v_c])), (v_c, .inl (cy 0, 63, .inl g_v)), (q, .inr (6, [.ref qf, .ref q_ca, .ref q_bo, .int o_gust_25, .int o_still_34, o_rv_27, .ref q_wd, .ref q_sk])), (qf, .inr (1, [.ref qf_c])), (qf_c, .inl (cy 0, 63, .inl g_of_33)), (q_ca, .inl (cy 0, 5, .inl g_oca_35)), (q_bo, .inl (cy 0, 5, .inl g_obo_28)), (q_wd, .inl (cy 1, 13, .inr (.inl g_owd_36))), (q_sk, .inl (cy 1, 64, .inr (.inl g_osk_37)))]) [9, 0, 1, 2, 3, 4, 5, 6, 7, 8] rfl
              have hD := hD.sub (ws' := [(o, .inr (2, [.int o_which_41, .int o_much_42, .int o_drawn, .ref o_one, .ref o_oth])), (v, .inr (1, [.ref v_c])), (v_c, .inl (cy 0, 63, .inl g_v)), (q, .inr (6, [.ref qf, .ref q_ca, .ref q_bo, .int o_gust_25, .int o_still_34, o_rv_27, .ref q_wd, .ref q_sk])), (qf, .inr (1, [.ref qf_c])), (qf_c, .inl (cy 0, 63, .inl g_of_33)), (q_ca, .inl (cy 0, 5, .inl g_oca_35)), (q_bo, .inl (cy 0, 5, .inl g_obo_28)), (q_wd, .inl (cy 1, 13, .inr (.inl g_owd_36))), (q_sk, .inl (cy 1, 64, .inr (.inl g_osk_37)))]) [9, 0, 1, 2, 3, 4, 5, 6, 7, 8] (by decide) rfl
              exact ih46 z_43 o_which_41 o_much_42 o_gust_25 o_still_34 o_rv_27 g_of_33 g_oca_35 g_obo_28 g_owd_36 g_osk_37 _ _ ls eu_32 eu_23b (by first | omega | assumption) (by first | omega | assumption) (by omega) hP hD hS (lv_sub hl [0, 2, 3, 4, 5, 6, 7] rfl)
            · have ic_31 : v7_66.toInt < (g_v 4).toInt := k_nle c_31 rfl rfl
              refine lv_aload_n hx hb dX2_findHeir_77 rfl (lv_at hl 4 rfl) ?_
              refine va_get (D := D) (ci := 6) (v := .ref qf) (C := RX6) (T := TX6) (N := 8) hx hb hG inG_X6 hown hE.1 hP 1 rfl rfl 0 (by decide) (hG _ q_f_X2_28) (fun _ h9 => h9) rfl dX2_findHeir_78 ?_
              refine va_get (D := D) (ci := 1) (v := .ref qf_c) (C := RX1) (T := TX1) (N := 1) hx hb hG inG_X1 hown hE.1 hP 2 rfl rfl 0 (by decide) (hG _ q_f_X2_34) (fun _ h9 => h9) rfl dX2_findHeir_81 ?_
              refine lv_bipush (v := 58) hx hb dX2_findHeir_84 (by decide) ?_
              refine lv_iload hx hb dX2_findHeir_86 (lv_at hl 0 rfl) ?_
              refine lv_iadd hx hb dX2_findHeir_88 ?_
              refine lv_topi (fun z_44 ez_44 => ?_)
              have iz_44 : z_44.toInt = 58 + v7_66.toInt := k_addI ez_44 (by decide) rfl (by omega)
              refine lv_iload hx hb dX2_findHeir_89 (lv_at hl 0 rfl) ?_
              refine lv_iload hx hb dX2_findHeir_91 (lv_at hl 1 rfl) ?_
              refine lv_icmp_ne (tgt := 101) hx hb dX2_findHeir_93 (by decide) (fun c_45 => ?_) (fun c_45 => ?_)
              · have ic_45 : v7_66.toInt ≠ v6_46.toInt := k_ne c_45 rfl rfl
                refine lv_iconst (v := 0) hx hb dX2_findHeir_101 (by decide) ?_
                refine va_iast hx hb hE.1 hP hD hS 3 0 rfl rfl (k_in (by omega)) dX2_findHeir_102 (fun H locs hP hD hS => ?_)
                have hr_47 : FV (upd gqf_c_66 (Int32.toNatClampNeg z_44) 0) := FV.put hgqf_c_66 z_44 (0 : Int32) (by have lq2 : (0 : Int32).toInt = 0 := (by decide); omega) (by have lq2 : (0 : Int32).toInt = 0 := (by decide); omega) (by have lq2 : (0 : Int32).toInt = 0 := (by decide); omega) (by have lq2 : (0 : Int32).toInt = 0 := (by decide); omega) (by have lq2 : (0 : Int32).toInt = 0 := (by decide); omega)
                generalize upd gqf_c_66 (Int32.toNatClampNeg z_44) 0 = fn_46 at hP hD hr_47
                have hP : va_P D vwCl [(o, .inr (2, [.int w0_o_46, .int w1_o_46, .int o_drawn, .ref o_one, .ref o_oth])), (q, .inr (6, [.ref qf, .ref q_ca, .ref q_bo, .int o_gust_25, .int o_still_26, o_rv_27, .ref q_wd, .ref q_sk])), (qf, .inr (1, [.ref qf_c])), (qf_c, .inl (cy 0, 63, .inl fn_46)), (q_ca, .inl (cy 0, 5, .inl gq_ca_46)), (q_bo, .inl (cy 0, 5, .inl g_obo_28)), (q_wd, .inl (cy 1, 13, .inr (.inl gq_wd_46))), (q_sk, .inl (cy 1, 64, .inr (.inl gq_sk_46))), (v, .inr (1, [.ref v_c])), (v_c, .inl (cy 0, 63, .inl g_v))] H := hP
                have hD : va_D A [(o, .inr (2, [.int w0_o_46, .int w1_o_46, .int o_drawn, .ref o_one, .ref o_oth])), (q, .inr (6, [.ref qf, .ref q_ca, .ref q_bo, .int o_gust_25, .int o_still_26, o_rv_27, .ref q_wd, .ref q_sk])), (qf, .inr (1, [.ref qf_c])), (qf_c, .inl (cy 0, 63, .inl fn_46)), (q_ca, .inl (cy 0, 5, .inl gq_ca_46)), (q_bo, .inl (cy 0, 5, .inl g_obo_28)), (q_wd, .inl (cy 1, 13, .inr (.inl gq_wd_46))), (q_sk, .inl (cy 1, 64, .inr (.inl gq_sk_46))), (v, .inr (1, [.ref v_c])), (v_c, .inl (cy 0, 63, .inl g_v))] := hD
                obtain ⟨⟨b_48a, b_48b⟩, ⟨b_48c, b_48d⟩, ⟨b_48e, b_48f⟩⟩ := FV.bounds hr_47
                obtain ⟨z_49, ez_49⟩ : ∃ y : Int32, y = v7_66 + Int32.ofInt 1 := ⟨_, rfl⟩
                have iz_49 : z_49.toInt = v7_66.toInt + 1 := k_addI ez_49 rfl (by decide) (by omega)
                refine lv_iinc (v := z_49) (lv' := [(7, .int z_49), (6, .int v6_46), (5, .int z_5), (0, .ref o), (1, .ref q), (2, .ref v), (3, .null), (4, .int x0)]) hx hb dX2_findHeir_103 hl (k := 0) rfl ez_49.symm (by decide) rfl (fun ls hl => ?_)
                refine lv_goto (tgt := 66) hx hb dX2_findHeir_106 (by decide) ?_
                exact ih66 z_49 fn_46 _ _ ls hr_47 (by first | omega | assumption) (by first | omega | assumption) (by omega) hP hD hS (lv_sub hl [0, 1, 2, 3, 4, 5, 6, 7] rfl)
              · have ic_45 : v7_66.toInt = v6_46.toInt := k_eq c_45 rfl rfl
                refine lv_iload hx hb dX2_findHeir_96 (lv_at hl 2 rfl) ?_
                refine lv_goto (tgt := 102) hx hb dX2_findHeir_98 (by decide) ?_
                refine va_iast hx hb hE.1 hP hD hS 3 0 rfl rfl (k_in (by omega)) dX2_findHeir_102 (fun H locs hP hD hS => ?_)
                have hr_51 : FV (upd gqf_c_66 (Int32.toNatClampNeg z_44) z_5) := FV.put hgqf_c_66 z_44 z_5 (by omega) (by omega) (by omega) (by omega) (by omega)
                generalize upd gqf_c_66 (Int32.toNatClampNeg z_44) z_5 = fn_50 at hP hD hr_51
                have hP : va_P D vwCl [(o, .inr (2, [.int w0_o_46, .int w1_o_46, .int o_drawn, .ref o_one, .ref o_oth])), (q, .inr (6, [.ref qf, .ref q_ca, .ref q_bo, .int o_gust_25, .int o_still_26, o_rv_27, .ref q_wd, .ref q_sk])), (qf, .inr (1, [.ref qf_c])), (qf_c, .inl (cy 0, 63, .inl fn_50)), (q_ca, .inl (cy 0, 5, .inl gq_ca_46)), (q_bo, .inl (cy 0, 5, .inl g_obo_28)), (q_wd, .inl (cy 1, 13, .inr (.inl gq_wd_46))), (q_sk, .inl (cy 1, 64, .inr (.inl gq_sk_46))), (v, .inr (1, [.ref v_c])), (v_c, .inl (cy 0, 63, .inl g_v))] H := hP
                have hD : va_D A [(o, .inr (2, [.int w0_o_46, .int w1_o_46, .int o_drawn, .ref o_one, .ref o_oth])), (q, .inr (6, [.ref qf, .ref q_ca, .ref q_bo, .int o_gust_25, .int o_still_26, o_rv_27, .ref q_wd, .ref q_sk])), (qf, .inr (1, [.ref qf_c])), (qf_c, .inl (cy 0, 63, .inl fn_50)), (q_ca, .inl (cy 0, 5, .inl gq_ca_46)), (q_bo, .inl (cy 0, 5, .inl g_obo_28)), (q_wd, .inl (cy 1, 13, .inr (.inl gq_wd_46))), (q_sk, .inl (cy 1, 64, .inr (.inl gq_sk_46))), (v, .inr (1, [.ref v_c])), (v_c, .inl (cy 0, 63, .inl g_v))] := hD
                obtain ⟨⟨b_52a, b_52b⟩, ⟨b_52c, b_52d⟩, ⟨b_52e, b_52f⟩⟩ := FV.bounds hr_51
                obtain ⟨z_53, ez_53⟩ : ∃ y : Int32, y = v7_66 + Int32.ofInt 1 := ⟨_, rfl⟩
                have iz_53 : z_53.toInt = v7_66.toInt + 1 := k_addI ez_53 rfl (by decide) (by omega)
                refine lv_iinc (v := z_53) (lv' := [(7, .int z_53), (6, .int v6_46), (5, .int z_5), (0, .ref o), (1, .ref q), (2, .ref v), (3, .null), (4, .int x0)]) hx hb dX2_findHeir_103 hl (k := 0) rfl ez_53.symm (by decide) rfl (fun ls hl => ?_)
                refine lv_goto (tgt := 66) hx hb dX2_findHeir_106 (by decide) ?_
                exact ih66 z_53 fn_50 _ _ ls hr_51 (by first | omega | assumption) (by first | omega | assumption) (by omega) hP hD hS (lv_sub hl [0, 1, 2, 3, 4, 5, 6, 7] rfl)
        have lt_54 : (0 : Int32).toInt = 0 := by decide
        exact lp66 100000 0 g_of_24 _ _ ls eu_23a (by first | omega | assumption) (by first | omega | assumption) (by omega) hP hD hS hl
  have lt_55 : ((-1) : Int32).toInt = (-1) := by decide
  have lt_56 : (0 : Int32).toInt = 0 := by decide
  exact lp46 100000 0 (-1) r_20 o_gust_8 o_still_15 o_rv_10 g_of_14 g_oca_16 g_obo_11 g_owd_17 g_osk_18 _ _ ls eu_13 eu_6b (by first | omega | assumption) (by first | omega | assumption) (by omega) hP hD hS hl

set_option maxHeartbeats 4000000 in
set_option maxRecDepth 100000 in
theorem cc_findHeirR (l : Launch) (D : va_G) (cy : Nat → ClassId) {Z : (Nat → Prop) → State → Heap → Prop} (hz : zOK Z) {TT : va_W} (zt : ∀ (A : Nat → Prop) (U : State) (H : Heap), Z A U H → va_P D vwCl TT H) (o : Nat) (o_one : Nat) (o_oth : Nat) (o_which : Int32) (o_much : Int32) (o_drawn : Int32) (q : Nat) (qf : Nat) (qf_c : Nat) (g_qf : Nat → Int32) (q_ca : Nat) (q_bo : Nat) (q_wd : Nat) (q_sk : Nat) (q_gust : Int32) (q_still : Int32) (q_rv : Value) (g_qca : Nat → Int32) (g_qbo : Nat → Int32) (g_qwd : Nat → Int64) (g_qsk : Nat → Int64) (v : Nat) (v_c : Nat) (g_v : Nat → Int32) (x0 : Int32) (r : Nat) (st : Nat) (ra : Int32) (rn : Nat) (rg : Nat → Int32) (ri : Nat) (rj : Nat) (h_g_qf : FV g_qf) (h_g_qbo : PLV g_qbo) (h_g_v : FV g_v) (hTi : TT[ri]? = some (r, .inr (7, [.ref st, .int ra]))) (hTj : TT[rj]? = some (st, .inl (cy 0, rn, .inl rg))) (hn4 : rn ≤ 412) (hg : ∀ k : Nat, k < rn → 0 ≤ (rg k).toInt) (p0 : 0 ≤ x0.toInt) (p1 : x0.toInt ≤ 100) : JV l yX2_findHeir cX2_findHeir 8 6 148 D (kTY cy) [.ref o, .ref q, .ref v, .ref r, .int x0] [(o, .inr (2, [.int o_which, .int o_much, .int o_drawn, .ref o_one, .ref o_oth])), (q, .inr (6, [.ref qf, .ref q_ca, .ref q_bo, .int q_gust, .int q_still, q_rv, .ref q_wd, .ref q_sk])), (qf, .inr (1, [.ref qf_c])), (qf_c, .inl (cy 0, 63, .inl g_qf)), (q_ca, .inl (cy 0, 5, .inl g_qca)), (q_bo, .inl (cy 0, 5, .inl g_qbo)), (q_wd, .inl (cy 1, 13, .inr (.inl g_qwd))), (q_sk, .inl (cy 1, 64, .inr (.inl g_qsk))), (v, .inr (1, [.ref v_c])), (v_c, .inl (cy 0, 63, .inl g_v))] Z (S := Int32 × Int32 × (Nat → Int32) × Int32 × Int32 × Value × (Nat → Int32) × (Nat → Int32) × (Nat → Int64) × (Nat → Int64)) (fun u => FV (u.2.2.1) ∧ PLV (u.2.2.2.2.2.2.2.1)) (fun u => [(o, .inr (2, [.int (u.1), .int (u.2.1), .int o_drawn, .ref o_one, .ref o_oth])), (q, .inr (6, [.ref qf, .ref q_ca, .ref q_bo, .int (u.2.2.2.1), .int (u.2.2.2.2.1), (u.2.2.2.2.2.1), .ref q_wd, .ref q_sk])), (qf, .inr (1, [.ref qf_c])), (qf_c, .inl (cy 0, 63, .inl (u.2.2.1))), (q_ca, .inl (cy 0, 5, .inl (u.2.2.2.2.2.2.1))), (q_bo, .inl (cy 0, 5, .inl (u.2.2.2.2.2.2.2.1))), (q_wd, .inl (cy 1, 13, .inr (.inl (u.2.2.2.2.2.2.2.2.1)))), (q_sk, .inl (cy 1, 64, .inr (.inl (u.2.2.2.2.2.2.2.2.2)))), (v, .inr (1, [.ref v_c])), (v_c, .inl (cy 0, 63, .inl g_v))]) 0 0 := by
  refine JV.of (by decide) (Nat.le_of_ble_eq_true rfl) (fun p e s m below meth c ls A F hin hE hP hD hA hS hl hZ => ?_)
  have F : kF p s m meth c cX2_findHeir 8 none _ RX2 := F
  obtain ⟨hx, hb, hr, hml, hown, hG, hlk⟩ := id F
  have hl : lv_has ls 8 [(0, .ref o), (1, .ref q), (2, .ref v), (3, .ref r), (4, .int x0)] := hl
  obtain ⟨⟨b_1a, b_1b⟩, ⟨b_1c, b_1d⟩, ⟨b_1e, b_1f⟩⟩ := FV.bounds h_g_qf
  obtain ⟨⟨b_2a, b_2b⟩, ⟨b_2c, b_2d⟩, ⟨b_2e, b_2f⟩⟩ := FV.bounds h_g_v
  refine lv_bipush (v := 99) hx hb dX2_findHeir_0 (by decide) ?_
  refine lv_aload_n hx hb dX2_findHeir_2 rfl (lv_at hl 2 rfl) ?_
  refine lv_bipush (v := 58) hx hb dX2_findHeir_3 (by decide) ?_
  have lt32_2 : (58 : Int32).toInt = 58 := by decide
  refine kcV (As := [.int 58]) (rest := [.int 99]) F hE hP hl.1 (cc_X1_sumOfArchers l D cy (o := v) (x0 := 58) (o_c := v_c) (g_o := g_v) (h_g_o := h_g_v) (p0 := (by first | omega | assumption)) (p1 := (by first | omega | assumption))) q_m_X2_80 mv_X1_sumOfArchers ⟨(Nat.le_of_ble_eq_true rfl), (Nat.le_of_ble_eq_true rfl)⟩ [8, 9] rfl rfl rfl rfl rfl rfl (Nat.le_of_ble_eq_true rfl) ⟨(Nat.le_of_ble_eq_true rfl), (Nat.le_of_ble_eq_true rfl)⟩ dX2_findHeir_5 (fun r_4 er_4 => ?_)
  refine va_mmin hx hb (by rw [hml]; exact hl.1.symm) hown (hG _ q_m_X2_51) (hG _ q_s_J9_min_7cf53) (hG _ q_z_J9) (hG _ q_c_J9_min_7cf53) (Nat.le_of_ble_eq_true rfl) (Nat.le_of_ble_eq_true rfl) (Nat.le_of_ble_eq_true rfl) (Nat.le_of_ble_eq_true rfl) dX2_findHeir_8 ?_
  refine lv_topi (fun z_5 ez_5 => ?_)
  obtain ⟨iz_5a, iz_5b, iz_5c⟩ := k_minI (a := r_4.toInt) (b := 99) ez_5 rfl (by decide)
  refine lv_istore (lv' := [(5, .int z_5), (0, .ref o), (1, .ref q), (2, .ref v), (3, .ref r), (4, .int x0)]) hx hb dX2_findHeir_11 hl (by decide) rfl (fun ls hl => ?_)
  refine lv_aload_n hx hb dX2_findHeir_13 rfl (lv_at hl 1 rfl) ?_
  refine lv_iconst (v := (-1)) hx hb dX2_findHeir_14 (by decide) ?_
  refine va_put (D := D) (ci := 2) (v := .int (-1)) (ty := .int) (C := RX2) (T := TX2) (N := 5) hx hb hG inG_X2 tyX2 tyX2_ok nmX2 hown hE.1 hP hD hS 0 rfl rfl 0 (by decide) (hG _ q_f_X2_9) (fun _ h9 => h9) rfl (by decide +kernel) rfl rfl (Nat.le_of_ble_eq_true rfl) dX2_findHeir_15 (fun H locs hP hD hS => ?_)
  have hP : va_P D vwCl [(o, .inr (2, [.int (-1), .int o_much, .int o_drawn, .ref o_one, .ref o_oth])), (q, .inr (6, [.ref qf, .ref q_ca, .ref q_bo, .int q_gust, .int q_still, q_rv, .ref q_wd, .ref q_sk])), (qf, .inr (1, [.ref qf_c])), (qf_c, .inl (cy 0, 63, .inl g_qf)), (q_ca, .inl (cy 0, 5, .inl g_qca)), (q_bo, .inl (cy 0, 5, .inl g_qbo)), (q_wd, .inl (cy 1, 13, .inr (.inl g_qwd))), (q_sk, .inl (cy 1, 64, .inr (.inl g_qsk))), (v, .inr (1, [.ref v_c])), (v_c, .inl (cy 0, 63, .inl g_v))] H := hP
  have hD : va_D A [(o, .inr (2, [.int (-1), .int o_much, .int o_drawn, .ref o_one, .ref o_oth])), (q, .inr (6, [.ref qf, .ref q_ca, .ref q_bo, .int q_gust, .int q_still, q_rv, .ref q_wd, .ref q_sk])), (qf, .inr (1, [.ref qf_c])), (qf_c, .inl (cy 0, 63, .inl g_qf)), (q_ca, .inl (cy 0, 5, .inl g_qca)), (q_bo, .inl (cy 0, 5, .inl g_qbo)), (q_wd, .inl (cy 1, 13, .inr (.inl g_qwd))), (q_sk, .inl (cy 1, 64, .inr (.inl g_qsk))), (v, .inr (1, [.ref v_c])), (v_c, .inl (cy 0, 63, .inl g_v))] := hD
  refine lv_aload_n hx hb dX2_findHeir_18 rfl (lv_at hl 2 rfl) ?_
  refine lv_aload_n hx hb dX2_findHeir_19 rfl (lv_at hl 3 rfl) ?_
  refine lv_aload_n hx hb dX2_findHeir_20 rfl (lv_at hl 4 rfl) ?_
  refine jwVV (wr := [(o, .inr (2, [.int (-1), .int o_much, .int o_drawn, .ref o_one, .ref o_oth]))]) (As := [.ref v, .ref r]) (rest := []) F hE hP hD hS hA hl.1 hz hZ (cc_startFromR l D cy (Z := Z) (hz := hz) (TT := TT) (zt := zt) (o := q) (q := v) (r := r) (of := qf) (o_ca := q_ca) (o_bo := q_bo) (o_gust := q_gust) (o_still := q_still) (o_rv := q_rv) (o_wd := q_wd) (o_sk := q_sk) (of_c := qf_c) (g_of := g_qf) (g_oca := g_qca) (g_obo := g_qbo) (g_owd := g_qwd) (g_osk := g_qsk) (q_c := v_c) (g_q := g_v) (st := st) (ra := ra) (rn := rn) (rg := rg) (ri := ri) (rj := rj) (h_g_of := h_g_qf) (h_g_obo := h_g_qbo) (h_g_q := h_g_v) (hTi := (by first | omega | assumption)) (hTj := (by first | omega | assumption)) (hn4 := (by first | omega | assumption)) (hg := (by first | omega | assumption))) q_m_X2_60 mv_X6_startFrom ⟨(Nat.le_of_ble_eq_true rfl), (Nat.le_of_ble_eq_true rfl)⟩ [1, 2, 3, 4, 5, 6, 7, 8, 9] [0] (by decide) rfl rfl (by decide) (by decide) rfl rfl rfl rfl rfl (Nat.le_of_ble_eq_true rfl) ⟨(Nat.le_of_ble_eq_true rfl), (Nat.le_of_ble_eq_true rfl)⟩ dX2_findHeir_21 (fun u_6 H locs eu_6 hP hD hS => ?_)
  obtain ⟨g_of_7, o_gust_8, o_still_9, o_rv_10, g_obo_11⟩ := u_6
  have eu_6 : FV g_of_7 ∧ PLV g_obo_11 ∧ (RIn TT (cy 0) o_rv_10) := eu_6
  obtain ⟨eu_6a, eu_6b, eu_6c⟩ := eu_6
  have hP : va_P D vwCl [(o, .inr (2, [.int (-1), .int o_much, .int o_drawn, .ref o_one, .ref o_oth])), (q, .inr (6, [.ref qf, .ref q_ca, .ref q_bo, .int o_gust_8, .int o_still_9, o_rv_10, .ref q_wd, .ref q_sk])), (qf, .inr (1, [.ref qf_c])), (qf_c, .inl (cy 0, 63, .inl g_of_7)), (q_ca, .inl (cy 0, 5, .inl g_qca)), (q_bo, .inl (cy 0, 5, .inl g_obo_11)), (q_wd, .inl (cy 1, 13, .inr (.inl g_qwd))), (q_sk, .inl (cy 1, 64, .inr (.inl g_qsk))), (v, .inr (1, [.ref v_c])), (v_c, .inl (cy 0, 63, .inl g_v))] H := hP
  have hD : va_D A [(o, .inr (2, [.int (-1), .int o_much, .int o_drawn, .ref o_one, .ref o_oth])), (q, .inr (6, [.ref qf, .ref q_ca, .ref q_bo, .int o_gust_8, .int o_still_9, o_rv_10, .ref q_wd, .ref q_sk])), (qf, .inr (1, [.ref qf_c])), (qf_c, .inl (cy 0, 63, .inl g_of_7)), (q_ca, .inl (cy 0, 5, .inl g_qca)), (q_bo, .inl (cy 0, 5, .inl g_obo_11)), (q_wd, .inl (cy 1, 13, .inr (.inl g_qwd))), (q_sk, .inl (cy 1, 64, .inr (.inl g_qsk))), (v, .inr (1, [.ref v_c])), (v_c, .inl (cy 0, 63, .inl g_v))] := hD
  obtain ⟨⟨b_12a, b_12b⟩, ⟨b_12c, b_12d⟩, ⟨b_12e, b_12f⟩⟩ := FV.bounds eu_6a
  refine lv_aload_n hx hb dX2_findHeir_24 rfl (lv_at hl 2 rfl) ?_
  refine lv_iload hx hb dX2_findHeir_25 (lv_at hl 5 rfl) ?_
  refine jwVV (wr := [(o, .inr (2, [.int (-1), .int o_much, .int o_drawn, .ref o_one, .ref o_oth])), (v, .inr (1, [.ref v_c])), (v_c, .inl (cy 0, 63, .inl g_v))]) (As := [.int x0]) (rest := []) F hE hP hD hS hA hl.1 hz hZ (cc_X6_playRounds l D cy (Z := Z) (hz := hz) (TT := TT) (zt := zt) (o := q) (x0 := x0) (of := qf) (o_ca := q_ca) (o_bo := q_bo) (o_gust := o_gust_8) (o_still := o_still_9) (o_rv := o_rv_10) (o_wd := q_wd) (o_sk := q_sk) (of_c := qf_c) (g_of := g_of_7) (g_oca := g_qca) (g_obo := g_obo_11) (g_owd := g_qwd) (g_osk := g_qsk) (h_g_of := eu_6a) (h_g_obo := eu_6b) (hrv := (by first | omega | assumption)) (p0 := (by first | omega | assumption)) (p1 := (by first | omega | assumption))) q_m_X2_64 mv_X6_playRounds ⟨(Nat.le_of_ble_eq_true rfl), (Nat.le_of_ble_eq_true rfl)⟩ [1, 2, 3, 4, 5, 6, 7] [0, 8, 9] (by decide) rfl rfl (by decide) (by decide) rfl rfl rfl rfl rfl (Nat.le_of_ble_eq_true rfl) ⟨(Nat.le_of_ble_eq_true rfl), (Nat.le_of_ble_eq_true rfl)⟩ dX2_findHeir_27 (fun u_13 H locs eu_13 hP hD hS => ?_)
  obtain ⟨g_of_14, o_still_15, g_oca_16, g_owd_17, g_osk_18⟩ := u_13
  have eu_13 : FV g_of_14 := eu_13
  have hP : va_P D vwCl [(o, .inr (2, [.int (-1), .int o_much, .int o_drawn, .ref o_one, .ref o_oth])), (v, .inr (1, [.ref v_c])), (v_c, .inl (cy 0, 63, .inl g_v)), (q, .inr (6, [.ref qf, .ref q_ca, .ref q_bo, .int o_gust_8, .int o_still_15, o_rv_10, .ref q_wd, .ref q_sk])), (qf, .inr (1, [.ref qf_c])), (qf_c, .inl (cy 0, 63, .inl g_of_14)), (q_ca, .inl (cy 0, 5, .inl g_oca_16)), (q_bo, .inl (cy 0, 5, .inl g_obo_11)), (q_wd, .inl (cy 1, 13, .inr (.inl g_owd_17))), (q_sk, .inl (cy 1, 64, .inr (.inl g_osk_18)))] H := hP
  have hD : va_D A [(o, .inr (2, [.int (-1), .int o_much, .int o_drawn, .ref o_one, .ref o_oth])), (v, .inr (1, [.ref v_c])), (v_c, .inl (cy 0, 63, .inl g_v)), (q, .inr (6, [.ref qf, .ref q_ca, .ref q_bo, .int o_gust_8, .int o_still_15, o_rv_10, .ref q_wd, .ref q_sk])), (qf, .inr (1, [.ref qf_c])), (qf_c, .inl (cy 0, 63, .inl g_of_14)), (q_ca, .inl (cy 0, 5, .inl g_oca_16)), (q_bo, .inl (cy 0, 5, .inl g_obo_11)), (q_wd, .inl (cy 1, 13, .inr (.inl g_owd_17))), (q_sk, .inl (cy 1, 64, .inr (.inl g_osk_18)))] := hD
  obtain ⟨⟨b_19a, b_19b⟩, ⟨b_19c, b_19d⟩, ⟨b_19e, b_19f⟩⟩ := FV.bounds eu_13
  refine lv_aload_n hx hb dX2_findHeir_30 rfl (lv_at hl 1 rfl) ?_
  refine lv_aload_n hx hb dX2_findHeir_31 rfl (lv_at hl 1 rfl) ?_
  refine lv_aload_n hx hb dX2_findHeir_32 rfl (lv_at hl 3 rfl) ?_
  refine lv_aload_n hx hb dX2_findHeir_33 rfl (lv_at hl 2 rfl) ?_
  refine va_get (D := D) (ci := 6) (v := .ref qf) (C := RX6) (T := TX6) (N := 8) hx hb hG inG_X6 hown hE.1 hP 3 rfl rfl 0 (by decide) (hG _ q_f_X2_28) (fun _ h9 => h9) rfl dX2_findHeir_34 ?_
  refine kcV (As := [.ref v, .ref qf]) (rest := [.ref o]) F hE hP hl.1 (cc_X2_easedSince l D cy (o := o) (q := v) (v := qf) (o_which := (-1)) (o_much := o_much) (o_drawn := o_drawn) (o_one := o_one) (o_oth := o_oth) (q_c := v_c) (g_q := g_v) (v_c := qf_c) (g_v := g_of_14) (h_g_q := h_g_v) (h_g_v := eu_13)) q_m_X2_68 mv_X2_easedSince ⟨(Nat.le_of_ble_eq_true rfl), (Nat.le_of_ble_eq_true rfl)⟩ [0, 1, 2, 4, 5] rfl rfl rfl rfl rfl rfl (Nat.le_of_ble_eq_true rfl) ⟨(Nat.le_of_ble_eq_true rfl), (Nat.le_of_ble_eq_true rfl)⟩ dX2_findHeir_37 (fun r_20 er_20 => ?_)
  refine va_put (D := D) (ci := 2) (v := .int r_20) (ty := .int) (C := RX2) (T := TX2) (N := 5) hx hb hG inG_X2 tyX2 tyX2_ok nmX2 hown hE.1 hP hD hS 0 rfl rfl 1 (by decide) (hG _ q_f_X2_15) (fun _ h9 => h9) rfl (by decide +kernel) rfl rfl (Nat.le_of_ble_eq_true rfl) dX2_findHeir_40 (fun H locs hP hD hS => ?_)
  have hP : va_P D vwCl [(o, .inr (2, [.int (-1), .int r_20, .int o_drawn, .ref o_one, .ref o_oth])), (v, .inr (1, [.ref v_c])), (v_c, .inl (cy 0, 63, .inl g_v)), (q, .inr (6, [.ref qf, .ref q_ca, .ref q_bo, .int o_gust_8, .int o_still_15, o_rv_10, .ref q_wd, .ref q_sk])), (qf, .inr (1, [.ref qf_c])), (qf_c, .inl (cy 0, 63, .inl g_of_14)), (q_ca, .inl (cy 0, 5, .inl g_oca_16)), (q_bo, .inl (cy 0, 5, .inl g_obo_11)), (q_wd, .inl (cy 1, 13, .inr (.inl g_owd_17))), (q_sk, .inl (cy 1, 64, .inr (.inl g_osk_18)))] H := hP
  have hD : va_D A [(o, .inr (2, [.int (-1), .int r_20, .int o_drawn, .ref o_one, .ref o_oth])), (v, .inr (1, [.ref v_c])), (v_c, .inl (cy 0, 63, .inl g_v)), (q, .inr (6, [.ref qf, .ref q_ca, .ref q_bo, .int o_gust_8, .int o_still_15, o_rv_10, .ref q_wd, .ref q_sk])), (qf, .inr (1, [.ref qf_c])), (qf_c, .inl (cy 0, 63, .inl g_of_14)), (q_ca, .inl (cy 0, 5, .inl g_oca_16)), (q_bo, .inl (cy 0, 5, .inl g_obo_11)), (q_wd, .inl (cy 1, 13, .inr (.inl g_owd_17))), (q_sk, .inl (cy 1, 64, .inr (.inl g_osk_18)))] := hD
  refine lv_iconst (v := 0) hx hb dX2_findHeir_43 (by decide) ?_
  refine lv_istore (lv' := [(6, .int 0), (5, .int z_5), (0, .ref o), (1, .ref q), (2, .ref v), (3, .ref r), (4, .int x0)]) hx hb dX2_findHeir_44 hl (by decide) rfl (fun ls hl => ?_)
  have lp46 : ∀ (fu : Nat) (v6_46 : Int32) (w0_o_46 : Int32) (w1_o_46 : Int32) (w3_q_46 : Int32) (w4_q_46 : Int32) (w5_q_46 : Value) (gqf_c_46 : Nat → Int32) (gq_ca_46 : Nat → Int32) (gq_bo_46 : Nat → Int32) (gq_wd_46 : Nat → Int64) (gq_sk_46 : Nat → Int64) (H : Heap) (locs : List Loc) (ls : Array Slot), FV gqf_c_46 → PLV gq_bo_46 → (0 ≤ v6_46.toInt) → (v6_46.toInt ≤ 5) → 5 - v6_46.toInt < (fu : Int) → va_P D vwCl [(o, .inr (2, [.int w0_o_46, .int w1_o_46, .int o_drawn, .ref o_one, .ref o_oth])), (v, .inr (1, [.ref v_c])), (v_c, .inl (cy 0, 63, .inl g_v)), (q, .inr (6, [.ref qf, .ref q_ca, .ref q_bo, .int w3_q_46, .int w4_q_46, w5_q_46, .ref q_wd, .ref q_sk])), (qf, .inr (1, [.ref qf_c])), (qf_c, .inl (cy 0, 63, .inl gqf_c_46)), (q_ca, .inl (cy 0, 5, .inl gq_ca_46)), (q_bo, .inl (cy 0, 5, .inl gq_bo_46)), (q_wd, .inl (cy 1, 13, .inr (.inl gq_wd_46))), (q_sk, .inl (cy 1, 64, .inr (.inl gq_sk_46)))] H → va_D A [(o, .inr (2, [.int w0_o_46, .int w1_o_46, .int o_drawn, .ref o_one, .ref o_oth])), (v, .inr (1, [.ref v_c])), (v_c, .inl (cy 0, 63, .inl g_v)), (q, .inr (6, [.ref qf, .ref q_ca, .ref q_bo, .int w3_q_46, .int w4_q_46, w5_q_46, .ref q_wd, .ref q_sk])), (qf, .inr (1, [.ref qf_c])), (qf_c, .inl (cy 0, 63, .inl gqf_c_46)), (q_ca, .inl (cy 0, 5, .inl gq_ca_46)), (q_bo, .inl (cy 0, 5, .inl gq_bo_46)), (q_wd, .inl (cy 1, 13, .inr (.inl gq_wd_46))), (q_sk, .inl (cy 1, 64, .inr (.inl gq_sk_46)))] → va_S A s.heap H locs → lv_has ls 8 [(6, .int v6_46), (5, .int z_5), (0, .ref o), (1, .ref q), (2, .ref v), (3, .ref r), (4, .int x0)] → W p l e (kRm 6 148 0 0) s m ([.ref o, .ref q, .ref v, .ref r, .int x0] : List Value).toArray below meth c H locs 0 0 (MQ below (va_Qv (S := Int32 × Int32 × (Nat → Int32) × Int32 × Int32 × Value × (Nat → Int32) × (Nat → Int32) × (Nat → Int64) × (Nat → Int64)) (fun u => FV (u.2.2.1) ∧ PLV (u.2.2.2.2.2.2.2.1)) (kBw D A (fun u => [(o, .inr (2, [.int (u.1), .int (u.2.1), .int o_drawn, .ref o_one, .ref o_oth])), (q, .inr (6, [.ref qf, .ref q_ca, .ref q_bo, .int (u.2.2.2.1), .int (u.2.2.2.2.1), (u.2.2.2.2.2.1), .ref q_wd, .ref q_sk])), (qf, .inr (1, [.ref qf_c])), (qf_c, .inl (cy 0, 63, .inl (u.2.2.1))), (q_ca, .inl (cy 0, 5, .inl (u.2.2.2.2.2.2.1))), (q_bo, .inl (cy 0, 5, .inl (u.2.2.2.2.2.2.2.1))), (q_wd, .inl (cy 1, 13, .inr (.inl (u.2.2.2.2.2.2.2.2.1)))), (q_sk, .inl (cy 1, 64, .inr (.inl (u.2.2.2.2.2.2.2.2.2)))), (v, .inr (1, [.ref v_c])), (v_c, .inl (cy 0, 63, .inl g_v))])) A) ([.ref o, .ref q, .ref v, .ref r, .int x0] : List Value).toArray s 0 0 A) (F0 m 46 ls []) := by
    intro fu46
    induction fu46 with
    | zero =>
      intro v6_46 w0_o_46 w1_o_46 w3_q_46 w4_q_46 w5_q_46 gqf_c_46 gq_ca_46 gq_bo_46 gq_wd_46 gq_sk_46 H locs ls hgqf_c_46 hgq_bo_46 j0_46 j1_46 hm46 hP hD hS hl
      exact absurd hm46 (by omega)
    | succ fu46 ih46 =>
      intro v6_46 w0_o_46 w1_o_46 w3_q_46 w4_q_46 w5_q_46 gqf_c_46 gq_ca_46 gq_bo_46 gq_wd_46 gq_sk_46 H locs ls hgqf_c_46 hgq_bo_46 j0_46 j1_46 hm46 hP hD hS hl
      obtain ⟨⟨b_21a, b_21b⟩, ⟨b_21c, b_21d⟩, ⟨b_21e, b_21f⟩⟩ := FV.bounds hgqf_c_46
      refine lv_iload hx hb dX2_findHeir_46 (lv_at hl 0 rfl) ?_
      refine lv_aload_n hx hb dX2_findHeir_48 rfl (lv_at hl 4 rfl) ?_
      refine va_get (D := D) (ci := 1) (v := .ref v_c) (C := RX1) (T := TX1) (N := 1) hx hb hG inG_X1 hown hE.1 hP 1 rfl rfl 0 (by decide) (hG _ q_f_X2_34) (fun _ h9 => h9) rfl dX2_findHeir_49 ?_
      refine lv_iconst (v := 4) hx hb dX2_findHeir_52 (by decide) ?_
      refine va_iald hx hb hE.1 hP 2 0 rfl rfl (by unfold vp_in; decide) dX2_findHeir_53 ?_
      refine k_top (z := (g_v 4)) rfl ?_
      refine lv_icmp_ge (tgt := 136) hx hb dX2_findHeir_54 (by decide) (fun c_22 => ?_) (fun c_22 => ?_)
      · have ic_22 : (g_v 4).toInt ≤ v6_46.toInt := k_le c_22 rfl rfl
        exact KV.rt ⟨w0_o_46, w1_o_46, gqf_c_46, w3_q_46, w4_q_46, (w5_q_46), gq_ca_46, gq_bo_46, gq_wd_46, gq_sk_46⟩ F (hP.sub [0, 3, 4, 5, 6, 7, 8, 9, 1, 2] rfl) (hD.sub [0, 3, 4, 5, 6, 7, 8, 9, 1, 2] (by decide) rfl) hS (show FV gqf_c_46 ∧ PLV gq_bo_46 from ⟨hgqf_c_46, hgq_bo_46⟩) (Nat.le_of_ble_eq_true rfl) (Nat.le_of_ble_eq_true rfl) dX2_findHeir_136
      · have ic_22 : v6_46.toInt < (g_v 4).toInt := k_nle c_22 rfl rfl
        refine lv_aload_n hx hb dX2_findHeir_57 rfl (lv_at hl 3 rfl) ?_
        refine lv_aload_n hx hb dX2_findHeir_58 rfl (lv_at hl 4 rfl) ?_
        refine lv_aload_n hx hb dX2_findHeir_59 rfl (lv_at hl 5 rfl) ?_
        refine jwVV (wr := [(o, .inr (2, [.int w0_o_46, .int w1_o_46, .int o_drawn, .ref o_one, .ref o_oth]))]) (As := [.ref v, .ref r]) (rest := []) F hE hP hD hS hA hl.1 hz hZ (cc_startFromR l D cy (Z := Z) (hz := hz) (TT := TT) (zt := zt) (o := q) (q := v) (r := r) (of := qf) (o_ca := q_ca) (o_bo := q_bo) (o_gust := w3_q_46) (o_still := w4_q_46) (o_rv := w5_q_46) (o_wd := q_wd) (o_sk := q_sk) (of_c := qf_c) (g_of := gqf_c_46) (g_oca := gq_ca_46) (g_obo := gq_bo_46) (g_owd := gq_wd_46) (g_osk := gq_sk_46) (q_c := v_c) (g_q := g_v) (st := st) (ra := ra) (rn := rn) (rg := rg) (ri := ri) (rj := rj) (h_g_of := hgqf_c_46) (h_g_obo := hgq_bo_46) (h_g_q := h_g_v) (hTi := (by first | omega | assumption)) (hTj := (by first | omega | assumption)) (hn4 := (by first | omega | assumption)) (hg := (by first | omega | assumption))) q_m_X2_60 mv_X6_startFrom ⟨(Nat.le_of_ble_eq_true rfl), (Nat.le_of_ble_eq_true rfl)⟩ [3, 4, 5, 6, 7, 8, 9, 1, 2] [0] (by decide) rfl rfl (by decide) (by decide) rfl rfl rfl rfl rfl (Nat.le_of_ble_eq_true rfl) ⟨(Nat.le_of_ble_eq_true rfl), (Nat.le_of_ble_eq_true rfl)⟩ dX2_findHeir_60 (fun u_23 H locs eu_23 hP hD hS => ?_)
        obtain ⟨g_of_24, o_gust_25, o_still_26, o_rv_27, g_obo_28⟩ := u_23
        have eu_23 : FV g_of_24 ∧ PLV g_obo_28 ∧ (RIn TT (cy 0) o_rv_27) := eu_23
        obtain ⟨eu_23a, eu_23b, eu_23c⟩ := eu_23
        have hP : va_P D vwCl [(o, .inr (2, [.int w0_o_46, .int w1_o_46, .int o_drawn, .ref o_one, .ref o_oth])), (q, .inr (6, [.ref qf, .ref q_ca, .ref q_bo, .int o_gust_25, .int o_still_26, o_rv_27, .ref q_wd, .ref q_sk])), (qf, .inr (1, [.ref qf_c])), (qf_c, .inl (cy 0, 63, .inl g_of_24)), (q_ca, .inl (cy 0, 5, .inl gq_ca_46)), (q_bo, .inl (cy 0, 5, .inl g_obo_28)), (q_wd, .inl (cy 1, 13, .inr (.inl gq_wd_46))), (q_sk, .inl (cy 1, 64, .inr (.inl gq_sk_46))), (v, .inr (1, [.ref v_c])), (v_c, .inl (cy 0, 63, .inl g_v))] H := hP
        have hD : va_D A [(o, .inr (2, [.int w0_o_46, .int w1_o_46, .int o_drawn, .ref o_one, .ref o_oth])), (q, .inr (6, [.ref qf, .ref q_ca, .ref q_bo, .int o_gust_25, .int o_still_26, o_rv_27, .ref q_wd, .ref q_sk])), (qf, .inr (1, [.ref qf_c])), (qf_c, .inl (cy 0, 63, .inl g_of_24)), (q_ca, .inl (cy 0, 5, .inl gq_ca_46)), (q_bo, .inl (cy 0, 5, .inl g_obo_28)), (q_wd, .inl (cy 1, 13, .inr (.inl gq_wd_46))), (q_sk, .inl (cy 1, 64, .inr (.inl gq_sk_46))), (v, .inr (1, [.ref v_c])), (v_c, .inl (cy 0, 63, .inl g_v))] := hD
        obtain ⟨⟨b_29a, b_29b⟩, ⟨b_29c, b_29d⟩, ⟨b_29e, b_29f⟩⟩ := FV.bounds eu_23a
        refine lv_iconst (v := 0) hx hb dX2_findHeir_63 (by decide) ?_
        refine lv_istore (lv' := [(7, .int 0), (6, .int v6_46), (5, .int z_5), (0, .ref o), (1, .ref q), (2, .ref v), (3, .ref r), (4, .int x0)]) hx hb dX2_findHeir_64 hl (by decide) rfl (fun ls hl => ?_)
        have lp66 : ∀ (fu : Nat) (v7_66 : Int32) (gqf_c_66 : Nat → Int32) (H : Heap) (locs : List Loc) (ls : Array Slot), FV gqf_c_66 → (0 ≤ v7_66.toInt) → (v7_66.toInt ≤ 5) → 5 - v7_66.toInt < (fu : Int) → va_P D vwCl [(o, .inr (2, [.int w0_o_46, .int w1_o_46, .int o_drawn, .ref o_one, .ref o_oth])), (q, .inr (6, [.ref qf, .ref q_ca, .ref q_bo, .int o_gust_25, .int o_still_26, o_rv_27, .ref q_wd, .ref q_sk])), (qf, .inr (1, [.ref qf_c])), (qf_c, .inl (cy 0, 63, .inl gqf_c_66)), (q_ca, .inl (cy 0, 5, .inl gq_ca_46)), (q_bo, .inl (cy 0, 5, .inl g_obo_28)), (q_wd, .inl (cy 1, 13, .inr (.inl gq_wd_46))), (q_sk, .inl (cy 1, 64, .inr (.inl gq_sk_46))), (v, .inr (1, [.ref v_c])), (v_c, .inl (cy 0, 63, .inl g_v))] H → va_D A [(o, .inr (2, [.int w0_o_46, .int w1_o_46, .int o_drawn, .ref o_one, .ref o_oth])), (q, .inr (6, [.ref qf, .ref q_ca, .ref q_bo, .int o_gust_25, .int o_still_26, o_rv_27, .ref q_wd, .ref q_sk])), (qf, .inr (1, [.ref qf_c])), (qf_c, .inl (cy 0, 63, .inl gqf_c_66)), (q_ca, .inl (cy 0, 5, .inl gq_ca_46)), (q_bo, .inl (cy 0, 5, .inl g_obo_28)), (q_wd, .inl (cy 1, 13, .inr (.inl gq_wd_46))), (q_sk, .inl (cy 1, 64, .inr (.inl gq_sk_46))), (v, .inr (1, [.ref v_c])), (v_c, .inl (cy 0, 63, .inl g_v))] → va_S A s.heap H locs → lv_has ls 8 [(7, .int v7_66), (6, .int v6_46), (5, .int z_5), (0, .ref o), (1, .ref q), (2, .ref v), (3, .ref r), (4, .int x0)] → W p l e (kRm 6 148 0 0) s m ([.ref o, .ref q, .ref v, .ref r, .int x0] : List Value).toArray below meth c H locs 0 0 (MQ below (va_Qv (S := Int32 × Int32 × (Nat → Int32) × Int32 × Int32 × Value × (Nat → Int32) × (Nat → Int32) × (Nat → Int64) × (Nat → Int64)) (fun u => FV (u.2.2.1) ∧ PLV (u.2.2.2.2.2.2.2.1)) (kBw D A (fun u => [(o, .inr (2, [.int (u.1), .int (u.2.1), .int o_drawn, .ref o_one, .ref o_oth])), (q, .inr (6, [.ref qf, .ref q_ca, .ref q_bo, .int (u.2.2.2.1), .int (u.2.2.2.2.1), (u.2.2.2.2.2.1), .ref q_wd, .ref q_sk])), (qf, .inr (1, [.ref qf_c])), (qf_c, .inl (cy 0, 63, .inl (u.2.2.1))), (q_ca, .inl (cy 0, 5, .inl (u.2.2.2.2.2.2.1))), (q_bo, .inl (cy 0, 5, .inl (u.2.2.2.2.2.2.2.1))), (q_wd, .inl (cy 1, 13, .inr (.inl (u.2.2.2.2.2.2.2.2.1)))), (q_sk, .inl (cy 1, 64, .inr (.inl (u.2.2.2.2.2.2.2.2.2)))), (v, .inr (1, [.ref v_c])), (v_c, .inl (cy 0, 63, .inl g_v))])) A) ([.ref o, .ref q, .ref v, .ref r, .int x0] : List Value).toArray s 0 0 A) (F0 m 66 ls []) := by
          intro fu66
          induction fu66 with
          | zero =>
            intro v7_66 gqf_c_66 H locs ls hgqf_c_66 j0_66 j1_66 hm66 hP hD hS hl
            exact absurd hm66 (by omega)
          | succ fu66 ih66 =>
            intro v7_66 gqf_c_66 H locs ls hgqf_c_66 j0_66 j1_66 hm66 hP hD hS hl
            obtain ⟨⟨b_30a, b_30b⟩, ⟨b_30c, b_30d⟩, ⟨b_30e, b_30f⟩⟩ := FV.bounds hgqf_c_66
            refine lv_iload hx hb dX2_findHeir_66 (lv_at hl 0 rfl) ?_
            refine lv_aload_n hx hb dX2_findHeir_68 rfl (lv_at hl 5 rfl) ?_
            refine va_get (D := D) (ci := 1) (v := .ref v_c) (C := RX1) (T := TX1) (N := 1) hx hb hG inG_X1 hown hE.1 hP 8 rfl rfl 0 (by decide) (hG _ q_f_X2_34) (fun _ h9 => h9) rfl dX2_findHeir_69 ?_
            refine lv_iconst (v := 4) hx hb dX2_findHeir_72 (by decide) ?_
            refine va_iald hx hb hE.1 hP 9 0 rfl rfl (by unfold vp_in; decide) dX2_findHeir_73 ?_
            refine k_top (z := (g_v 4)) rfl ?_
            refine lv_icmp_ge (tgt := 109) hx hb dX2_findHeir_74 (by decide) (fun c_31 => ?_) (fun c_31 => ?_)
            · have ic_31 : (g_v 4).toInt ≤ v7_66.toInt := k_le c_31 rfl rfl
              refine lv_aload_n hx hb dX2_findHeir_109 rfl (lv_at hl 4 rfl) ?_
              refine lv_iload hx hb dX2_findHeir_110 (lv_at hl 7 rfl) ?_
              refine jwVV (wr := [(o, .inr (2, [.int w0_o_46, .int w1_o_46, .int o_drawn, .ref o_one, .ref o_oth])), (v, .inr (1, [.ref v_c])), (v_c, .inl (cy 0, 63, .inl g_v))]) (As := [.int x0]) (rest := []) F hE hP hD hS hA hl.1 hz hZ (cc_X6_playRounds l D cy (Z := Z) (hz := hz) (TT := TT) (zt := zt) (o := q) (x0 := x0) (of := qf) (o_ca := q_ca) (o_bo := q_bo) (o_gust := o_gust_25) (o_still := o_still_26) (o_rv := o_rv_27) (o_wd := q_wd) (o_sk := q_sk) (of_c := qf_c) (g_of := gqf_c_66) (g_oca := gq_ca_46) (g_obo := g_obo_28) (g_owd := gq_wd_46) (g_osk := gq_sk_46) (h_g_of := hgqf_c_66) (h_g_obo := eu_23b) (hrv := (by first | omega | assumption)) (p0 := (by first | omega | assumption)) (p1 := (by first | omega | assumption))) q_m_X2_64 mv_X6_playRounds ⟨(Nat.le_of_ble_eq_true rfl), (Nat.le_of_ble_eq_true rfl)⟩ [1, 2, 3, 4, 5, 6, 7] [0, 8, 9] (by decide) rfl rfl (by decide) (by decide) rfl rfl rfl rfl rfl (Nat.le_of_ble_eq_true rfl) ⟨(Nat.le_of_ble_eq_true rfl), (Nat.le_of_ble_eq_true rfl)⟩ dX2_findHeir_112 (fun u_32 H locs eu_32 hP hD hS => ?_)
              obtain ⟨g_of_33, o_still_34, g_oca_35, g_owd_36, g_osk_37⟩ := u_32
              have eu_32 : FV g_of_33 := eu_32
              have hP : va_P D vwCl [(o, .inr (2, [.int w0_o_46, .int w1_o_46, .int o_drawn, .ref o_one, .ref o_oth])), (v, .inr (1, [.ref v_c])), (v_c, .inl (cy 0, 63, .inl g_v)), (q, .inr (6, [.ref qf, .ref q_ca, .ref q_bo, .int o_gust_25, .int o_still_34, o_rv_27, .ref q_wd, .ref q_sk])), (qf, .inr (1, [.ref qf_c])), (qf_c, .inl (cy 0, 63, .inl g_of_33)), (q_ca, .inl (cy 0, 5, .inl g_oca_35)), (q_bo, .inl (cy 0, 5, .inl g_obo_28)), (q_wd, .inl (cy 1, 13, .inr (.inl g_owd_36))), (q_sk, .inl (cy 1, 64, .inr (.inl g_osk_37)))] H := hP
              have hD : va_D A [(o, .inr (2, [.int w0_o_46, .int w1_o_46, .int o_drawn, .ref o_one, .ref o_oth])), (v, .inr (1, [.ref v_c])), (v_c, .inl (cy 0, 63, .inl g_v)), (q, .inr (6, [.ref qf, .ref q_ca, .ref q_bo, .int o_gust_25, .int o_still_34, o_rv_27, .ref q_wd, .ref q_sk])), (qf, .inr (1, [.ref qf_c])), (qf_c, .inl (cy 0, 63, .inl g_of_33)), (q_ca, .inl (cy 0, 5, .inl g_oca_35)), (q_bo, .inl (cy 0, 5, .inl g_obo_28)), (q_wd, .inl (cy 1, 13, .inr (.inl g_owd_36))), (q_sk, .inl (cy 1, 64, .inr (.inl g_osk_37)))] := hD
              obtain ⟨⟨b_38a, b_38b⟩, ⟨b_38c, b_38d⟩, ⟨b_38e, b_38f⟩⟩ := FV.bounds eu_32
              refine lv_aload_n hx hb dX2_findHeir_115 rfl (lv_at hl 3 rfl) ?_
              refine lv_iload hx hb dX2_findHeir_116 (lv_at hl 1 rfl) ?_
              refine lv_aload_n hx hb dX2_findHeir_118 rfl (lv_at hl 3 rfl) ?_
              refine lv_aload_n hx hb dX2_findHeir_119 rfl (lv_at hl 5 rfl) ?_
              refine lv_aload_n hx hb dX2_findHeir_120 rfl (lv_at hl 4 rfl) ?_
              refine va_get (D := D) (ci := 6) (v := .ref qf) (C := RX6) (T := TX6) (N := 8) hx hb hG inG_X6 hown hE.1 hP 3 rfl rfl 0 (by decide) (hG _ q_f_X2_28) (fun _ h9 => h9) rfl dX2_findHeir_121 ?_
              refine kcV (As := [.ref v, .ref qf]) (rest := [.int v6_46, .ref o]) F hE hP hl.1 (cc_X2_easedSince l D cy (o := o) (q := v) (v := qf) (o_which := w0_o_46) (o_much := w1_o_46) (o_drawn := o_drawn) (o_one := o_one) (o_oth := o_oth) (q_c := v_c) (g_q := g_v) (v_c := qf_c) (g_v := g_of_33) (h_g_q := h_g_v) (h_g_v := eu_32)) q_m_X2_68 mv_X2_easedSince ⟨(Nat.le_of_ble_eq_true rfl), (Nat.le_of_ble_eq_true rfl)⟩ [0, 1, 2, 4, 5] rfl rfl rfl rfl rfl rfl (Nat.le_of_ble_eq_true rfl) ⟨(Nat.le_of_ble_eq_true rfl), (Nat.le_of_ble_eq_true rfl)⟩ dX2_findHeir_124 (fun r_39 er_39 => ?_)
              refine kwVV (wr := [(v, .inr (1, [.ref v_c])), (v_c, .inl (cy 0, 63, .inl g_v)), (q, .inr (6, [.ref qf, .ref q_ca, .ref q_bo, .int o_gust_25, .int o_still_34, o_rv_27, .ref q_wd, .ref q_sk])), (qf, .inr (1, [.ref qf_c])), (qf_c, .inl (cy 0, 63, .inl g_of_33)), (q_ca, .inl (cy 0, 5, .inl g_oca_35)), (q_bo, .inl (cy 0, 5, .inl g_obo_28)), (q_wd, .inl (cy 1, 13, .inr (.inl g_owd_36))), (q_sk, .inl (cy 1, 64, .inr (.inl g_osk_37)))]) (As := [.int v6_46, .int r_39]) (rest := []) F hE hP hD hS hA hl.1 (cc_X2_takeIfMore l D cy (o := o) (x0 := v6_46) (x1 := r_39) (o_which := w0_o_46) (o_much := w1_o_46) (o_drawn := o_drawn) (o_one := o_one) (o_oth := o_oth)) q_m_X2_76 mv_X2_takeIfMore ⟨(Nat.le_of_ble_eq_true rfl), (Nat.le_of_ble_eq_true rfl)⟩ [0] [1, 2, 3, 4, 5, 6, 7, 8, 9] (by decide) rfl rfl (by decide) (by decide) rfl rfl rfl rfl rfl (Nat.le_of_ble_eq_true rfl) ⟨(Nat.le_of_ble_eq_true rfl), (Nat.le_of_ble_eq_true rfl)⟩ dX2_findHeir_127 (fun u_40 H locs eu_40 hP hD hS => ?_)
              obtain ⟨o_which_41, o_much_42⟩ := u_40
              have hP : va_P D vwCl [(v, .inr (1, [.ref v_c])), (v_c, .inl (cy 0, 63, .inl g_v)), (q, .inr (6, [.ref qf, .ref q_ca, .ref q_bo, .int o_gust_25, .int o_still_34, o_rv_27, .ref q_wd, .ref q_sk])), (qf, .inr (1, [.ref qf_c])), (qf_c, .inl (cy 0, 63, .inl g_of_33)), (q_ca, .inl (cy 0, 5, .inl g_oca_35)), (q_bo, .inl (cy 0, 5, .inl g_obo_28)), (q_wd, .inl (cy 1, 13, .inr (.inl g_owd_36))), (q_sk, .inl (cy 1, 64, .inr (.inl g_osk_37))), (o, .inr (2, [.int o_which_41, .int o_much_42, .int o_drawn, .ref o_one, .ref o_oth]))] H := hP
              have hD : va_D A [(v, .inr (1, [.ref v_c])), (v_c, .inl (cy 0, 63, .inl g_v)), (q, .inr (6, [.ref qf, .ref q_ca, .ref q_bo, .int o_gust_25, .int o_still_34, o_rv_27, .ref q_wd, .ref q_sk])), (qf, .inr (1, [.ref qf_c])), (qf_c, .inl (cy 0, 63, .inl g_of_33)), (q_ca, .inl (cy 0, 5, .inl g_oca_35)), (q_bo, .inl (cy 0, 5, .inl g_obo_28)), (q_wd, .inl (cy 1, 13, .inr (.inl g_owd_36))), (q_sk, .inl (cy 1, 64, .inr (.inl g_osk_37))), (o, .inr (2, [.int o_which_41, .int o_much_42, .int o_drawn, .ref o_one, .ref o_oth]))] := hD
              obtain ⟨z_43, ez_43⟩ : ∃ y : Int32, y = v6_46 + Int32.ofInt 1 := ⟨_, rfl⟩
              have iz_43 : z_43.toInt = v6_46.toInt + 1 := k_addI ez_43 rfl (by decide) (by omega)
              refine lv_iinc (v := z_43) (lv' := [(6, .int z_43), (7, .int v7_66), (5, .int z_5), (0, .ref o), (1, .ref q), (2, .ref v), (3, .ref r), (4, .int x0)]) hx hb dX2_findHeir_130 hl (k := 1) rfl ez_43.symm (by decide) rfl (fun ls hl => ?_)
              refine lv_goto (tgt := 46) hx hb dX2_findHeir_133 (by decide) ?_
              have hP := hP.sub (ws' := [(o, .inr (2, [.int o_which_41, .int o_much_42, .int o_drawn, .ref o_one, .ref o_oth])), (v, .inr (1, [.ref v_c])), (v_c, .inl (cy 0, 63, .inl g_v)), (q, .inr (6, [.ref qf, .ref q_ca, .ref q_bo, .int o_gust_25, .int o_still_34, o_rv_27, .ref q_wd, .ref q_sk])), (qf, .inr (1, [.ref qf_c])), (qf_c, .inl (cy 0, 63, .inl g_of_33)), (q_ca, .inl (cy 0, 5, .inl g_oca_35)), (q_bo, .inl (cy 0, 5, .inl g_obo_28)), (q_wd, .inl (cy 1, 13, .inr (.inl g_owd_36))), (q_sk, .inl (cy 1, 64, .inr (.inl g_osk_37)))]) [9, 0, 1, 2, 3, 4, 5, 6, 7, 8] rfl
              have hD := hD.sub (ws' := [(o, .inr (2, [.int o_which_41, .int o_much_42, .int o_drawn, .ref o_one, .ref o_oth])), (v, .inr (1, [.ref v_c])), (v_c, .inl (cy 0, 63, .inl g_v)), (q, .inr (6, [.ref qf, .ref q_ca, .ref q_bo, .int o_gust_25, .int o_still_34, o_rv_27, .ref q_wd, .ref q_sk])), (qf, .inr (1, [.ref qf_c])), (qf_c, .inl (cy 0, 63, .inl g_of_33)), (q_ca, .inl (cy 0, 5, .inl g_oca_35)), (q_bo, .inl (cy 0, 5, .inl g_obo_28)), (q_wd, .inl (cy 1, 13, .inr (.inl g_owd_36))), (q_sk, .inl (cy 1, 64, .inr (.inl g_osk_37)))]) [9, 0, 1, 2, 3, 4, 5, 6, 7, 8] (by decide) rfl
              exact ih46 z_43 o_which_41 o_much_42 o_gust_25 o_still_34 o_rv_27 g_of_33 g_oca_35 g_obo_28 g_owd_36 g_osk_37 _ _ ls eu_32 eu_23b (by first | omega | assumption) (by first | omega | assumption) (by omega) hP hD hS (lv_sub hl [0, 2, 3, 4, 5, 6, 7] rfl)
            · have ic_31 : v7_66.toInt < (g_v 4).toInt := k_nle c_31 rfl rfl
              refine lv_aload_n hx hb dX2_findHeir_77 rfl (lv_at hl 4 rfl) ?_
              refine va_get (D := D) (ci := 6) (v := .ref qf) (C := RX6) (T := TX6) (N := 8) hx hb hG inG_X6 hown hE.1 hP 1 rfl rfl 0 (by decide) (hG _ q_f_X2_28) (fun _ h9 => h9) rfl dX2_findHeir_78 ?_
              refine va_get (D := D) (ci := 1) (v := .ref qf_c) (C := RX1) (T := TX1) (N := 1) hx hb hG inG_X1 hown hE.1 hP 2 rfl rfl 0 (by decide) (hG _ q_f_X2_34) (fun _ h9 => h9) rfl dX2_findHeir_81 ?_
              refine lv_bipush (v := 58) hx hb dX2_findHeir_84 (by decide) ?_
              refine lv_iload hx hb dX2_findHeir_86 (lv_at hl 0 rfl) ?_
              refine lv_iadd hx hb dX2_findHeir_88 ?_
              refine lv_topi (fun z_44 ez_44 => ?_)
              have iz_44 : z_44.toInt = 58 + v7_66.toInt := k_addI ez_44 (by decide) rfl (by omega)
              refine lv_iload hx hb dX2_findHeir_89 (lv_at hl 0 rfl) ?_
              refine lv_iload hx hb dX2_findHeir_91 (lv_at hl 1 rfl) ?_
              refine lv_icmp_ne (tgt := 101) hx hb dX2_findHeir_93 (by decide) (fun c_45 => ?_) (fun c_45 => ?_)
              · have ic_45 : v7_66.toInt ≠ v6_46.toInt := k_ne c_45 rfl rfl
                refine lv_iconst (v := 0) hx hb dX2_findHeir_101 (by decide) ?_
                refine va_iast hx hb hE.1 hP hD hS 3 0 rfl rfl (k_in (by omega)) dX2_findHeir_102 (fun H locs hP hD hS => ?_)
                have hr_47 : FV (upd gqf_c_66 (Int32.toNatClampNeg z_44) 0) := FV.put hgqf_c_66 z_44 (0 : Int32) (by have lq2 : (0 : Int32).toInt = 0 := (by decide); omega) (by have lq2 : (0 : Int32).toInt = 0 := (by decide); omega) (by have lq2 : (0 : Int32).toInt = 0 := (by decide); omega) (by have lq2 : (0 : Int32).toInt = 0 := (by decide); omega) (by have lq2 : (0 : Int32).toInt = 0 := (by decide); omega)
                generalize upd gqf_c_66 (Int32.toNatClampNeg z_44) 0 = fn_46 at hP hD hr_47
                have hP : va_P D vwCl [(o, .inr (2, [.int w0_o_46, .int w1_o_46, .int o_drawn, .ref o_one, .ref o_oth])), (q, .inr (6, [.ref qf, .ref q_ca, .ref q_bo, .int o_gust_25, .int o_still_26, o_rv_27, .ref q_wd, .ref q_sk])), (qf, .inr (1, [.ref qf_c])), (qf_c, .inl (cy 0, 63, .inl fn_46)), (q_ca, .inl (cy 0, 5, .inl gq_ca_46)), (q_bo, .inl (cy 0, 5, .inl g_obo_28)), (q_wd, .inl (cy 1, 13, .inr (.inl gq_wd_46))), (q_sk, .inl (cy 1, 64, .inr (.inl gq_sk_46))), (v, .inr (1, [.ref v_c])), (v_c, .inl (cy 0, 63, .inl g_v))] H := hP
                have hD : va_D A [(o, .inr (2, [.int w0_o_46, .int w1_o_46, .int o_drawn, .ref o_one, .ref o_oth])), (q, .inr (6, [.ref qf, .ref q_ca, .ref q_bo, .int o_gust_25, .int o_still_26, o_rv_27, .ref q_wd, .ref q_sk])), (qf, .inr (1, [.ref qf_c])), (qf_c, .inl (cy 0, 63, .inl fn_46)), (q_ca, .inl (cy 0, 5, .inl gq_ca_46)), (q_bo, .inl (cy 0, 5, .inl g_obo_28)), (q_wd, .inl (cy 1, 13, .inr (.inl gq_wd_46))), (q_sk, .inl (cy 1, 64, .inr (.inl gq_sk_46))), (v, .inr (1, [.ref v_c])), (v_c, .inl (cy 0, 63, .inl g_v))] := hD
                obtain ⟨⟨b_48a, b_48b⟩, ⟨b_48c, b_48d⟩, ⟨b_48e, b_48f⟩⟩ := FV.bounds hr_47
                obtain ⟨z_49, ez_49⟩ : ∃ y : Int32, y = v7_66 + Int32.ofInt 1 := ⟨_, rfl⟩
                have iz_49 : z_49.toInt = v7_66.toInt + 1 := k_addI ez_49 rfl (by decide) (by omega)
                refine lv_iinc (v := z_49) (lv' := [(7, .int z_49), (6, .int v6_46), (5, .int z_5), (0, .ref o), (1, .ref q), (2, .ref v), (3, .ref r), (4, .int x0)]) hx hb dX2_findHeir_103 hl (k := 0) rfl ez_49.symm (by decide) rfl (fun ls hl => ?_)
                refine lv_goto (tgt := 66) hx hb dX2_findHeir_106 (by decide) ?_
                exact ih66 z_49 fn_46 _ _ ls hr_47 (by first | omega | assumption) (by first | omega | assumption) (by omega) hP hD hS (lv_sub hl [0, 1, 2, 3, 4, 5, 6, 7] rfl)
              · have ic_45 : v7_66.toInt = v6_46.toInt := k_eq c_45 rfl rfl
                refine lv_iload hx hb dX2_findHeir_96 (lv_at hl 2 rfl) ?_
                refine lv_goto (tgt := 102) hx hb dX2_findHeir_98 (by decide) ?_
                refine va_iast hx hb hE.1 hP hD hS 3 0 rfl rfl (k_in (by omega)) dX2_findHeir_102 (fun H locs hP hD hS => ?_)
                have hr_51 : FV (upd gqf_c_66 (Int32.toNatClampNeg z_44) z_5) := FV.put hgqf_c_66 z_44 z_5 (by omega) (by omega) (by omega) (by omega) (by omega)
                generalize upd gqf_c_66 (Int32.toNatClampNeg z_44) z_5 = fn_50 at hP hD hr_51
                have hP : va_P D vwCl [(o, .inr (2, [.int w0_o_46, .int w1_o_46, .int o_drawn, .ref o_one, .ref o_oth])), (q, .inr (6, [.ref qf, .ref q_ca, .ref q_bo, .int o_gust_25, .int o_still_26, o_rv_27, .ref q_wd, .ref q_sk])), (qf, .inr (1, [.ref qf_c])), (qf_c, .inl (cy 0, 63, .inl fn_50)), (q_ca, .inl (cy 0, 5, .inl gq_ca_46)), (q_bo, .inl (cy 0, 5, .inl g_obo_28)), (q_wd, .inl (cy 1, 13, .inr (.inl gq_wd_46))), (q_sk, .inl (cy 1, 64, .inr (.inl gq_sk_46))), (v, .inr (1, [.ref v_c])), (v_c, .inl (cy 0, 63, .inl g_v))] H := hP
                have hD : va_D A [(o, .inr (2, [.int w0_o_46, .int w1_o_46, .int o_drawn, .ref o_one, .ref o_oth])), (q, .inr (6, [.ref qf, .ref q_ca, .ref q_bo, .int o_gust_25, .int o_still_26, o_rv_27, .ref q_wd, .ref q_sk])), (qf, .inr (1, [.ref qf_c])), (qf_c, .inl (cy 0, 63, .inl fn_50)), (q_ca, .inl (cy 0, 5, .inl gq_ca_46)), (q_bo, .inl (cy 0, 5, .inl g_obo_28)), (q_wd, .inl (cy 1, 13, .inr (.inl gq_wd_46))), (q_sk, .inl (cy 1, 64, .inr (.inl gq_sk_46))), (v, .inr (1, [.ref v_c])), (v_c, .inl (cy 0, 63, .inl g_v))] := hD
                obtain ⟨⟨b_52a, b_52b⟩, ⟨b_52c, b_52d⟩, ⟨b_52e, b_52f⟩⟩ := FV.bounds hr_51
                obtain ⟨z_53, ez_53⟩ : ∃ y : Int32, y = v7_66 + Int32.ofInt 1 := ⟨_, rfl⟩
                have iz_53 : z_53.toInt = v7_66.toInt + 1 := k_addI ez_53 rfl (by decide) (by omega)
                refine lv_iinc (v := z_53) (lv' := [(7, .int z_53), (6, .int v6_46), (5, .int z_5), (0, .ref o), (1, .ref q), (2, .ref v), (3, .ref r), (4, .int x0)]) hx hb dX2_findHeir_103 hl (k := 0) rfl ez_53.symm (by decide) rfl (fun ls hl => ?_)
                refine lv_goto (tgt := 66) hx hb dX2_findHeir_106 (by decide) ?_
                exact ih66 z_53 fn_50 _ _ ls hr_51 (by first | omega | assumption) (by first | omega | assumption) (by omega) hP hD hS (lv_sub hl [0, 1, 2, 3, 4, 5, 6, 7] rfl)
        have lt_54 : (0 : Int32).toInt = 0 := by decide
        exact lp66 100000 0 g_of_24 _ _ ls eu_23a (by first | omega | assumption) (by first | omega | assumption) (by omega) hP hD hS hl
  have lt_55 : ((-1) : Int32).toInt = (-1) := by decide
  have lt_56 : (0 : Int32).toInt = 0 := by decide
  exact lp46 100000 0 (-1) r_20 o_gust_8 o_still_15 o_rv_10 g_of_14 g_oca_16 g_obo_11 g_owd_17 g_osk_18 _ _ ls eu_13 eu_6b (by first | omega | assumption) (by first | omega | assumption) (by omega) hP hD hS hl

theorem cc_findHeir (l : Launch) (D : va_G) (cy : Nat → ClassId) {Z : (Nat → Prop) → State → Heap → Prop} (hz : zOK Z) {TT : va_W} (zt : ∀ (A : Nat → Prop) (U : State) (H : Heap), Z A U H → va_P D vwCl TT H) (o : Nat) (o_one : Nat) (o_oth : Nat) (o_which : Int32) (o_much : Int32) (o_drawn : Int32) (q : Nat) (qf : Nat) (qf_c : Nat) (g_qf : Nat → Int32) (q_ca : Nat) (q_bo : Nat) (q_wd : Nat) (q_sk : Nat) (q_gust : Int32) (q_still : Int32) (q_rv : Value) (g_qca : Nat → Int32) (g_qbo : Nat → Int32) (g_qwd : Nat → Int64) (g_qsk : Nat → Int64) (v : Nat) (v_c : Nat) (g_v : Nat → Int32) (x0 : Int32) (rv : Value) (hrv : RIn TT (cy 0) rv) (h_g_qf : FV g_qf) (h_g_qbo : PLV g_qbo) (h_g_v : FV g_v) (p0 : 0 ≤ x0.toInt) (p1 : x0.toInt ≤ 100) : JV l yX2_findHeir cX2_findHeir 8 6 148 D (kTY cy) [.ref o, .ref q, .ref v, rv, .int x0] [(o, .inr (2, [.int o_which, .int o_much, .int o_drawn, .ref o_one, .ref o_oth])), (q, .inr (6, [.ref qf, .ref q_ca, .ref q_bo, .int q_gust, .int q_still, q_rv, .ref q_wd, .ref q_sk])), (qf, .inr (1, [.ref qf_c])), (qf_c, .inl (cy 0, 63, .inl g_qf)), (q_ca, .inl (cy 0, 5, .inl g_qca)), (q_bo, .inl (cy 0, 5, .inl g_qbo)), (q_wd, .inl (cy 1, 13, .inr (.inl g_qwd))), (q_sk, .inl (cy 1, 64, .inr (.inl g_qsk))), (v, .inr (1, [.ref v_c])), (v_c, .inl (cy 0, 63, .inl g_v))] Z (S := Int32 × Int32 × (Nat → Int32) × Int32 × Int32 × Value × (Nat → Int32) × (Nat → Int32) × (Nat → Int64) × (Nat → Int64)) (fun u => FV (u.2.2.1) ∧ PLV (u.2.2.2.2.2.2.2.1)) (fun u => [(o, .inr (2, [.int (u.1), .int (u.2.1), .int o_drawn, .ref o_one, .ref o_oth])), (q, .inr (6, [.ref qf, .ref q_ca, .ref q_bo, .int (u.2.2.2.1), .int (u.2.2.2.2.1), (u.2.2.2.2.2.1), .ref q_wd, .ref q_sk])), (qf, .inr (1, [.ref qf_c])), (qf_c, .inl (cy 0, 63, .inl (u.2.2.1))), (q_ca, .inl (cy 0, 5, .inl (u.2.2.2.2.2.2.1))), (q_bo, .inl (cy 0, 5, .inl (u.2.2.2.2.2.2.2.1))), (q_wd, .inl (cy 1, 13, .inr (.inl (u.2.2.2.2.2.2.2.2.1)))), (q_sk, .inl (cy 1, 64, .inr (.inl (u.2.2.2.2.2.2.2.2.2)))), (v, .inr (1, [.ref v_c])), (v_c, .inl (cy 0, 63, .inl g_v))]) 0 0 := by
  rcases hrv with rfl | ⟨r, st, ra, rn, rg, ri, rj, rfl, hTi, hTj, hn4, hg⟩
  · exact cc_findHeirN l D cy hz zt o o_one o_oth o_which o_much o_drawn q qf qf_c g_qf q_ca q_bo q_wd q_sk q_gust q_still q_rv g_qca g_qbo g_qwd g_qsk v v_c g_v x0 h_g_qf h_g_qbo h_g_v p0 p1
  · exact cc_findHeirR l D cy hz zt o o_one o_oth o_which o_much o_drawn q qf qf_c g_qf q_ca q_bo q_wd q_sk q_gust q_still q_rv g_qca g_qbo g_qwd g_qsk v v_c g_v x0 r st ra rn rg ri rj h_g_qf h_g_qbo h_g_v hTi hTj hn4 hg p0 p1

set_option maxHeartbeats 4000000 in
set_option maxRecDepth 100000 in
theorem cc_gainOf (l : Launch) (D : va_G) (cy : Nat → ClassId) (q : Nat) (q_c : Nat) (g_q : Nat → Int32) (v : Nat) (v_c : Nat) (g_v : Nat → Int32) (x0 : Int32) (h_g_q : FV g_q) (h_g_v : FV g_v) (p0 : 0 ≤ x0.toInt) (p1 : x0.toInt ≤ 4) : KP l yX2_gainOf cX2_gainOf 4 (some .int) 0 0 D (kTY cy) [.ref q, .ref v, .int x0] [(q, .inr (1, [.ref q_c])), (q_c, .inl (cy 0, 63, .inl g_q)), (v, .inr (1, [.ref v_c])), (v_c, .inl (cy 0, 63, .inl g_v))] (fun r => True) := by
  refine KP.of (by decide) (Nat.le_of_ble_eq_true rfl) (fun p e s m below meth c ls F hE hP hl => ?_)
  have F : kF p s m meth c cX2_gainOf 4 (some .int) _ RX2 := F
  obtain ⟨hx, hb, hr, hml, hown, hG, hlk⟩ := id F
  have hl : lv_has ls 4 [(0, .ref q), (1, .ref v), (2, .int x0)] := hl
  obtain ⟨⟨b_1a, b_1b⟩, ⟨b_1c, b_1d⟩, ⟨b_1e, b_1f⟩⟩ := FV.bounds h_g_q
  obtain ⟨⟨b_2a, b_2b⟩, ⟨b_2c, b_2d⟩, ⟨b_2e, b_2f⟩⟩ := FV.bounds h_g_v
  refine lv_aload_n hx hb dX2_gainOf_0 rfl (lv_at hl 1 rfl) ?_
  refine va_get (D := D) (ci := 1) (v := .ref v_c) (C := RX1) (T := TX1) (N := 1) hx hb hG inG_X1 hown hE.1 hP 2 rfl rfl 0 (by decide) (hG _ q_f_X2_34) (fun _ h9 => h9) rfl dX2_gainOf_1 ?_
  refine lv_bipush (v := 53) hx hb dX2_gainOf_4 (by decide) ?_
  refine lv_iload_n hx hb dX2_gainOf_6 rfl (lv_at hl 2 rfl) ?_
  refine lv_iadd hx hb dX2_gainOf_7 ?_
  refine lv_topi (fun z_3 ez_3 => ?_)
  have iz_3 : z_3.toInt = 53 + x0.toInt := k_addI ez_3 (by decide) rfl (by omega)
  refine va_iald hx hb hE.1 hP 3 0 rfl rfl (k_in (by omega)) dX2_gainOf_8 ?_
  refine k_top (z := (g_v (Int32.toNatClampNeg z_3))) rfl ?_
  refine lv_aload_n hx hb dX2_gainOf_9 rfl (lv_at hl 0 rfl) ?_
  refine va_get (D := D) (ci := 1) (v := .ref q_c) (C := RX1) (T := TX1) (N := 1) hx hb hG inG_X1 hown hE.1 hP 0 rfl rfl 0 (by decide) (hG _ q_f_X2_34) (fun _ h9 => h9) rfl dX2_gainOf_10 ?_
  refine lv_bipush (v := 53) hx hb dX2_gainOf_13 (by decide) ?_
  refine lv_iload_n hx hb dX2_gainOf_15 rfl (lv_at hl 2 rfl) ?_
  refine lv_iadd hx hb dX2_gainOf_16 ?_
  refine lv_topi (fun z_4 ez_4 => ?_)
  have iz_4 : z_4.toInt = 53 + x0.toInt := k_addI ez_4 (by decide) rfl (by omega)
  refine va_iald hx hb hE.1 hP 1 0 rfl rfl (k_in (by omega)) dX2_gainOf_17 ?_
  refine k_top (z := (g_q (Int32.toNatClampNeg z_4))) rfl ?_
  refine lv_isub hx hb dX2_gainOf_18 ?_
  refine lv_topi (fun z_5 ez_5 => ?_)
  refine lv_istore_n (lv' := [(3, .int z_5), (0, .ref q), (1, .ref v), (2, .int x0)]) hx hb dX2_gainOf_19 rfl hl (by decide) rfl (fun ls hl => ?_)
  refine lv_iload_n hx hb dX2_gainOf_20 rfl (lv_at hl 0 rfl) ?_
  refine lv_aload_n hx hb dX2_gainOf_21 rfl (lv_at hl 1 rfl) ?_
  refine va_get (D := D) (ci := 1) (v := .ref q_c) (C := RX1) (T := TX1) (N := 1) hx hb hG inG_X1 hown hE.1 hP 0 rfl rfl 0 (by decide) (hG _ q_f_X2_34) (fun _ h9 => h9) rfl dX2_gainOf_22 ?_
  refine lv_bipush (v := 58) hx hb dX2_gainOf_25 (by decide) ?_
  refine lv_iload_n hx hb dX2_gainOf_27 rfl (lv_at hl 3 rfl) ?_
  refine lv_iadd hx hb dX2_gainOf_28 ?_
  refine lv_topi (fun z_6 ez_6 => ?_)
  have iz_6 : z_6.toInt = 58 + x0.toInt := k_addI ez_6 (by decide) rfl (by omega)
  refine va_iald hx hb hE.1 hP 1 0 rfl rfl (k_in (by omega)) dX2_gainOf_29 ?_
  refine k_top (z := (g_q (Int32.toNatClampNeg z_6))) rfl ?_
  refine lv_iconst (v := 2) hx hb dX2_gainOf_30 (by decide) ?_
  refine lv_idiv hx hb dX2_gainOf_31 (by decide) ?_
  refine lv_topi (fun z_7 ez_7 => ?_)
  refine lv_iadd hx hb dX2_gainOf_32 ?_
  refine lv_topi (fun z_8 ez_8 => ?_)
  exact KP.rt F rfl trivial dX2_gainOf_33

set_option maxHeartbeats 4000000 in
set_option maxRecDepth 100000 in
theorem cc_weighRingsN (l : Launch) (D : va_G) (cy : Nat → ClassId) {Z : (Nat → Prop) → State → Heap → Prop} (hz : zOK Z) {TT : va_W} (zt : ∀ (A : Nat → Prop) (U : State) (H : Heap), Z A U H → va_P D vwCl TT H) (o : Nat) (o_one : Nat) (o_oth : Nat) (o_which : Int32) (o_much : Int32) (o_drawn : Int32) (g_oone : Nat → Int32) (g_ooth : Nat → Int32) (q : Nat) (qf : Nat) (qf_c : Nat) (g_qf : Nat → Int32) (q_ca : Nat) (q_bo : Nat) (q_wd : Nat) (q_sk : Nat) (q_gust : Int32) (q_still : Int32) (q_rv : Value) (g_qca : Nat → Int32) (g_qbo : Nat → Int32) (g_qwd : Nat → Int64) (g_qsk : Nat → Int64) (v : Nat) (v_c : Nat) (g_v : Nat → Int32) (x0 : Int32) (x1 : Int32) (x2 : Int32) (h_g_qf : FV g_qf) (h_g_qbo : PLV g_qbo) (h_g_v : FV g_v) (p0 : 0 ≤ x0.toInt) (p1 : x0.toInt ≤ 4) (p2 : 0 ≤ x1.toInt) (p3 : x1.toInt ≤ 4) (p4 : 0 ≤ x2.toInt) (p5 : x2.toInt ≤ 100) : JV l yX2_weighRings cX2_weighRings 9 6 148 D (kTY cy) [.ref o, .ref q, .ref v, .null, .int x0, .int x1, .int x2] [(o, .inr (2, [.int o_which, .int o_much, .int o_drawn, .ref o_one, .ref o_oth])), (o_one, .inl (cy 0, 36, .inl g_oone)), (o_oth, .inl (cy 0, 36, .inl g_ooth)), (q, .inr (6, [.ref qf, .ref q_ca, .ref q_bo, .int q_gust, .int q_still, q_rv, .ref q_wd, .ref q_sk])), (qf, .inr (1, [.ref qf_c])), (qf_c, .inl (cy 0, 63, .inl g_qf)), (q_ca, .inl (cy 0, 5, .inl g_qca)), (q_bo, .inl (cy 0, 5, .inl g_qbo)), (q_wd, .inl (cy 1, 13, .inr (.inl g_qwd))), (q_sk, .inl (cy 1, 64, .inr (.inl g_qsk))), (v, .inr (1, [.ref v_c])), (v_c, .inl (cy 0, 63, .inl g_v))] Z (S := (Nat → Int32) × (Nat → Int32) × (Nat → Int32) × Int32 × Int32 × Value × (Nat → Int32) × (Nat → Int32) × (Nat → Int64) × (Nat → Int64)) (fun u => FV (u.2.2.1) ∧ PLV (u.2.2.2.2.2.2.2.1)) (fun u => [(o, .inr (2, [.int o_which, .int o_much, .int o_drawn, .ref o_one, .ref o_oth])), (o_one, .inl (cy 0, 36, .inl (u.1))), (o_oth, .inl (cy 0, 36, .inl (u.2.1))), (q, .inr (6, [.ref qf, .ref q_ca, .ref q_bo, .int (u.2.2.2.1), .int (u.2.2.2.2.1), (u.2.2.2.2.2.1), .ref q_wd, .ref q_sk])), (qf, .inr (1, [.ref qf_c])), (qf_c, .inl (cy 0, 63, .inl (u.2.2.1))), (q_ca, .inl (cy 0, 5, .inl (u.2.2.2.2.2.2.1))), (q_bo, .inl (cy 0, 5, .inl (u.2.2.2.2.2.2.2.1))), (q_wd, .inl (cy 1, 13, .inr (.inl (u.2.2.2.2.2.2.2.2.1)))), (q_sk, .inl (cy 1, 64, .inr (.inl (u.2.2.2.2.2.2.2.2.2)))), (v, .inr (1, [.ref v_c])), (v_c, .inl (cy 0, 63, .inl g_v))]) 0 0 := by
  refine JV.of (by decide) (Nat.le_of_ble_eq_true rfl) (fun p e s m below meth c ls A F hin hE hP hD hA hS hl hZ => ?_)
  have F : kF p s m meth c cX2_weighRings 9 none _ RX2 := F
  obtain ⟨hx, hb, hr, hml, hown, hG, hlk⟩ := id F
  have hl : lv_has ls 9 [(0, .ref o), (1, .ref q), (2, .ref v), (3, .null), (4, .int x0), (5, .int x1), (6, .int x2)] := hl
  obtain ⟨⟨b_1a, b_1b⟩, ⟨b_1c, b_1d⟩, ⟨b_1e, b_1f⟩⟩ := FV.bounds h_g_qf
  obtain ⟨⟨b_2a, b_2b⟩, ⟨b_2c, b_2d⟩, ⟨b_2e, b_2f⟩⟩ := FV.bounds h_g_v
  refine lv_aload_n hx hb dX2_weighRings_0 rfl (lv_at hl 2 rfl) ?_
  refine va_get (D := D) (ci := 1) (v := .ref v_c) (C := RX1) (T := TX1) (N := 1) hx hb hG inG_X1 hown hE.1 hP 10 rfl rfl 0 (by decide) (hG _ q_f_X2_34) (fun _ h9 => h9) rfl dX2_weighRings_1 ?_
  refine lv_iconst (v := 3) hx hb dX2_weighRings_4 (by decide) ?_
  refine va_iald hx hb hE.1 hP 11 0 rfl rfl (by unfold vp_in; decide) dX2_weighRings_5 ?_
  refine k_top (z := (g_v 3)) rfl ?_
  refine lv_istore (lv' := [(7, .int (g_v 3)), (0, .ref o), (1, .ref q), (2, .ref v), (3, .null), (4, .int x0), (5, .int x1), (6, .int x2)]) hx hb dX2_weighRings_6 hl (by decide) rfl (fun ls hl => ?_)
  refine lv_iconst (v := 0) hx hb dX2_weighRings_8 (by decide) ?_
  refine lv_istore (lv' := [(8, .int 0), (7, .int (g_v 3)), (0, .ref o), (1, .ref q), (2, .ref v), (3, .null), (4, .int x0), (5, .int x1), (6, .int x2)]) hx hb dX2_weighRings_9 hl (by decide) rfl (fun ls hl => ?_)
  have lp11 : ∀ (fu : Nat) (v8_11 : Int32) (go_one_11 : Nat → Int32) (go_oth_11 : Nat → Int32) (w3_q_11 : Int32) (w4_q_11 : Int32) (w5_q_11 : Value) (gqf_c_11 : Nat → Int32) (gq_ca_11 : Nat → Int32) (gq_bo_11 : Nat → Int32) (gq_wd_11 : Nat → Int64) (gq_sk_11 : Nat → Int64) (H : Heap) (locs : List Loc) (ls : Array Slot), FV gqf_c_11 → PLV gq_bo_11 → (0 ≤ v8_11.toInt) → (v8_11.toInt ≤ 36) → 36 - v8_11.toInt < (fu : Int) → va_P D vwCl [(o, .inr (2, [.int o_which, .int o_much, .int o_drawn, .ref o_one, .ref o_oth])), (o_one, .inl (cy 0, 36, .inl go_one_11)), (o_oth, .inl (cy 0, 36, .inl go_oth_11)), (q, .inr (6, [.ref qf, .ref q_ca, .ref q_bo, .int w3_q_11, .int w4_q_11, w5_q_11, .ref q_wd, .ref q_sk])), (qf, .inr (1, [.ref qf_c])), (qf_c, .inl (cy 0, 63, .inl gqf_c_11)), (q_ca, .inl (cy 0, 5, .inl gq_ca_11)), (q_bo, .inl (cy 0, 5, .inl gq_bo_11)), (q_wd, .inl (cy 1, 13, .inr (.inl gq_wd_11))), (q_sk, .inl (cy 1, 64, .inr (.inl gq_sk_11))), (v, .inr (1, [.ref v_c])), (v_c, .inl (cy 0, 63, .inl g_v))] H → va_D A [(o, .inr (2, [.int o_which, .int o_much, .int o_drawn, .ref o_one, .ref o_oth])), (o_one, .inl (cy 0, 36, .inl go_one_11)), (o_oth, .inl (cy 0, 36, .inl go_oth_11)), (q, .inr (6, [.ref qf, .ref q_ca, .ref q_bo, .int w3_q_11, .int w4_q_11, w5_q_11, .ref q_wd, .ref q_sk])), (qf, .inr (1, [.ref qf_c])), (qf_c, .inl (cy 0, 63, .inl gqf_c_11)), (q_ca, .inl (cy 0, 5, .inl gq_ca_11)), (q_bo, .inl (cy 0, 5, .inl gq_bo_11)), (q_wd, .inl (cy 1, 13, .inr (.inl gq_wd_11))), (q_sk, .inl (cy 1, 64, .inr (.inl gq_sk_11))), (v, .inr (1, [.ref v_c])), (v_c, .inl (cy 0, 63, .inl g_v))] → va_S A s.heap H locs → lv_has ls 9 [(8, .int v8_11), (7, .int (g_v 3)), (0, .ref o), (1, .ref q), (2, .ref v), (3, .null), (4, .int x0), (5, .int x1), (6, .int x2)] → W p l e (kRm 6 148 0 0) s m ([.ref o, .ref q, .ref v, .null, .int x0, .int x1, .int x2] : List Value).toArray below meth c H locs 0 0 (MQ below (va_Qv (S := (Nat → Int32) × (Nat → Int32) × (Nat → Int32) × Int32 × Int32 × Value × (Nat → Int32) × (Nat → Int32) × (Nat → Int64) × (Nat → Int64)) (fun u => FV (u.2.2.1) ∧ PLV (u.2.2.2.2.2.2.2.1)) (kBw D A (fun u => [(o, .inr (2, [.int o_which, .int o_much, .int o_drawn, .ref o_one, .ref o_oth])), (o_one, .inl (cy 0, 36, .inl (u.1))), (o_oth, .inl (cy 0, 36, .inl (u.2.1))), (q, .inr (6, [.ref qf, .ref q_ca, .ref q_bo, .int (u.2.2.2.1), .int (u.2.2.2.2.1), (u.2.2.2.2.2.1), .ref q_wd, .ref q_sk])), (qf, .inr (1, [.ref qf_c])), (qf_c, .inl (cy 0, 63, .inl (u.2.2.1))), (q_ca, .inl (cy 0, 5, .inl (u.2.2.2.2.2.2.1))), (q_bo, .inl (cy 0, 5, .inl (u.2.2.2.2.2.2.2.1))), (q_wd, .inl (cy 1, 13, .inr (.inl (u.2.2.2.2.2.2.2.2.1)))), (q_sk, .inl (cy 1, 64, .inr (.inl (u.2.2.2.2.2.2.2.2.2)))), (v, .inr (1, [.ref v_c])), (v_c, .inl (cy 0, 63, .inl g_v))])) A) ([.ref o, .ref q, .ref v, .null, .int x0, .int x1, .int x2] : List Value).toArray s 0 0 A) (F0 m 11 ls []) := by
    intro fu11
    induction fu11 with
    | zero =>
      intro v8_11 go_one_11 go_oth_11 w3_q_11 w4_q_11 w5_q_11 gqf_c_11 gq_ca_11 gq_bo_11 gq_wd_11 gq_sk_11 H locs ls hgqf_c_11 hgq_bo_11 j0_11 j1_11 hm11 hP hD hS hl
      exact absurd hm11 (by omega)
    | succ fu11 ih11 =>
      intro v8_11 go_one_11 go_oth_11 w3_q_11 w4_q_11 w5_q_11 gqf_c_11 gq_ca_11 gq_bo_11 gq_wd_11 gq_sk_11 H locs ls hgqf_c_11 hgq_bo_11 j0_11 j1_11 hm11 hP hD hS hl
      obtain ⟨⟨b_3a, b_3b⟩, ⟨b_3c, b_3d⟩, ⟨b_3e, b_3f⟩⟩ := FV.bounds hgqf_c_11
      refine lv_iload hx hb dX2_weighRings_11 (lv_at hl 0 rfl) ?_
      refine lv_iload hx hb dX2_weighRings_13 (lv_at hl 1 rfl) ?_
      refine lv_iload hx hb dX2_weighRings_15 (lv_at hl 1 rfl) ?_
      refine lv_imul hx hb dX2_weighRings_17 ?_
      refine lv_topi (fun z_4 ez_4 => ?_)
      obtain ⟨iz_4m, iz_4n, iz_4o⟩ := k_mulB (a := 6) (b := 6) ez_4 (by omega) (by omega) (by decide)
      refine lv_icmp_ge (tgt := 97) hx hb dX2_weighRings_18 (by decide) (fun c_5 => ?_) (fun c_5 => ?_)
      · have ic_5 : z_4.toInt ≤ v8_11.toInt := k_le c_5 rfl rfl
        exact KV.rt ⟨go_one_11, go_oth_11, gqf_c_11, w3_q_11, w4_q_11, (w5_q_11), gq_ca_11, gq_bo_11, gq_wd_11, gq_sk_11⟩ F (hP.sub [0, 1, 2, 3, 4, 5, 6, 7, 8, 9, 10, 11] rfl) (hD.sub [0, 1, 2, 3, 4, 5, 6, 7, 8, 9, 10, 11] (by decide) rfl) hS (show FV gqf_c_11 ∧ PLV gq_bo_11 from ⟨hgqf_c_11, hgq_bo_11⟩) (Nat.le_of_ble_eq_true rfl) (Nat.le_of_ble_eq_true rfl) dX2_weighRings_97
      · have ic_5 : v8_11.toInt < z_4.toInt := k_nle c_5 rfl rfl
        obtain ⟨kp1, kp2, kp3, kp4, kp5, kp6⟩ := k_pair (p := v8_11) (r := (g_v 3)) (z := z_4) (q := v8_11 / (g_v 3)) (m := v8_11 - v8_11 / (g_v 3) * (g_v 3)) ez_4 (by omega) (by omega) rfl rfl
        refine lv_aload_n hx hb dX2_weighRings_21 rfl (lv_at hl 3 rfl) ?_
        refine lv_aload_n hx hb dX2_weighRings_22 rfl (lv_at hl 4 rfl) ?_
        refine lv_aload_nN hx hb dX2_weighRings_23 rfl (lv_at hl 5 rfl) ?_
        refine jwVV (wr := [(o, .inr (2, [.int o_which, .int o_much, .int o_drawn, .ref o_one, .ref o_oth])), (o_one, .inl (cy 0, 36, .inl go_one_11)), (o_oth, .inl (cy 0, 36, .inl go_oth_11))]) (As := [.ref v, .null]) (rest := []) F hE hP hD hS hA hl.1 hz hZ (cc_startFromN l D cy (Z := Z) (hz := hz) (TT := TT) (zt := zt) (o := q) (q := v) (of := qf) (o_ca := q_ca) (o_bo := q_bo) (o_gust := w3_q_11) (o_still := w4_q_11) (o_rv := w5_q_11) (o_wd := q_wd) (o_sk := q_sk) (of_c := qf_c) (g_of := gqf_c_11) (g_oca := gq_ca_11) (g_obo := gq_bo_11) (g_owd := gq_wd_11) (g_osk := gq_sk_11) (q_c := v_c) (g_q := g_v) (h_g_of := hgqf_c_11) (h_g_obo := hgq_bo_11) (h_g_q := h_g_v)) q_m_X2_60 mv_X6_startFrom ⟨(Nat.le_of_ble_eq_true rfl), (Nat.le_of_ble_eq_true rfl)⟩ [3, 4, 5, 6, 7, 8, 9, 10, 11] [0, 1, 2] (by decide) rfl rfl (by decide) (by decide) rfl rfl rfl rfl rfl (Nat.le_of_ble_eq_true rfl) ⟨(Nat.le_of_ble_eq_true rfl), (Nat.le_of_ble_eq_true rfl)⟩ dX2_weighRings_24 (fun u_6 H locs eu_6 hP hD hS => ?_)
        obtain ⟨g_of_7, o_gust_8, o_still_9, o_rv_10, g_obo_11⟩ := u_6
        have eu_6 : FV g_of_7 ∧ PLV g_obo_11 ∧ (RIn TT (cy 0) o_rv_10) := eu_6
        obtain ⟨eu_6a, eu_6b, eu_6c⟩ := eu_6
        have hP : va_P D vwCl [(o, .inr (2, [.int o_which, .int o_much, .int o_drawn, .ref o_one, .ref o_oth])), (o_one, .inl (cy 0, 36, .inl go_one_11)), (o_oth, .inl (cy 0, 36, .inl go_oth_11)), (q, .inr (6, [.ref qf, .ref q_ca, .ref q_bo, .int o_gust_8, .int o_still_9, o_rv_10, .ref q_wd, .ref q_sk])), (qf, .inr (1, [.ref qf_c])), (qf_c, .inl (cy 0, 63, .inl g_of_7)), (q_ca, .inl (cy 0, 5, .inl gq_ca_11)), (q_bo, .inl (cy 0, 5, .inl g_obo_11)), (q_wd, .inl (cy 1, 13, .inr (.inl gq_wd_11))), (q_sk, .inl (cy 1, 64, .inr (.inl gq_sk_11))), (v, .inr (1, [.ref v_c])), (v_c, .inl (cy 0, 63, .inl g_v))] H := hP
        have hD : va_D A [(o, .inr (2, [.int o_which, .int o_much, .int o_drawn, .ref o_one, .ref o_oth])), (o_one, .inl (cy 0, 36, .inl go_one_11)), (o_oth, .inl (cy 0, 36, .inl go_oth_11)), (q, .inr (6, [.ref qf, .ref q_ca, .ref q_bo, .int o_gust_8, .int o_still_9, o_rv_10, .ref q_wd, .ref q_sk])), (qf, .inr (1, [.ref qf_c])), (qf_c, .inl (cy 0, 63, .inl g_of_7)), (q_ca, .inl (cy 0, 5, .inl gq_ca_11)), (q_bo, .inl (cy 0, 5, .inl g_obo_11)), (q_wd, .inl (cy 1, 13, .inr (.inl gq_wd_11))), (q_sk, .inl (cy 1, 64, .inr (.inl gq_sk_11))), (v, .inr (1, [.ref v_c])), (v_c, .inl (cy 0, 63, .inl g_v))] := hD
        obtain ⟨⟨b_12a, b_12b⟩, ⟨b_12c, b_12d⟩, ⟨b_12e, b_12f⟩⟩ := FV.bounds eu_6a
        refine lv_aload_n hx hb dX2_weighRings_27 rfl (lv_at hl 3 rfl) ?_
        refine va_get (D := D) (ci := 6) (v := .ref q_bo) (C := RX6) (T := TX6) (N := 8) hx hb hG inG_X6 hown hE.1 hP 3 rfl rfl 2 (by decide) (hG _ q_f_X2_83) (fun _ h9 => h9) rfl dX2_weighRings_28 ?_
        refine lv_iload hx hb dX2_weighRings_31 (lv_at hl 6 rfl) ?_
        refine lv_iload hx hb dX2_weighRings_33 (lv_at hl 0 rfl) ?_
        refine lv_iload hx hb dX2_weighRings_35 (lv_at hl 1 rfl) ?_
        refine lv_idiv hx hb dX2_weighRings_37 (k_nz (by omega)) ?_
        refine lv_topi (fun z_13 ez_13 => ?_)
        rw [← ez_13] at kp3 kp4
        refine va_iast hx hb hE.1 hP hD hS 7 0 rfl rfl (k_in (by omega)) dX2_weighRings_38 (fun H locs hP hD hS => ?_)
        have hr_15 : PLV (upd g_obo_11 (Int32.toNatClampNeg x0) z_13) := PLV.put eu_6b _ z_13 (by omega)
        generalize upd g_obo_11 (Int32.toNatClampNeg x0) z_13 = fn_14 at hP hD hr_15
        have hP : va_P D vwCl [(o, .inr (2, [.int o_which, .int o_much, .int o_drawn, .ref o_one, .ref o_oth])), (o_one, .inl (cy 0, 36, .inl go_one_11)), (o_oth, .inl (cy 0, 36, .inl go_oth_11)), (q, .inr (6, [.ref qf, .ref q_ca, .ref q_bo, .int o_gust_8, .int o_still_9, o_rv_10, .ref q_wd, .ref q_sk])), (qf, .inr (1, [.ref qf_c])), (qf_c, .inl (cy 0, 63, .inl g_of_7)), (q_ca, .inl (cy 0, 5, .inl gq_ca_11)), (q_bo, .inl (cy 0, 5, .inl fn_14)), (q_wd, .inl (cy 1, 13, .inr (.inl gq_wd_11))), (q_sk, .inl (cy 1, 64, .inr (.inl gq_sk_11))), (v, .inr (1, [.ref v_c])), (v_c, .inl (cy 0, 63, .inl g_v))] H := hP
        have hD : va_D A [(o, .inr (2, [.int o_which, .int o_much, .int o_drawn, .ref o_one, .ref o_oth])), (o_one, .inl (cy 0, 36, .inl go_one_11)), (o_oth, .inl (cy 0, 36, .inl go_oth_11)), (q, .inr (6, [.ref qf, .ref q_ca, .ref q_bo, .int o_gust_8, .int o_still_9, o_rv_10, .ref q_wd, .ref q_sk])), (qf, .inr (1, [.ref qf_c])), (qf_c, .inl (cy 0, 63, .inl g_of_7)), (q_ca, .inl (cy 0, 5, .inl gq_ca_11)), (q_bo, .inl (cy 0, 5, .inl fn_14)), (q_wd, .inl (cy 1, 13, .inr (.inl gq_wd_11))), (q_sk, .inl (cy 1, 64, .inr (.inl gq_sk_11))), (v, .inr (1, [.ref v_c])), (v_c, .inl (cy 0, 63, .inl g_v))] := hD
        refine lv_aload_n hx hb dX2_weighRings_39 rfl (lv_at hl 3 rfl) ?_
        refine va_get (D := D) (ci := 6) (v := .ref q_bo) (C := RX6) (T := TX6) (N := 8) hx hb hG inG_X6 hown hE.1 hP 3 rfl rfl 2 (by decide) (hG _ q_f_X2_83) (fun _ h9 => h9) rfl dX2_weighRings_40 ?_
        refine lv_iload hx hb dX2_weighRings_43 (lv_at hl 7 rfl) ?_
        refine lv_iload hx hb dX2_weighRings_45 (lv_at hl 0 rfl) ?_
        refine lv_iload hx hb dX2_weighRings_47 (lv_at hl 1 rfl) ?_
        refine lv_irem hx hb dX2_weighRings_49 (k_nz (by omega)) ?_
        refine lv_topi (fun z_16 ez_16 => ?_)
        rw [← ez_16] at kp5 kp6
        refine va_iast hx hb hE.1 hP hD hS 7 0 rfl rfl (k_in (by omega)) dX2_weighRings_50 (fun H locs hP hD hS => ?_)
        have hr_18 : PLV (upd fn_14 (Int32.toNatClampNeg x1) z_16) := PLV.put hr_15 _ z_16 (by omega)
        generalize upd fn_14 (Int32.toNatClampNeg x1) z_16 = fn_17 at hP hD hr_18
        have hP : va_P D vwCl [(o, .inr (2, [.int o_which, .int o_much, .int o_drawn, .ref o_one, .ref o_oth])), (o_one, .inl (cy 0, 36, .inl go_one_11)), (o_oth, .inl (cy 0, 36, .inl go_oth_11)), (q, .inr (6, [.ref qf, .ref q_ca, .ref q_bo, .int o_gust_8, .int o_still_9, o_rv_10, .ref q_wd, .ref q_sk])), (qf, .inr (1, [.ref qf_c])), (qf_c, .inl (cy 0, 63, .inl g_of_7)), (q_ca, .inl (cy 0, 5, .inl gq_ca_11)), (q_bo, .inl (cy 0, 5, .inl fn_17)), (q_wd, .inl (cy 1, 13, .inr (.inl gq_wd_11))), (q_sk, .inl (cy 1, 64, .inr (.inl gq_sk_11))), (v, .inr (1, [.ref v_c])), (v_c, .inl (cy 0, 63, .inl g_v))] H := hP
        have hD : va_D A [(o, .inr (2, [.int o_which, .int o_much, .int o_drawn, .ref o_one, .ref o_oth])), (o_one, .inl (cy 0, 36, .inl go_one_11)), (o_oth, .inl (cy 0, 36, .inl go_oth_11)), (q, .inr (6, [.ref qf, .ref q_ca, .ref q_bo, .int o_gust_8, .int o_still_9, o_rv_10, .ref q_wd, .ref q_sk])), (qf, .inr (1, [.ref qf_c])), (qf_c, .inl (cy 0, 63, .inl g_of_7)), (q_ca, .inl (cy 0, 5, .inl gq_ca_11)), (q_bo, .inl (cy 0, 5, .inl fn_17)), (q_wd, .inl (cy 1, 13, .inr (.inl gq_wd_11))), (q_sk, .inl (cy 1, 64, .inr (.inl gq_sk_11))), (v, .inr (1, [.ref v_c])), (v_c, .inl (cy 0, 63, .inl g_v))] := hD
        refine lv_aload_n hx hb dX2_weighRings_51 rfl (lv_at hl 3 rfl) ?_
        refine lv_iload hx hb dX2_weighRings_52 (lv_at hl 8 rfl) ?_
        refine jwVV (wr := [(o, .inr (2, [.int o_which, .int o_much, .int o_drawn, .ref o_one, .ref o_oth])), (o_one, .inl (cy 0, 36, .inl go_one_11)), (o_oth, .inl (cy 0, 36, .inl go_oth_11)), (v, .inr (1, [.ref v_c])), (v_c, .inl (cy 0, 63, .inl g_v))]) (As := [.int x2]) (rest := []) F hE hP hD hS hA hl.1 hz hZ (cc_X6_playRounds l D cy (Z := Z) (hz := hz) (TT := TT) (zt := zt) (o := q) (x0 := x2) (of := qf) (o_ca := q_ca) (o_bo := q_bo) (o_gust := o_gust_8) (o_still := o_still_9) (o_rv := o_rv_10) (o_wd := q_wd) (o_sk := q_sk) (of_c := qf_c) (g_of := g_of_7) (g_oca := gq_ca_11) (g_obo := fn_17) (g_owd := gq_wd_11) (g_osk := gq_sk_11) (h_g_of := eu_6a) (h_g_obo := hr_18) (hrv := (by first | omega | assumption)) (p0 := (by first | omega | assumption)) (p1 := (by first | omega | assumption))) q_m_X2_64 mv_X6_playRounds ⟨(Nat.le_of_ble_eq_true rfl), (Nat.le_of_ble_eq_true rfl)⟩ [3, 4, 5, 6, 7, 8, 9] [0, 1, 2, 10, 11] (by decide) rfl rfl (by decide) (by decide) rfl rfl rfl rfl rfl (Nat.le_of_ble_eq_true rfl) ⟨(Nat.le_of_ble_eq_true rfl), (Nat.le_of_ble_eq_true rfl)⟩ dX2_weighRings_54 (fun u_19 H locs eu_19 hP hD hS => ?_)
        obtain ⟨g_of_20, o_still_21, g_oca_22, g_owd_23, g_osk_24⟩ := u_19
        have eu_19 : FV g_of_20 := eu_19
        have hP : va_P D vwCl [(o, .inr (2, [.int o_which, .int o_much, .int o_drawn, .ref o_one, .ref o_oth])), (o_one, .inl (cy 0, 36, .inl go_one_11)), (o_oth, .inl (cy 0, 36, .inl go_oth_11)), (v, .inr (1, [.ref v_c])), (v_c, .inl (cy 0, 63, .inl g_v)), (q, .inr (6, [.ref qf, .ref q_ca, .ref q_bo, .int o_gust_8, .int o_still_21, o_rv_10, .ref q_wd, .ref q_sk])), (qf, .inr (1, [.ref qf_c])), (qf_c, .inl (cy 0, 63, .inl g_of_20)), (q_ca, .inl (cy 0, 5, .inl g_oca_22)), (q_bo, .inl (cy 0, 5, .inl fn_17)), (q_wd, .inl (cy 1, 13, .inr (.inl g_owd_23))), (q_sk, .inl (cy 1, 64, .inr (.inl g_osk_24)))] H := hP
        have hD : va_D A [(o, .inr (2, [.int o_which, .int o_much, .int o_drawn, .ref o_one, .ref o_oth])), (o_one, .inl (cy 0, 36, .inl go_one_11)), (o_oth, .inl (cy 0, 36, .inl go_oth_11)), (v, .inr (1, [.ref v_c])), (v_c, .inl (cy 0, 63, .inl g_v)), (q, .inr (6, [.ref qf, .ref q_ca, .ref q_bo, .int o_gust_8, .int o_still_21, o_rv_10, .ref q_wd, .ref q_sk])), (qf, .inr (1, [.ref qf_c])), (qf_c, .inl (cy 0, 63, .inl g_of_20)), (q_ca, .inl (cy 0, 5, .inl g_oca_22)), (q_bo, .inl (cy 0, 5, .inl fn_17)), (q_wd, .inl (cy 1, 13, .inr (.inl g_owd_23))), (q_sk, .inl (cy 1, 64, .inr (.inl g_osk_24)))] := hD
        obtain ⟨⟨b_25a, b_25b⟩, ⟨b_25c, b_25d⟩, ⟨b_25e, b_25f⟩⟩ := FV.bounds eu_19
        refine lv_aload_n hx hb dX2_weighRings_57 rfl (lv_at hl 2 rfl) ?_
        refine va_get (D := D) (ci := 2) (v := .ref o_one) (C := RX2) (T := TX2) (N := 5) hx hb hG inG_X2 hown hE.1 hP 0 rfl rfl 3 (by decide) (hG _ q_f_X2_21) (fun _ h9 => h9) rfl dX2_weighRings_58 ?_
        refine lv_iload hx hb dX2_weighRings_61 (lv_at hl 0 rfl) ?_
        refine lv_aload_n hx hb dX2_weighRings_63 rfl (lv_at hl 3 rfl) ?_
        refine va_get (D := D) (ci := 6) (v := .ref qf) (C := RX6) (T := TX6) (N := 8) hx hb hG inG_X6 hown hE.1 hP 5 rfl rfl 0 (by decide) (hG _ q_f_X2_28) (fun _ h9 => h9) rfl dX2_weighRings_64 ?_
        refine lv_aload_n hx hb dX2_weighRings_67 rfl (lv_at hl 4 rfl) ?_
        refine lv_iload hx hb dX2_weighRings_68 (lv_at hl 6 rfl) ?_
        refine kcS (As := [.ref qf, .ref v, .int x0]) (rest := [.int v8_11, .ref o_one]) F hE hP hl.1 (cc_gainOf l D cy (q := qf) (v := v) (x0 := x0) (q_c := qf_c) (g_q := g_of_20) (v_c := v_c) (g_v := g_v) (h_g_q := eu_19) (h_g_v := h_g_v) (p0 := (by first | omega | assumption)) (p1 := (by first | omega | assumption))) q_m_X2_86 ms_X2_gainOf ⟨(Nat.le_of_ble_eq_true rfl), (Nat.le_of_ble_eq_true rfl)⟩ [6, 7, 3, 4] rfl rfl rfl (Nat.le_of_ble_eq_true rfl) ⟨(Nat.le_of_ble_eq_true rfl), (Nat.le_of_ble_eq_true rfl)⟩ dX2_weighRings_70 (fun r_26 er_26 => ?_)
        refine va_iast hx hb hE.1 hP hD hS 1 0 rfl rfl (k_in (by omega)) dX2_weighRings_73 (fun H locs hP hD hS => ?_)
        generalize upd go_one_11 (Int32.toNatClampNeg v8_11) r_26 = fn_27 at hP hD
        have hP : va_P D vwCl [(o, .inr (2, [.int o_which, .int o_much, .int o_drawn, .ref o_one, .ref o_oth])), (o_one, .inl (cy 0, 36, .inl fn_27)), (o_oth, .inl (cy 0, 36, .inl go_oth_11)), (v, .inr (1, [.ref v_c])), (v_c, .inl (cy 0, 63, .inl g_v)), (q, .inr (6, [.ref qf, .ref q_ca, .ref q_bo, .int o_gust_8, .int o_still_21, o_rv_10, .ref q_wd, .ref q_sk])), (qf, .inr (1, [.ref qf_c])), (qf_c, .inl (cy 0, 63, .inl g_of_20)), (q_ca, .inl (cy 0, 5, .inl g_oca_22)), (q_bo, .inl (cy 0, 5, .inl fn_17)), (q_wd, .inl (cy 1, 13, .inr (.inl g_owd_23))), (q_sk, .inl (cy 1, 64, .inr (.inl g_osk_24)))] H := hP
        have hD : va_D A [(o, .inr (2, [.int o_which, .int o_much, .int o_drawn, .ref o_one, .ref o_oth])), (o_one, .inl (cy 0, 36, .inl fn_27)), (o_oth, .inl (cy 0, 36, .inl go_oth_11)), (v, .inr (1, [.ref v_c])), (v_c, .inl (cy 0, 63, .inl g_v)), (q, .inr (6, [.ref qf, .ref q_ca, .ref q_bo, .int o_gust_8, .int o_still_21, o_rv_10, .ref q_wd, .ref q_sk])), (qf, .inr (1, [.ref qf_c])), (qf_c, .inl (cy 0, 63, .inl g_of_20)), (q_ca, .inl (cy 0, 5, .inl g_oca_22)), (q_bo, .inl (cy 0, 5, .inl fn_17)), (q_wd, .inl (cy 1, 13, .inr (.inl g_owd_23))), (q_sk, .inl (cy 1, 64, .inr (.inl g_osk_24)))] := hD
        refine lv_aload_n hx hb dX2_weighRings_74 rfl (lv_at hl 2 rfl) ?_
        refine va_get (D := D) (ci := 2) (v := .ref o_oth) (C := RX2) (T := TX2) (N := 5) hx hb hG inG_X2 hown hE.1 hP 0 rfl rfl 4 (by decide) (hG _ q_f_X2_25) (fun _ h9 => h9) rfl dX2_weighRings_75 ?_
        refine lv_iload hx hb dX2_weighRings_78 (lv_at hl 0 rfl) ?_
        refine lv_aload_n hx hb dX2_weighRings_80 rfl (lv_at hl 3 rfl) ?_
        refine va_get (D := D) (ci := 6) (v := .ref qf) (C := RX6) (T := TX6) (N := 8) hx hb hG inG_X6 hown hE.1 hP 5 rfl rfl 0 (by decide) (hG _ q_f_X2_28) (fun _ h9 => h9) rfl dX2_weighRings_81 ?_
        refine lv_aload_n hx hb dX2_weighRings_84 rfl (lv_at hl 4 rfl) ?_
        refine lv_iload hx hb dX2_weighRings_85 (lv_at hl 7 rfl) ?_
        refine kcS (As := [.ref qf, .ref v, .int x1]) (rest := [.int v8_11, .ref o_oth]) F hE hP hl.1 (cc_gainOf l D cy (q := qf) (v := v) (x0 := x1) (q_c := qf_c) (g_q := g_of_20) (v_c := v_c) (g_v := g_v) (h_g_q := eu_19) (h_g_v := h_g_v) (p0 := (by first | omega | assumption)) (p1 := (by first | omega | assumption))) q_m_X2_86 ms_X2_gainOf ⟨(Nat.le_of_ble_eq_true rfl), (Nat.le_of_ble_eq_true rfl)⟩ [6, 7, 3, 4] rfl rfl rfl (Nat.le_of_ble_eq_true rfl) ⟨(Nat.le_of_ble_eq_true rfl), (Nat.le_of_ble_eq_true rfl)⟩ dX2_weighRings_87 (fun r_28 er_28 => ?_)
        refine va_iast hx hb hE.1 hP hD hS 2 0 rfl rfl (k_in (by omega)) dX2_weighRings_90 (fun H locs hP hD hS => ?_)
        generalize upd go_oth_11 (Int32.toNatClampNeg v8_11) r_28 = fn_29 at hP hD
        have hP : va_P D vwCl [(o, .inr (2, [.int o_which, .int o_much, .int o_drawn, .ref o_one, .ref o_oth])), (o_one, .inl (cy 0, 36, .inl fn_27)), (o_oth, .inl (cy 0, 36, .inl fn_29)), (v, .inr (1, [.ref v_c])), (v_c, .inl (cy 0, 63, .inl g_v)), (q, .inr (6, [.ref qf, .ref q_ca, .ref q_bo, .int o_gust_8, .int o_still_21, o_rv_10, .ref q_wd, .ref q_sk])), (qf, .inr (1, [.ref qf_c])), (qf_c, .inl (cy 0, 63, .inl g_of_20)), (q_ca, .inl (cy 0, 5, .inl g_oca_22)), (q_bo, .inl (cy 0, 5, .inl fn_17)), (q_wd, .inl (cy 1, 13, .inr (.inl g_owd_23))), (q_sk, .inl (cy 1, 64, .inr (.inl g_osk_24)))] H := hP
        have hD : va_D A [(o, .inr (2, [.int o_which, .int o_much, .int o_drawn, .ref o_one, .ref o_oth])), (o_one, .inl (cy 0, 36, .inl fn_27)), (o_oth, .inl (cy 0, 36, .inl fn_29)), (v, .inr (1, [.ref v_c])), (v_c, .inl (cy 0, 63, .inl g_v)), (q, .inr (6, [.ref qf, .ref q_ca, .ref q_bo, .int o_gust_8, .int o_still_21, o_rv_10, .ref q_wd, .ref q_sk])), (qf, .inr (1, [.ref qf_c])), (qf_c, .inl (cy 0, 63, .inl g_of_20)), (q_ca, .inl (cy 0, 5, .inl g_oca_22)), (q_bo, .inl (cy 0, 5, .inl fn_17)), (q_wd, .inl (cy 1, 13, .inr (.inl g_owd_23))), (q_sk, .inl (cy 1, 64, .inr (.inl g_osk_24)))] := hD
        obtain ⟨z_30, ez_30⟩ : ∃ y : Int32, y = v8_11 + Int32.ofInt 1 := ⟨_, rfl⟩
        have iz_30 : z_30.toInt = v8_11.toInt + 1 := k_addI ez_30 rfl (by decide) (by omega)
        refine lv_iinc (v := z_30) (lv' := [(8, .int z_30), (7, .int (g_v 3)), (0, .ref o), (1, .ref q), (2, .ref v), (3, .null), (4, .int x0), (5, .int x1), (6, .int x2)]) hx hb dX2_weighRings_91 hl (k := 0) rfl ez_30.symm (by decide) rfl (fun ls hl => ?_)
        refine lv_goto (tgt := 11) hx hb dX2_weighRings_94 (by decide) ?_
        have hP := hP.sub (ws' := [(o, .inr (2, [.int o_which, .int o_much, .int o_drawn, .ref o_one, .ref o_oth])), (o_one, .inl (cy 0, 36, .inl fn_27)), (o_oth, .inl (cy 0, 36, .inl fn_29)), (q, .inr (6, [.ref qf, .ref q_ca, .ref q_bo, .int o_gust_8, .int o_still_21, o_rv_10, .ref q_wd, .ref q_sk])), (qf, .inr (1, [.ref qf_c])), (qf_c, .inl (cy 0, 63, .inl g_of_20)), (q_ca, .inl (cy 0, 5, .inl g_oca_22)), (q_bo, .inl (cy 0, 5, .inl fn_17)), (q_wd, .inl (cy 1, 13, .inr (.inl g_owd_23))), (q_sk, .inl (cy 1, 64, .inr (.inl g_osk_24))), (v, .inr (1, [.ref v_c])), (v_c, .inl (cy 0, 63, .inl g_v))]) [0, 1, 2, 5, 6, 7, 8, 9, 10, 11, 3, 4] rfl
        have hD := hD.sub (ws' := [(o, .inr (2, [.int o_which, .int o_much, .int o_drawn, .ref o_one, .ref o_oth])), (o_one, .inl (cy 0, 36, .inl fn_27)), (o_oth, .inl (cy 0, 36, .inl fn_29)), (q, .inr (6, [.ref qf, .ref q_ca, .ref q_bo, .int o_gust_8, .int o_still_21, o_rv_10, .ref q_wd, .ref q_sk])), (qf, .inr (1, [.ref qf_c])), (qf_c, .inl (cy 0, 63, .inl g_of_20)), (q_ca, .inl (cy 0, 5, .inl g_oca_22)), (q_bo, .inl (cy 0, 5, .inl fn_17)), (q_wd, .inl (cy 1, 13, .inr (.inl g_owd_23))), (q_sk, .inl (cy 1, 64, .inr (.inl g_osk_24))), (v, .inr (1, [.ref v_c])), (v_c, .inl (cy 0, 63, .inl g_v))]) [0, 1, 2, 5, 6, 7, 8, 9, 10, 11, 3, 4] (by decide) rfl
        exact ih11 z_30 fn_27 fn_29 o_gust_8 o_still_21 o_rv_10 g_of_20 g_oca_22 fn_17 g_owd_23 g_osk_24 _ _ ls eu_19 hr_18 (by first | omega | assumption) (by first | omega | assumption) (by omega) hP hD hS (lv_sub hl [0, 1, 2, 3, 4, 5, 6, 7, 8] rfl)
  have lt_31 : (0 : Int32).toInt = 0 := by decide
  exact lp11 100000 0 g_oone g_ooth q_gust q_still q_rv g_qf g_qca g_qbo g_qwd g_qsk _ _ ls h_g_qf h_g_qbo (by first | omega | assumption) (by first | omega | assumption) (by omega) hP hD hS hl

set_option maxHeartbeats 4000000 in
set_option maxRecDepth 100000 in
theorem cc_weighRingsR (l : Launch) (D : va_G) (cy : Nat → ClassId) {Z : (Nat → Prop) → State → Heap → Prop} (hz : zOK Z) {TT : va_W} (zt : ∀ (A : Nat → Prop) (U : State) (H : Heap), Z A U H → va_P D vwCl TT H) (o : Nat) (o_one : Nat) (o_oth : Nat) (o_which : Int32) (o_much : Int32) (o_drawn : Int32) (g_oone : Nat → Int32) (g_ooth : Nat → Int32) (q : Nat) (qf : Nat) (qf_c : Nat) (g_qf : Nat → Int32) (q_ca : Nat) (q_bo : Nat) (q_wd : Nat) (q_sk : Nat) (q_gust : Int32) (q_still : Int32) (q_rv : Value) (g_qca : Nat → Int32) (g_qbo : Nat → Int32) (g_qwd : Nat → Int64) (g_qsk : Nat → Int64) (v : Nat) (v_c : Nat) (g_v : Nat → Int32) (x0 : Int32) (x1 : Int32) (x2 : Int32) (r : Nat) (st : Nat) (ra : Int32) (rn : Nat) (rg : Nat → Int32) (ri : Nat) (rj : Nat) (h_g_qf : FV g_qf) (h_g_qbo : PLV g_qbo) (h_g_v : FV g_v) (hTi : TT[ri]? = some (r, .inr (7, [.ref st, .int ra]))) (hTj : TT[rj]? = some (st, .inl (cy 0, rn, .inl rg))) (hn4 : rn ≤ 412) (hg : ∀ k : Nat, k < rn → 0 ≤ (rg k).toInt) (p0 : 0 ≤ x0.toInt) (p1 : x0.toInt ≤ 4) (p2 : 0 ≤ x1.toInt) (p3 : x1.toInt ≤ 4) (p4 : 0 ≤ x2.toInt) (p5 : x2.toInt ≤ 100) : JV l yX2_weighRings cX2_weighRings 9 6 148 D (kTY cy) [.ref o, .ref q, .ref v, .ref r, .int x0, .int x1, .int x2] [(o, .inr (2, [.int o_which, .int o_much, .int o_drawn, .ref o_one, .ref o_oth])), (o_one, .inl (cy 0, 36, .inl g_oone)), (o_oth, .inl (cy 0, 36, .inl g_ooth)), (q, .inr (6, [.ref qf, .ref q_ca, .ref q_bo, .int q_gust, .int q_still, q_rv, .ref q_wd, .ref q_sk])), (qf, .inr (1, [.ref qf_c])), (qf_c, .inl (cy 0, 63, .inl g_qf)), (q_ca, .inl (cy 0, 5, .inl g_qca)), (q_bo, .inl (cy 0, 5, .inl g_qbo)), (q_wd, .inl (cy 1, 13, .inr (.inl g_qwd))), (q_sk, .inl (cy 1, 64, .inr (.inl g_qsk))), (v, .inr (1, [.ref v_c])), (v_c, .inl (cy 0, 63, .inl g_v))] Z (S := (Nat → Int32) × (Nat → Int32) × (Nat → Int32) × Int32 × Int32 × Value × (Nat → Int32) × (Nat → Int32) × (Nat → Int64) × (Nat → Int64)) (fun u => FV (u.2.2.1) ∧ PLV (u.2.2.2.2.2.2.2.1)) (fun u => [(o, .inr (2, [.int o_which, .int o_much, .int o_drawn, .ref o_one, .ref o_oth])), (o_one, .inl (cy 0, 36, .inl (u.1))), (o_oth, .inl (cy 0, 36, .inl (u.2.1))), (q, .inr (6, [.ref qf, .ref q_ca, .ref q_bo, .int (u.2.2.2.1), .int (u.2.2.2.2.1), (u.2.2.2.2.2.1), .ref q_wd, .ref q_sk])), (qf, .inr (1, [.ref qf_c])), (qf_c, .inl (cy 0, 63, .inl (u.2.2.1))), (q_ca, .inl (cy 0, 5, .inl (u.2.2.2.2.2.2.1))), (q_bo, .inl (cy 0, 5, .inl (u.2.2.2.2.2.2.2.1))), (q_wd, .inl (cy 1, 13, .inr (.inl (u.2.2.2.2.2.2.2.2.1)))), (q_sk, .inl (cy 1, 64, .inr (.inl (u.2.2.2.2.2.2.2.2.2)))), (v, .inr (1, [.ref v_c])), (v_c, .inl (cy 0, 63, .inl g_v))]) 0 0 := by
  refine JV.of (by decide) (Nat.le_of_ble_eq_true rfl) (fun p e s m below meth c ls A F hin hE hP hD hA hS hl hZ => ?_)
  have F : kF p s m meth c cX2_weighRings 9 none _ RX2 := F
  obtain ⟨hx, hb, hr, hml, hown, hG, hlk⟩ := id F
  have hl : lv_has ls 9 [(0, .ref o), (1, .ref q), (2, .ref v), (3, .ref r), (4, .int x0), (5, .int x1), (6, .int x2)] := hl
  obtain ⟨⟨b_1a, b_1b⟩, ⟨b_1c, b_1d⟩, ⟨b_1e, b_1f⟩⟩ := FV.bounds h_g_qf
  obtain ⟨⟨b_2a, b_2b⟩, ⟨b_2c, b_2d⟩, ⟨b_2e, b_2f⟩⟩ := FV.bounds h_g_v
  refine lv_aload_n hx hb dX2_weighRings_0 rfl (lv_at hl 2 rfl) ?_
  refine va_get (D := D) (ci := 1) (v := .ref v_c) (C := RX1) (T := TX1) (N := 1) hx hb hG inG_X1 hown hE.1 hP 10 rfl rfl 0 (by decide) (hG _ q_f_X2_34) (fun _ h9 => h9) rfl dX2_weighRings_1 ?_
  refine lv_iconst (v := 3) hx hb dX2_weighRings_4 (by decide) ?_
  refine va_iald hx hb hE.1 hP 11 0 rfl rfl (by unfold vp_in; decide) dX2_weighRings_5 ?_
  refine k_top (z := (g_v 3)) rfl ?_
  refine lv_istore (lv' := [(7, .int (g_v 3)), (0, .ref o), (1, .ref q), (2, .ref v), (3, .ref r), (4, .int x0), (5, .int x1), (6, .int x2)]) hx hb dX2_weighRings_6 hl (by decide) rfl (fun ls hl => ?_)
  refine lv_iconst (v := 0) hx hb dX2_weighRings_8 (by decide) ?_
  refine lv_istore (lv' := [(8, .int 0), (7, .int (g_v 3)), (0, .ref o), (1, .ref q), (2, .ref v), (3, .ref r), (4, .int x0), (5, .int x1), (6, .int x2)]) hx hb dX2_weighRings_9 hl (by decide) rfl (fun ls hl => ?_)
  have lp11 : ∀ (fu : Nat) (v8_11 : Int32) (go_one_11 : Nat → Int32) (go_oth_11 : Nat → Int32) (w3_q_11 : Int32) (w4_q_11 : Int32) (w5_q_11 : Value) (gqf_c_11 : Nat → Int32) (gq_ca_11 : Nat → Int32) (gq_bo_11 : Nat → Int32) (gq_wd_11 : Nat → Int64) (gq_sk_11 : Nat → Int64) (H : Heap) (locs : List Loc) (ls : Array Slot), FV gqf_c_11 → PLV gq_bo_11 → (0 ≤ v8_11.toInt) → (v8_11.toInt ≤ 36) → 36 - v8_11.toInt < (fu : Int) → va_P D vwCl [(o, .inr (2, [.int o_which, .int o_much, .int o_drawn, .ref o_one, .ref o_oth])), (o_one, .inl (cy 0, 36, .inl go_one_11)), (o_oth, .inl (cy 0, 36, .inl go_oth_11)), (q, .inr (6, [.ref qf, .ref q_ca, .ref q_bo, .int w3_q_11, .int w4_q_11, w5_q_11, .ref q_wd, .ref q_sk])), (qf, .inr (1, [.ref qf_c])), (qf_c, .inl (cy 0, 63, .inl gqf_c_11)), (q_ca, .inl (cy 0, 5, .inl gq_ca_11)), (q_bo, .inl (cy 0, 5, .inl gq_bo_11)), (q_wd, .inl (cy 1, 13, .inr (.inl gq_wd_11))), (q_sk, .inl (cy 1, 64, .inr (.inl gq_sk_11))), (v, .inr (1, [.ref v_c])), (v_c, .inl (cy 0, 63, .inl g_v))] H → va_D A [(o, .inr (2, [.int o_which, .int o_much, .int o_drawn, .ref o_one, .ref o_oth])), (o_one, .inl (cy 0, 36, .inl go_one_11)), (o_oth, .inl (cy 0, 36, .inl go_oth_11)), (q, .inr (6, [.ref qf, .ref q_ca, .ref q_bo, .int w3_q_11, .int w4_q_11, w5_q_11, .ref q_wd, .ref q_sk])), (qf, .inr (1, [.ref qf_c])), (qf_c, .inl (cy 0, 63, .inl gqf_c_11)), (q_ca, .inl (cy 0, 5, .inl gq_ca_11)), (q_bo, .inl (cy 0, 5, .inl gq_bo_11)), (q_wd, .inl (cy 1, 13, .inr (.inl gq_wd_11))), (q_sk, .inl (cy 1, 64, .inr (.inl gq_sk_11))), (v, .inr (1, [.ref v_c])), (v_c, .inl (cy 0, 63, .inl g_v))] → va_S A s.heap H locs → lv_has ls 9 [(8, .int v8_11), (7, .int (g_v 3)), (0, .ref o), (1, .ref q), (2, .ref v), (3, .ref r), (4, .int x0), (5, .int x1), (6, .int x2)] → W p l e (kRm 6 148 0 0) s m ([.ref o, .ref q, .ref v, .ref r, .int x0, .int x1, .int x2] : List Value).toArray below meth c H locs 0 0 (MQ below (va_Qv (S := (Nat → Int32) × (Nat → Int32) × (Nat → Int32) × Int32 × Int32 × Value × (Nat → Int32) × (Nat → Int32) × (Nat → Int64) × (Nat → Int64)) (fun u => FV (u.2.2.1) ∧ PLV (u.2.2.2.2.2.2.2.1)) (kBw D A (fun u => [(o, .inr (2, [.int o_which, .int o_much, .int o_drawn, .ref o_one, .ref o_oth])), (o_one, .inl (cy 0, 36, .inl (u.1))), (o_oth, .inl (cy 0, 36, .inl (u.2.1))), (q, .inr (6, [.ref qf, .ref q_ca, .ref q_bo, .int (u.2.2.2.1), .int (u.2.2.2.2.1), (u.2.2.2.2.2.1), .ref q_wd, .ref q_sk])), (qf, .inr (1, [.ref qf_c])), (qf_c, .inl (cy 0, 63, .inl (u.2.2.1))), (q_ca, .inl (cy 0, 5, .inl (u.2.2.2.2.2.2.1))), (q_bo, .inl (cy 0, 5, .inl (u.2.2.2.2.2.2.2.1))), (q_wd, .inl (cy 1, 13, .inr (.inl (u.2.2.2.2.2.2.2.2.1)))), (q_sk, .inl (cy 1, 64, .inr (.inl (u.2.2.2.2.2.2.2.2.2)))), (v, .inr (1, [.ref v_c])), (v_c, .inl (cy 0, 63, .inl g_v))])) A) ([.ref o, .ref q, .ref v, .ref r, .int x0, .int x1, .int x2] : List Value).toArray s 0 0 A) (F0 m 11 ls []) := by
    intro fu11
    induction fu11 with
    | zero =>
      intro v8_11 go_one_11 go_oth_11 w3_q_11 w4_q_11 w5_q_11 gqf_c_11 gq_ca_11 gq_bo_11 gq_wd_11 gq_sk_11 H locs ls hgqf_c_11 hgq_bo_11 j0_11 j1_11 hm11 hP hD hS hl
      exact absurd hm11 (by omega)
    | succ fu11 ih11 =>
      intro v8_11 go_one_11 go_oth_11 w3_q_11 w4_q_11 w5_q_11 gqf_c_11 gq_ca_11 gq_bo_11 gq_wd_11 gq_sk_11 H locs ls hgqf_c_11 hgq_bo_11 j0_11 j1_11 hm11 hP hD hS hl
      obtain ⟨⟨b_3a, b_3b⟩, ⟨b_3c, b_3d⟩, ⟨b_3e, b_3f⟩⟩ := FV.bounds hgqf_c_11
      refine lv_iload hx hb dX2_weighRings_11 (lv_at hl 0 rfl) ?_
      refine lv_iload hx hb dX2_weighRings_13 (lv_at hl 1 rfl) ?_
      refine lv_iload hx hb dX2_weighRings_15 (lv_at hl 1 rfl) ?_
      refine lv_imul hx hb dX2_weighRings_17 ?_
      refine lv_topi (fun z_4 ez_4 => ?_)
      obtain ⟨iz_4m, iz_4n, iz_4o⟩ := k_mulB (a := 6) (b := 6) ez_4 (by omega) (by omega) (by decide)
      refine lv_icmp_ge (tgt := 97) hx hb dX2_weighRings_18 (by decide) (fun c_5 => ?_) (fun c_5 => ?_)
      · have ic_5 : z_4.toInt ≤ v8_11.toInt := k_le c_5 rfl rfl
        exact KV.rt ⟨go_one_11, go_oth_11, gqf_c_11, w3_q_11, w4_q_11, (w5_q_11), gq_ca_11, gq_bo_11, gq_wd_11, gq_sk_11⟩ F (hP.sub [0, 1, 2, 3, 4, 5, 6, 7, 8, 9, 10, 11] rfl) (hD.sub [0, 1, 2, 3, 4, 5, 6, 7, 8, 9, 10, 11] (by decide) rfl) hS (show FV gqf_c_11 ∧ PLV gq_bo_11 from ⟨hgqf_c_11, hgq_bo_11⟩) (Nat.le_of_ble_eq_true rfl) (Nat.le_of_ble_eq_true rfl) dX2_weighRings_97
      · have ic_5 : v8_11.toInt < z_4.toInt := k_nle c_5 rfl rfl
        obtain ⟨kp1, kp2, kp3, kp4, kp5, kp6⟩ := k_pair (p := v8_11) (r := (g_v 3)) (z := z_4) (q := v8_11 / (g_v 3)) (m := v8_11 - v8_11 / (g_v 3) * (g_v 3)) ez_4 (by omega) (by omega) rfl rfl
        refine lv_aload_n hx hb dX2_weighRings_21 rfl (lv_at hl 3 rfl) ?_
        refine lv_aload_n hx hb dX2_weighRings_22 rfl (lv_at hl 4 rfl) ?_
        refine lv_aload_n hx hb dX2_weighRings_23 rfl (lv_at hl 5 rfl) ?_
        refine jwVV (wr := [(o, .inr (2, [.int o_which, .int o_much, .int o_drawn, .ref o_one, .ref o_oth])), (o_one, .inl (cy 0, 36, .inl go_one_11)), (o_oth, .inl (cy 0, 36, .inl go_oth_11))]) (As := [.ref v, .ref r]) (rest := []) F hE hP hD hS hA hl.1 hz hZ (cc_startFromR l D cy (Z := Z) (hz := hz) (TT := TT) (zt := zt) (o := q) (q := v) (r := r) (of := qf) (o_ca := q_ca) (o_bo := q_bo) (o_gust := w3_q_11) (o_still := w4_q_11) (o_rv := w5_q_11) (o_wd := q_wd) (o_sk := q_sk) (of_c := qf_c) (g_of := gqf_c_11) (g_oca := gq_ca_11) (g_obo := gq_bo_11) (g_owd := gq_wd_11) (g_osk := gq_sk_11) (q_c := v_c) (g_q := g_v) (st := st) (ra := ra) (rn := rn) (rg := rg) (ri := ri) (rj := rj) (h_g_of := hgqf_c_11) (h_g_obo := hgq_bo_11) (h_g_q := h_g_v) (hTi := (by first | omega | assumption)) (hTj := (by first | omega | assumption)) (hn4 := (by first | omega | assumption)) (hg := (by first | omega | assumption))) q_m_X2_60 mv_X6_startFrom ⟨(Nat.le_of_ble_eq_true rfl), (Nat.le_of_ble_eq_true rfl)⟩ [3, 4, 5, 6, 7, 8, 9, 10, 11] [0, 1, 2] (by decide) rfl rfl (by decide) (by decide) rfl rfl rfl rfl rfl (Nat.le_of_ble_eq_true rfl) ⟨(Nat.le_of_ble_eq_true rfl), (Nat.le_of_ble_eq_true rfl)⟩ dX2_weighRings_24 (fun u_6 H locs eu_6 hP hD hS => ?_)
        obtain ⟨g_of_7, o_gust_8, o_still_9, o_rv_10, g_obo_11⟩ := u_6
        have eu_6 : FV g_of_7 ∧ PLV g_obo_11 ∧ (RIn TT (cy 0) o_rv_10) := eu_6
        obtain ⟨eu_6a, eu_6b, eu_6c⟩ := eu_6
        have hP : va_P D vwCl [(o, .inr (2, [.int o_which, .int o_much, .int o_drawn, .ref o_one, .ref o_oth])), (o_one, .inl (cy 0, 36, .inl go_one_11)), (o_oth, .inl (cy 0, 36, .inl go_oth_11)), (q, .inr (6, [.ref qf, .ref q_ca, .ref q_bo, .int o_gust_8, .int o_still_9, o_rv_10, .ref q_wd, .ref q_sk])), (qf, .inr (1, [.ref qf_c])), (qf_c, .inl (cy 0, 63, .inl g_of_7)), (q_ca, .inl (cy 0, 5, .inl gq_ca_11)), (q_bo, .inl (cy 0, 5, .inl g_obo_11)), (q_wd, .inl (cy 1, 13, .inr (.inl gq_wd_11))), (q_sk, .inl (cy 1, 64, .inr (.inl gq_sk_11))), (v, .inr (1, [.ref v_c])), (v_c, .inl (cy 0, 63, .inl g_v))] H := hP
        have hD : va_D A [(o, .inr (2, [.int o_which, .int o_much, .int o_drawn, .ref o_one, .ref o_oth])), (o_one, .inl (cy 0, 36, .inl go_one_11)), (o_oth, .inl (cy 0, 36, .inl go_oth_11)), (q, .inr (6, [.ref qf, .ref q_ca, .ref q_bo, .int o_gust_8, .int o_still_9, o_rv_10, .ref q_wd, .ref q_sk])), (qf, .inr (1, [.ref qf_c])), (qf_c, .inl (cy 0, 63, .inl g_of_7)), (q_ca, .inl (cy 0, 5, .inl gq_ca_11)), (q_bo, .inl (cy 0, 5, .inl g_obo_11)), (q_wd, .inl (cy 1, 13, .inr (.inl gq_wd_11))), (q_sk, .inl (cy 1, 64, .inr (.inl gq_sk_11))), (v, .inr (1, [.ref v_c])), (v_c, .inl (cy 0, 63, .inl g_v))] := hD
        obtain ⟨⟨b_12a, b_12b⟩, ⟨b_12c, b_12d⟩, ⟨b_12e, b_12f⟩⟩ := FV.bounds eu_6a
        refine lv_aload_n hx hb dX2_weighRings_27 rfl (lv_at hl 3 rfl) ?_
        refine va_get (D := D) (ci := 6) (v := .ref q_bo) (C := RX6) (T := TX6) (N := 8) hx hb hG inG_X6 hown hE.1 hP 3 rfl rfl 2 (by decide) (hG _ q_f_X2_83) (fun _ h9 => h9) rfl dX2_weighRings_28 ?_
        refine lv_iload hx hb dX2_weighRings_31 (lv_at hl 6 rfl) ?_
        refine lv_iload hx hb dX2_weighRings_33 (lv_at hl 0 rfl) ?_
        refine lv_iload hx hb dX2_weighRings_35 (lv_at hl 1 rfl) ?_
        refine lv_idiv hx hb dX2_weighRings_37 (k_nz (by omega)) ?_
        refine lv_topi (fun z_13 ez_13 => ?_)
        rw [← ez_13] at kp3 kp4
        refine va_iast hx hb hE.1 hP hD hS 7 0 rfl rfl (k_in (by omega)) dX2_weighRings_38 (fun H locs hP hD hS => ?_)
        have hr_15 : PLV (upd g_obo_11 (Int32.toNatClampNeg x0) z_13) := PLV.put eu_6b _ z_13 (by omega)
        generalize upd g_obo_11 (Int32.toNatClampNeg x0) z_13 = fn_14 at hP hD hr_15
        have hP : va_P D vwCl [(o, .inr (2, [.int o_which, .int o_much, .int o_drawn, .ref o_one, .ref o_oth])), (o_one, .inl (cy 0, 36, .inl go_one_11)), (o_oth, .inl (cy 0, 36, .inl go_oth_11)), (q, .inr (6, [.ref qf, .ref q_ca, .ref q_bo, .int o_gust_8, .int o_still_9, o_rv_10, .ref q_wd, .ref q_sk])), (qf, .inr (1, [.ref qf_c])), (qf_c, .inl (cy 0, 63, .inl g_of_7)), (q_ca, .inl (cy 0, 5, .inl gq_ca_11)), (q_bo, .inl (cy 0, 5, .inl fn_14)), (q_wd, .inl (cy 1, 13, .inr (.inl gq_wd_11))), (q_sk, .inl (cy 1, 64, .inr (.inl gq_sk_11))), (v, .inr (1, [.ref v_c])), (v_c, .inl (cy 0, 63, .inl g_v))] H := hP
        have hD : va_D A [(o, .inr (2, [.int o_which, .int o_much, .int o_drawn, .ref o_one, .ref o_oth])), (o_one, .inl (cy 0, 36, .inl go_one_11)), (o_oth, .inl (cy 0, 36, .inl go_oth_11)), (q, .inr (6, [.ref qf, .ref q_ca, .ref q_bo, .int o_gust_8, .int o_still_9, o_rv_10, .ref q_wd, .ref q_sk])), (qf, .inr (1, [.ref qf_c])), (qf_c, .inl (cy 0, 63, .inl g_of_7)), (q_ca, .inl (cy 0, 5, .inl gq_ca_11)), (q_bo, .inl (cy 0, 5, .inl fn_14)), (q_wd, .inl (cy 1, 13, .inr (.inl gq_wd_11))), (q_sk, .inl (cy 1, 64, .inr (.inl gq_sk_11))), (v, .inr (1, [.ref v_c])), (v_c, .inl (cy 0, 63, .inl g_v))] := hD
        refine lv_aload_n hx hb dX2_weighRings_39 rfl (lv_at hl 3 rfl) ?_
        refine va_get (D := D) (ci := 6) (v := .ref q_bo) (C := RX6) (T := TX6) (N := 8) hx hb hG inG_X6 hown hE.1 hP 3 rfl rfl 2 (by decide) (hG _ q_f_X2_83) (fun _ h9 => h9) rfl dX2_weighRings_40 ?_
        refine lv_iload hx hb dX2_weighRings_43 (lv_at hl 7 rfl) ?_
        refine lv_iload hx hb dX2_weighRings_45 (lv_at hl 0 rfl) ?_
        refine lv_iload hx hb dX2_weighRings_47 (lv_at hl 1 rfl) ?_
        refine lv_irem hx hb dX2_weighRings_49 (k_nz (by omega)) ?_
        refine lv_topi (fun z_16 ez_16 => ?_)
        rw [← ez_16] at kp5 kp6
        refine va_iast hx hb hE.1 hP hD hS 7 0 rfl rfl (k_in (by omega)) dX2_weighRings_50 (fun H locs hP hD hS => ?_)
        have hr_18 : PLV (upd fn_14 (Int32.toNatClampNeg x1) z_16) := PLV.put hr_15 _ z_16 (by omega)
        generalize upd fn_14 (Int32.toNatClampNeg x1) z_16 = fn_17 at hP hD hr_18
        have hP : va_P D vwCl [(o, .inr (2, [.int o_which, .int o_much, .int o_drawn, .ref o_one, .ref o_oth])), (o_one, .inl (cy 0, 36, .inl go_one_11)), (o_oth, .inl (cy 0, 36, .inl go_oth_11)), (q, .inr (6, [.ref qf, .ref q_ca, .ref q_bo, .int o_gust_8, .int o_still_9, o_rv_10, .ref q_wd, .ref q_sk])), (qf, .inr (1, [.ref qf_c])), (qf_c, .inl (cy 0, 63, .inl g_of_7)), (q_ca, .inl (cy 0, 5, .inl gq_ca_11)), (q_bo, .inl (cy 0, 5, .inl fn_17)), (q_wd, .inl (cy 1, 13, .inr (.inl gq_wd_11))), (q_sk, .inl (cy 1, 64, .inr (.inl gq_sk_11))), (v, .inr (1, [.ref v_c])), (v_c, .inl (cy 0, 63, .inl g_v))] H := hP
        have hD : va_D A [(o, .inr (2, [.int o_which, .int o_much, .int o_drawn, .ref o_one, .ref o_oth])), (o_one, .inl (cy 0, 36, .inl go_one_11)), (o_oth, .inl (cy 0, 36, .inl go_oth_11)), (q, .inr (6, [.ref qf, .ref q_ca, .ref q_bo, .int o_gust_8, .int o_still_9, o_rv_10, .ref q_wd, .ref q_sk])), (qf, .inr (1, [.ref qf_c])), (qf_c, .inl (cy 0, 63, .inl g_of_7)), (q_ca, .inl (cy 0, 5, .inl gq_ca_11)), (q_bo, .inl (cy 0, 5, .inl fn_17)), (q_wd, .inl (cy 1, 13, .inr (.inl gq_wd_11))), (q_sk, .inl (cy 1, 64, .inr (.inl gq_sk_11))), (v, .inr (1, [.ref v_c])), (v_c, .inl (cy 0, 63, .inl g_v))] := hD
        refine lv_aload_n hx hb dX2_weighRings_51 rfl (lv_at hl 3 rfl) ?_
        refine lv_iload hx hb dX2_weighRings_52 (lv_at hl 8 rfl) ?_
        refine jwVV (wr := [(o, .inr (2, [.int o_which, .int o_much, .int o_drawn, .ref o_one, .ref o_oth])), (o_one, .inl (cy 0, 36, .inl go_one_11)), (o_oth, .inl (cy 0, 36, .inl go_oth_11)), (v, .inr (1, [.ref v_c])), (v_c, .inl (cy 0, 63, .inl g_v))]) (As := [.int x2]) (rest := []) F hE hP hD hS hA hl.1 hz hZ (cc_X6_playRounds l D cy (Z := Z) (hz := hz) (TT := TT) (zt := zt) (o := q) (x0 := x2) (of := qf) (o_ca := q_ca) (o_bo := q_bo) (o_gust := o_gust_8) (o_still := o_still_9) (o_rv := o_rv_10) (o_wd := q_wd) (o_sk := q_sk) (of_c := qf_c) (g_of := g_of_7) (g_oca := gq_ca_11) (g_obo := fn_17) (g_owd := gq_wd_11) (g_osk := gq_sk_11) (h_g_of := eu_6a) (h_g_obo := hr_18) (hrv := (by first | omega | assumption)) (p0 := (by first | omega | assumption)) (p1 := (by first | omega | assumption))) q_m_X2_64 mv_X6_playRounds ⟨(Nat.le_of_ble_eq_true rfl), (Nat.le_of_ble_eq_true rfl)⟩ [3, 4, 5, 6, 7, 8, 9] [0, 1, 2, 10, 11] (by decide) rfl rfl (by decide) (by decide) rfl rfl rfl rfl rfl (Nat.le_of_ble_eq_true rfl) ⟨(Nat.le_of_ble_eq_true rfl), (Nat.le_of_ble_eq_true rfl)⟩ dX2_weighRings_54 (fun u_19 H locs eu_19 hP hD hS => ?_)
        obtain ⟨g_of_20, o_still_21, g_oca_22, g_owd_23, g_osk_24⟩ := u_19
        have eu_19 : FV g_of_20 := eu_19
        have hP : va_P D vwCl [(o, .inr (2, [.int o_which, .int o_much, .int o_drawn, .ref o_one, .ref o_oth])), (o_one, .inl (cy 0, 36, .inl go_one_11)), (o_oth, .inl (cy 0, 36, .inl go_oth_11)), (v, .inr (1, [.ref v_c])), (v_c, .inl (cy 0, 63, .inl g_v)), (q, .inr (6, [.ref qf, .ref q_ca, .ref q_bo, .int o_gust_8, .int o_still_21, o_rv_10, .ref q_wd, .ref q_sk])), (qf, .inr (1, [.ref qf_c])), (qf_c, .inl (cy 0, 63, .inl g_of_20)), (q_ca, .inl (cy 0, 5, .inl g_oca_22)), (q_bo, .inl (cy 0, 5, .inl fn_17)), (q_wd, .inl (cy 1, 13, .inr (.inl g_owd_23))), (q_sk, .inl (cy 1, 64, .inr (.inl g_osk_24)))] H := hP
        have hD : va_D A [(o, .inr (2, [.int o_which, .int o_much, .int o_drawn, .ref o_one, .ref o_oth])), (o_one, .inl (cy 0, 36, .inl go_one_11)), (o_oth, .inl (cy 0, 36, .inl go_oth_11)), (v, .inr (1, [.ref v_c])), (v_c, .inl (cy 0, 63, .inl g_v)), (q, .inr (6, [.ref qf, .ref q_ca, .ref q_bo, .int o_gust_8, .int o_still_21, o_rv_10, .ref q_wd, .ref q_sk])), (qf, .inr (1, [.ref qf_c])), (qf_c, .inl (cy 0, 63, .inl g_of_20)), (q_ca, .inl (cy 0, 5, .inl g_oca_22)), (q_bo, .inl (cy 0, 5, .inl fn_17)), (q_wd, .inl (cy 1, 13, .inr (.inl g_owd_23))), (q_sk, .inl (cy 1, 64, .inr (.inl g_osk_24)))] := hD
        obtain ⟨⟨b_25a, b_25b⟩, ⟨b_25c, b_25d⟩, ⟨b_25e, b_25f⟩⟩ := FV.bounds eu_19
        refine lv_aload_n hx hb dX2_weighRings_57 rfl (lv_at hl 2 rfl) ?_
        refine va_get (D := D) (ci := 2) (v := .ref o_one) (C := RX2) (T := TX2) (N := 5) hx hb hG inG_X2 hown hE.1 hP 0 rfl rfl 3 (by decide) (hG _ q_f_X2_21) (fun _ h9 => h9) rfl dX2_weighRings_58 ?_
        refine lv_iload hx hb dX2_weighRings_61 (lv_at hl 0 rfl) ?_
        refine lv_aload_n hx hb dX2_weighRings_63 rfl (lv_at hl 3 rfl) ?_
        refine va_get (D := D) (ci := 6) (v := .ref qf) (C := RX6) (T := TX6) (N := 8) hx hb hG inG_X6 hown hE.1 hP 5 rfl rfl 0 (by decide) (hG _ q_f_X2_28) (fun _ h9 => h9) rfl dX2_weighRings_64 ?_
        refine lv_aload_n hx hb dX2_weighRings_67 rfl (lv_at hl 4 rfl) ?_
        refine lv_iload hx hb dX2_weighRings_68 (lv_at hl 6 rfl) ?_
        refine kcS (As := [.ref qf, .ref v, .int x0]) (rest := [.int v8_11, .ref o_one]) F hE hP hl.1 (cc_gainOf l D cy (q := qf) (v := v) (x0 := x0) (q_c := qf_c) (g_q := g_of_20) (v_c := v_c) (g_v := g_v) (h_g_q := eu_19) (h_g_v := h_g_v) (p0 := (by first | omega | assumption)) (p1 := (by first | omega | assumption))) q_m_X2_86 ms_X2_gainOf ⟨(Nat.le_of_ble_eq_true rfl), (Nat.le_of_ble_eq_true rfl)⟩ [6, 7, 3, 4] rfl rfl rfl (Nat.le_of_ble_eq_true rfl) ⟨(Nat.le_of_ble_eq_true rfl), (Nat.le_of_ble_eq_true rfl)⟩ dX2_weighRings_70 (fun r_26 er_26 => ?_)
        refine va_iast hx hb hE.1 hP hD hS 1 0 rfl rfl (k_in (by omega)) dX2_weighRings_73 (fun H locs hP hD hS => ?_)
        generalize upd go_one_11 (Int32.toNatClampNeg v8_11) r_26 = fn_27 at hP hD
        have hP : va_P D vwCl [(o, .inr (2, [.int o_which, .int o_much, .int o_drawn, .ref o_one, .ref o_oth])), (o_one, .inl (cy 0, 36, .inl fn_27)), (o_oth, .inl (cy 0, 36, .inl go_oth_11)), (v, .inr (1, [.ref v_c])), (v_c, .inl (cy 0, 63, .inl g_v)), (q, .inr (6, [.ref qf, .ref q_ca, .ref q_bo, .int o_gust_8, .int o_still_21, o_rv_10, .ref q_wd, .ref q_sk])), (qf, .inr (1, [.ref qf_c])), (qf_c, .inl (cy 0, 63, .inl g_of_20)), (q_ca, .inl (cy 0, 5, .inl g_oca_22)), (q_bo, .inl (cy 0, 5, .inl fn_17)), (q_wd, .inl (cy 1, 13, .inr (.inl g_owd_23))), (q_sk, .inl (cy 1, 64, .inr (.inl g_osk_24)))] H := hP
        have hD : va_D A [(o, .inr (2, [.int o_which, .int o_much, .int o_drawn, .ref o_one, .ref o_oth])), (o_one, .inl (cy 0, 36, .inl fn_27)), (o_oth, .inl (cy 0, 36, .inl go_oth_11)), (v, .inr (1, [.ref v_c])), (v_c, .inl (cy 0, 63, .inl g_v)), (q, .inr (6, [.ref qf, .ref q_ca, .ref q_bo, .int o_gust_8, .int o_still_21, o_rv_10, .ref q_wd, .ref q_sk])), (qf, .inr (1, [.ref qf_c])), (qf_c, .inl (cy 0, 63, .inl g_of_20)), (q_ca, .inl (cy 0, 5, .inl g_oca_22)), (q_bo, .inl (cy 0, 5, .inl fn_17)), (q_wd, .inl (cy 1, 13, .inr (.inl g_owd_23))), (q_sk, .inl (cy 1, 64, .inr (.inl g_osk_24)))] := hD
        refine lv_aload_n hx hb dX2_weighRings_74 rfl (lv_at hl 2 rfl) ?_
        refine va_get (D := D) (ci := 2) (v := .ref o_oth) (C := RX2) (T := TX2) (N := 5) hx hb hG inG_X2 hown hE.1 hP 0 rfl rfl 4 (by decide) (hG _ q_f_X2_25) (fun _ h9 => h9) rfl dX2_weighRings_75 ?_
        refine lv_iload hx hb dX2_weighRings_78 (lv_at hl 0 rfl) ?_
        refine lv_aload_n hx hb dX2_weighRings_80 rfl (lv_at hl 3 rfl) ?_
        refine va_get (D := D) (ci := 6) (v := .ref qf) (C := RX6) (T := TX6) (N := 8) hx hb hG inG_X6 hown hE.1 hP 5 rfl rfl 0 (by decide) (hG _ q_f_X2_28) (fun _ h9 => h9) rfl dX2_weighRings_81 ?_
        refine lv_aload_n hx hb dX2_weighRings_84 rfl (lv_at hl 4 rfl) ?_
        refine lv_iload hx hb dX2_weighRings_85 (lv_at hl 7 rfl) ?_
        refine kcS (As := [.ref qf, .ref v, .int x1]) (rest := [.int v8_11, .ref o_oth]) F hE hP hl.1 (cc_gainOf l D cy (q := qf) (v := v) (x0 := x1) (q_c := qf_c) (g_q := g_of_20) (v_c := v_c) (g_v := g_v) (h_g_q := eu_19) (h_g_v := h_g_v) (p0 := (by first | omega | assumption)) (p1 := (by first | omega | assumption))) q_m_X2_86 ms_X2_gainOf ⟨(Nat.le_of_ble_eq_true rfl), (Nat.le_of_ble_eq_true rfl)⟩ [6, 7, 3, 4] rfl rfl rfl (Nat.le_of_ble_eq_true rfl) ⟨(Nat.le_of_ble_eq_true rfl), (Nat.le_of_ble_eq_true rfl)⟩ dX2_weighRings_87 (fun r_28 er_28 => ?_)
        refine va_iast hx hb hE.1 hP hD hS 2 0 rfl rfl (k_in (by omega)) dX2_weighRings_90 (fun H locs hP hD hS => ?_)
        generalize upd go_oth_11 (Int32.toNatClampNeg v8_11) r_28 = fn_29 at hP hD
        have hP : va_P D vwCl [(o, .inr (2, [.int o_which, .int o_much, .int o_drawn, .ref o_one, .ref o_oth])), (o_one, .inl (cy 0, 36, .inl fn_27)), (o_oth, .inl (cy 0, 36, .inl fn_29)), (v, .inr (1, [.ref v_c])), (v_c, .inl (cy 0, 63, .inl g_v)), (q, .inr (6, [.ref qf, .ref q_ca, .ref q_bo, .int o_gust_8, .int o_still_21, o_rv_10, .ref q_wd, .ref q_sk])), (qf, .inr (1, [.ref qf_c])), (qf_c, .inl (cy 0, 63, .inl g_of_20)), (q_ca, .inl (cy 0, 5, .inl g_oca_22)), (q_bo, .inl (cy 0, 5, .inl fn_17)), (q_wd, .inl (cy 1, 13, .inr (.inl g_owd_23))), (q_sk, .inl (cy 1, 64, .inr (.inl g_osk_24)))] H := hP
        have hD : va_D A [(o, .inr (2, [.int o_which, .int o_much, .int o_drawn, .ref o_one, .ref o_oth])), (o_one, .inl (cy 0, 36, .inl fn_27)), (o_oth, .inl (cy 0, 36, .inl fn_29)), (v, .inr (1, [.ref v_c])), (v_c, .inl (cy 0, 63, .inl g_v)), (q, .inr (6, [.ref qf, .ref q_ca, .ref q_bo, .int o_gust_8, .int o_still_21, o_rv_10, .ref q_wd, .ref q_sk])), (qf, .inr (1, [.ref qf_c])), (qf_c, .inl (cy 0, 63, .inl g_of_20)), (q_ca, .inl (cy 0, 5, .inl g_oca_22)), (q_bo, .inl (cy 0, 5, .inl fn_17)), (q_wd, .inl (cy 1, 13, .inr (.inl g_owd_23))), (q_sk, .inl (cy 1, 64, .inr (.inl g_osk_24)))] := hD
        obtain ⟨z_30, ez_30⟩ : ∃ y : Int32, y = v8_11 + Int32.ofInt 1 := ⟨_, rfl⟩
        have iz_30 : z_30.toInt = v8_11.toInt + 1 := k_addI ez_30 rfl (by decide) (by omega)
        refine lv_iinc (v := z_30) (lv' := [(8, .int z_30), (7, .int (g_v 3)), (0, .ref o), (1, .ref q), (2, .ref v), (3, .ref r), (4, .int x0), (5, .int x1), (6, .int x2)]) hx hb dX2_weighRings_91 hl (k := 0) rfl ez_30.symm (by decide) rfl (fun ls hl => ?_)
        refine lv_goto (tgt := 11) hx hb dX2_weighRings_94 (by decide) ?_
        have hP := hP.sub (ws' := [(o, .inr (2, [.int o_which, .int o_much, .int o_drawn, .ref o_one, .ref o_oth])), (o_one, .inl (cy 0, 36, .inl fn_27)), (o_oth, .inl (cy 0, 36, .inl fn_29)), (q, .inr (6, [.ref qf, .ref q_ca, .ref q_bo, .int o_gust_8, .int o_still_21, o_rv_10, .ref q_wd, .ref q_sk])), (qf, .inr (1, [.ref qf_c])), (qf_c, .inl (cy 0, 63, .inl g_of_20)), (q_ca, .inl (cy 0, 5, .inl g_oca_22)), (q_bo, .inl (cy 0, 5, .inl fn_17)), (q_wd, .inl (cy 1, 13, .inr (.inl g_owd_23))), (q_sk, .inl (cy 1, 64, .inr (.inl g_osk_24))), (v, .inr (1, [.ref v_c])), (v_c, .inl (cy 0, 63, .inl g_v))]) [0, 1, 2, 5, 6, 7, 8, 9, 10, 11, 3, 4] rfl
        have hD := hD.sub (ws' := [(o, .inr (2, [.int o_which, .int o_much, .int o_drawn, .ref o_one, .ref o_oth])), (o_one, .inl (cy 0, 36, .inl fn_27)), (o_oth, .inl (cy 0, 36, .inl fn_29)), (q, .inr (6, [.ref qf, .ref q_ca, .ref q_bo, .int o_gust_8, .int o_still_21, o_rv_10, .ref q_wd, .ref q_sk])), (qf, .inr (1, [.ref qf_c])), (qf_c, .inl (cy 0, 63, .inl g_of_20)), (q_ca, .inl (cy 0, 5, .inl g_oca_22)), (q_bo, .inl (cy 0, 5, .inl fn_17)), (q_wd, .inl (cy 1, 13, .inr (.inl g_owd_23))), (q_sk, .inl (cy 1, 64, .inr (.inl g_osk_24))), (v, .inr (1, [.ref v_c])), (v_c, .inl (cy 0, 63, .inl g_v))]) [0, 1, 2, 5, 6, 7, 8, 9, 10, 11, 3, 4] (by decide) rfl
        exact ih11 z_30 fn_27 fn_29 o_gust_8 o_still_21 o_rv_10 g_of_20 g_oca_22 fn_17 g_owd_23 g_osk_24 _ _ ls eu_19 hr_18 (by first | omega | assumption) (by first | omega | assumption) (by omega) hP hD hS (lv_sub hl [0, 1, 2, 3, 4, 5, 6, 7, 8] rfl)
  have lt_31 : (0 : Int32).toInt = 0 := by decide
  exact lp11 100000 0 g_oone g_ooth q_gust q_still q_rv g_qf g_qca g_qbo g_qwd g_qsk _ _ ls h_g_qf h_g_qbo (by first | omega | assumption) (by first | omega | assumption) (by omega) hP hD hS hl

theorem cc_weighRings (l : Launch) (D : va_G) (cy : Nat → ClassId) {Z : (Nat → Prop) → State → Heap → Prop} (hz : zOK Z) {TT : va_W} (zt : ∀ (A : Nat → Prop) (U : State) (H : Heap), Z A U H → va_P D vwCl TT H) (o : Nat) (o_one : Nat) (o_oth : Nat) (o_which : Int32) (o_much : Int32) (o_drawn : Int32) (g_oone : Nat → Int32) (g_ooth : Nat → Int32) (q : Nat) (qf : Nat) (qf_c : Nat) (g_qf : Nat → Int32) (q_ca : Nat) (q_bo : Nat) (q_wd : Nat) (q_sk : Nat) (q_gust : Int32) (q_still : Int32) (q_rv : Value) (g_qca : Nat → Int32) (g_qbo : Nat → Int32) (g_qwd : Nat → Int64) (g_qsk : Nat → Int64) (v : Nat) (v_c : Nat) (g_v : Nat → Int32) (x0 : Int32) (x1 : Int32) (x2 : Int32) (rv : Value) (hrv : RIn TT (cy 0) rv) (h_g_qf : FV g_qf) (h_g_qbo : PLV g_qbo) (h_g_v : FV g_v) (p0 : 0 ≤ x0.toInt) (p1 : x0.toInt ≤ 4) (p2 : 0 ≤ x1.toInt) (p3 : x1.toInt ≤ 4) (p4 : 0 ≤ x2.toInt) (p5 : x2.toInt ≤ 100) : JV l yX2_weighRings cX2_weighRings 9 6 148 D (kTY cy) [.ref o, .ref q, .ref v, rv, .int x0, .int x1, .int x2] [(o, .inr (2, [.int o_which, .int o_much, .int o_drawn, .ref o_one, .ref o_oth])), (o_one, .inl (cy 0, 36, .inl g_oone)), (o_oth, .inl (cy 0, 36, .inl g_ooth)), (q, .inr (6, [.ref qf, .ref q_ca, .ref q_bo, .int q_gust, .int q_still, q_rv, .ref q_wd, .ref q_sk])), (qf, .inr (1, [.ref qf_c])), (qf_c, .inl (cy 0, 63, .inl g_qf)), (q_ca, .inl (cy 0, 5, .inl g_qca)), (q_bo, .inl (cy 0, 5, .inl g_qbo)), (q_wd, .inl (cy 1, 13, .inr (.inl g_qwd))), (q_sk, .inl (cy 1, 64, .inr (.inl g_qsk))), (v, .inr (1, [.ref v_c])), (v_c, .inl (cy 0, 63, .inl g_v))] Z (S := (Nat → Int32) × (Nat → Int32) × (Nat → Int32) × Int32 × Int32 × Value × (Nat → Int32) × (Nat → Int32) × (Nat → Int64) × (Nat → Int64)) (fun u => FV (u.2.2.1) ∧ PLV (u.2.2.2.2.2.2.2.1)) (fun u => [(o, .inr (2, [.int o_which, .int o_much, .int o_drawn, .ref o_one, .ref o_oth])), (o_one, .inl (cy 0, 36, .inl (u.1))), (o_oth, .inl (cy 0, 36, .inl (u.2.1))), (q, .inr (6, [.ref qf, .ref q_ca, .ref q_bo, .int (u.2.2.2.1), .int (u.2.2.2.2.1), (u.2.2.2.2.2.1), .ref q_wd, .ref q_sk])), (qf, .inr (1, [.ref qf_c])), (qf_c, .inl (cy 0, 63, .inl (u.2.2.1))), (q_ca, .inl (cy 0, 5, .inl (u.2.2.2.2.2.2.1))), (q_bo, .inl (cy 0, 5, .inl (u.2.2.2.2.2.2.2.1))), (q_wd, .inl (cy 1, 13, .inr (.inl (u.2.2.2.2.2.2.2.2.1)))), (q_sk, .inl (cy 1, 64, .inr (.inl (u.2.2.2.2.2.2.2.2.2)))), (v, .inr (1, [.ref v_c])), (v_c, .inl (cy 0, 63, .inl g_v))]) 0 0 := by
  rcases hrv with rfl | ⟨r, st, ra, rn, rg, ri, rj, rfl, hTi, hTj, hn4, hg⟩
  · exact cc_weighRingsN l D cy hz zt o o_one o_oth o_which o_much o_drawn g_oone g_ooth q qf qf_c g_qf q_ca q_bo q_wd q_sk q_gust q_still q_rv g_qca g_qbo g_qwd g_qsk v v_c g_v x0 x1 x2 h_g_qf h_g_qbo h_g_v p0 p1 p2 p3 p4 p5
  · exact cc_weighRingsR l D cy hz zt o o_one o_oth o_which o_much o_drawn g_oone g_ooth q qf qf_c g_qf q_ca q_bo q_wd q_sk q_gust q_still q_rv g_qca g_qbo g_qwd g_qsk v v_c g_v x0 x1 x2 r st ra rn rg ri rj h_g_qf h_g_qbo h_g_v hTi hTj hn4 hg p0 p1 p2 p3 p4 p5
