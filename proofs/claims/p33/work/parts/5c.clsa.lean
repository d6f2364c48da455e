set_option maxHeartbeats 4000000 in
set_option maxRecDepth 100000 in
theorem cc_X10_scanNumber (l : Launch) (D : va_G) (cy : Nat → ClassId) (o : Nat) (o_by : Nat) (o_ki : Nat) (o_va : Nat) (o_pl : Nat) (o_len : Int32) (o_tok : Int32) (o_at : Int32) (o_kind : Int32) (o_value : Int32) (o_place : Int32) (o_fault : Int32) (g_oby : Nat → Int32) (g_oki : Nat → Int32) (g_ova : Nat → Int32) (g_opl : Nat → Int32) (x0 : Int32) (p0 : 0 ≤ o_len.toInt) (p1 : o_len.toInt ≤ 400) (p2 : 0 ≤ o_tok.toInt) (p3 : o_tok.toInt ≤ 401) (p4 : -1 ≤ o_at.toInt) (p5 : o_at.toInt ≤ 400) (p6 : TKV g_oki g_ova g_opl o_tok.toInt) (p7 : 0 ≤ x0.toInt) (p8 : x0.toInt ≤ o_len.toInt) : KI l yX10_scanNumber cX10_scanNumber 4 (some .int) 1 23 D (kTY cy) [.ref o, .int x0] [(o, .inr (10, [.ref o_by, .int o_len, .ref o_ki, .ref o_va, .ref o_pl, .int o_tok, .int o_at, .int o_kind, .int o_value, .int o_place, .int o_fault])), (o_by, .inl (cy 0, 400, .inl g_oby)), (o_ki, .inl (cy 0, 401, .inl g_oki)), (o_va, .inl (cy 0, 401, .inl g_ova)), (o_pl, .inl (cy 0, 401, .inl g_opl))] (S := Int32 × (Nat → Int32) × (Nat → Int32) × (Nat → Int32)) (fun r u => (x0.toInt ≤ r.toInt) ∧ (r.toInt ≤ o_len.toInt) ∧ (0 ≤ (u.1).toInt) ∧ ((u.1).toInt ≤ 401) ∧ (TKV (u.2.1) (u.2.2.1) (u.2.2.2) (u.1).toInt)) (fun u => [(o, .inr (10, [.ref o_by, .int o_len, .ref o_ki, .ref o_va, .ref o_pl, .int (u.1), .int o_at, .int o_kind, .int o_value, .int o_place, .int o_fault])), (o_by, .inl (cy 0, 400, .inl g_oby)), (o_ki, .inl (cy 0, 401, .inl (u.2.1))), (o_va, .inl (cy 0, 401, .inl (u.2.2.1))), (o_pl, .inl (cy 0, 401, .inl (u.2.2.2)))]) 0 0 := by
  refine KI.of (by decide) (Nat.le_of_ble_eq_true rfl) (fun p e s m below meth c ls A F hE hP hD hA hS hl => ?_)
  have F : kF p s m meth c cX10_scanNumber 4 (some .int) _ RX10 := F
  obtain ⟨hx, hb, hr, hml, hown, hG, hlk⟩ := id F
  have hl : lv_has ls 4 [(0, .ref o), (1, .int x0)] := hl
  refine lv_iload_n hx hb dX10_scanNumber_0 rfl (lv_at hl 1 rfl) ?_
  refine lv_istore_n (lv' := [(2, .int x0), (0, .ref o), (1, .int x0)]) hx hb dX10_scanNumber_1 rfl hl (by decide) rfl (fun ls hl => ?_)
  refine lv_iconst (v := 0) hx hb dX10_scanNumber_2 (by decide) ?_
  refine lv_istore_n (lv' := [(3, .int 0), (2, .int x0), (0, .ref o), (1, .int x0)]) hx hb dX10_scanNumber_3 rfl hl (by decide) rfl (fun ls hl => ?_)
  have lp4 : ∀ (fu : Nat) (v3_4 : Int32) (v2_4 : Int32) (H : Heap) (locs : List Loc) (ls : Array Slot), (x0.toInt ≤ v2_4.toInt) → (v2_4.toInt ≤ o_len.toInt) → (0 ≤ v3_4.toInt) → (v3_4.toInt ≤ 99999) → (v2_4.toInt - x0.toInt = 0 → v3_4.toInt ≤ 0) → (v2_4.toInt - x0.toInt = 1 → v3_4.toInt ≤ 9) → (v2_4.toInt - x0.toInt = 2 → v3_4.toInt ≤ 99) → (v2_4.toInt - x0.toInt = 3 → v3_4.toInt ≤ 999) → (v2_4.toInt - x0.toInt = 4 → v3_4.toInt ≤ 9999) → o_len.toInt - v2_4.toInt < (fu : Int) → va_P D vwCl [(o, .inr (10, [.ref o_by, .int o_len, .ref o_ki, .ref o_va, .ref o_pl, .int o_tok, .int o_at, .int o_kind, .int o_value, .int o_place, .int o_fault])), (o_by, .inl (cy 0, 400, .inl g_oby)), (o_ki, .inl (cy 0, 401, .inl g_oki)), (o_va, .inl (cy 0, 401, .inl g_ova)), (o_pl, .inl (cy 0, 401, .inl g_opl))] H → va_D A [(o, .inr (10, [.ref o_by, .int o_len, .ref o_ki, .ref o_va, .ref o_pl, .int o_tok, .int o_at, .int o_kind, .int o_value, .int o_place, .int o_fault])), (o_by, .inl (cy 0, 400, .inl g_oby)), (o_ki, .inl (cy 0, 401, .inl g_oki)), (o_va, .inl (cy 0, 401, .inl g_ova)), (o_pl, .inl (cy 0, 401, .inl g_opl))] → va_S A s.heap H locs → lv_has ls 4 [(3, .int v3_4), (2, .int v2_4), (0, .ref o), (1, .int x0)] → W p l e (kRm 1 23 0 0) s m ([.ref o, .int x0] : List Value).toArray below meth c H locs 0 0 (MQ below (va_Qi (S := Int32 × (Nat → Int32) × (Nat → Int32) × (Nat → Int32)) (fun r u => (x0.toInt ≤ r.toInt) ∧ (r.toInt ≤ o_len.toInt) ∧ (0 ≤ (u.1).toInt) ∧ ((u.1).toInt ≤ 401) ∧ (TKV (u.2.1) (u.2.2.1) (u.2.2.2) (u.1).toInt)) (kBw D A (fun u => [(o, .inr (10, [.ref o_by, .int o_len, .ref o_ki, .ref o_va, .ref o_pl, .int (u.1), .int o_at, .int o_kind, .int o_value, .int o_place, .int o_fault])), (o_by, .inl (cy 0, 400, .inl g_oby)), (o_ki, .inl (cy 0, 401, .inl (u.2.1))), (o_va, .inl (cy 0, 401, .inl (u.2.2.1))), (o_pl, .inl (cy 0, 401, .inl (u.2.2.2)))])) A) ([.ref o, .int x0] : List Value).toArray s 0 0 A) (F0 m 4 ls []) := by
    intro fu4
    induction fu4 with
    | zero =>
      intro v3_4 v2_4 H locs ls j0_4 j1_4 j2_4 j3_4 j4_4 j5_4 j6_4 j7_4 j8_4 hm4 hP hD hS hl
      exact absurd hm4 (by omega)
    | succ fu4 ih4 =>
      intro v3_4 v2_4 H locs ls j0_4 j1_4 j2_4 j3_4 j4_4 j5_4 j6_4 j7_4 j8_4 hm4 hP hD hS hl
      refine lv_iload_n hx hb dX10_scanNumber_4 rfl (lv_at hl 1 rfl) ?_
      refine lv_aload_n hx hb dX10_scanNumber_5 rfl (lv_at hl 2 rfl) ?_
      refine va_get (D := D) (ci := 10) (v := .int o_len) (C := RX10) (T := TX10) (N := 11) hx hb hG inG_X10 hown hE.1 hP 0 rfl rfl 1 (by decide) (hG _ q_f_X10_15) (fun _ h9 => h9) rfl dX10_scanNumber_6 ?_
      refine lv_icmp_ge (tgt := 48) hx hb dX10_scanNumber_9 (by decide) (fun c_1 => ?_) (fun c_1 => ?_)
      · have ic_1 : o_len.toInt ≤ v2_4.toInt := k_le c_1 rfl rfl
        refine lv_aload_n hx hb dX10_scanNumber_48 rfl (lv_at hl 2 rfl) ?_
        refine lv_iload_n hx hb dX10_scanNumber_49 rfl (lv_at hl 1 rfl) ?_
        refine lv_iload_n hx hb dX10_scanNumber_50 rfl (lv_at hl 3 rfl) ?_
        refine lv_isub hx hb dX10_scanNumber_51 ?_
        refine lv_topi (fun z_2 ez_2 => ?_)
        have iz_2 : z_2.toInt = v2_4.toInt - x0.toInt := k_subI ez_2 rfl rfl (by omega)
        refine lv_iconst (v := 5) hx hb dX10_scanNumber_52 (by decide) ?_
        refine lv_icmp_le (tgt := 60) hx hb dX10_scanNumber_53 (by decide) (fun c_3 => ?_) (fun c_3 => ?_)
        · have ic_3 : z_2.toInt ≤ 5 := k_le c_3 rfl (by decide)
          refine lv_iconst (v := 1) hx hb dX10_scanNumber_60 (by decide) ?_
          refine lv_iload_n hx hb dX10_scanNumber_61 rfl (lv_at hl 0 rfl) ?_
          refine lv_iload_n hx hb dX10_scanNumber_62 rfl (lv_at hl 3 rfl) ?_
          have lt32_3 : (1 : Int32).toInt = 1 := by decide
          refine kwVV (wr := []) (As := [.int 1, .int v3_4, .int x0]) (rest := []) F hE hP hD hS hA hl.1 (cc_X10_addToken l D cy (o := o) (x0 := 1) (x1 := v3_4) (x2 := x0) (o_by := o_by) (o_len := o_len) (o_ki := o_ki) (o_va := o_va) (o_pl := o_pl) (o_tok := o_tok) (o_at := o_at) (o_kind := o_kind) (o_value := o_value) (o_place := o_place) (o_fault := o_fault) (g_oby := g_oby) (g_oki := g_oki) (g_ova := g_ova) (g_opl := g_opl) (p0 := (by first | omega | assumption)) (p1 := (by first | omega | assumption)) (p2 := (by first | omega | assumption)) (p3 := (by first | omega | assumption)) (p4 := (by first | omega | assumption)) (p5 := (by first | omega | assumption)) (p6 := (by first | omega | assumption)) (p7 := (by first | omega | assumption))) q_m_X10_50 mv_X10_addToken ⟨(Nat.le_of_ble_eq_true rfl), (Nat.le_of_ble_eq_true rfl)⟩ [0, 1, 2, 3, 4] [] (by decide) rfl rfl (by decide) (by decide) rfl rfl rfl rfl rfl (Nat.le_of_ble_eq_true rfl) ⟨(Nat.le_of_ble_eq_true rfl), (Nat.le_of_ble_eq_true rfl)⟩ dX10_scanNumber_63 (fun u_5 H locs eu_5 hP hD hS => ?_)
          obtain ⟨o_tok_6, g_oki_7, g_ova_8, g_opl_9⟩ := u_5
          have eu_5 : (0 ≤ o_tok_6.toInt) ∧ (o_tok_6.toInt ≤ 401) ∧ (TKV g_oki_7 g_ova_8 g_opl_9 o_tok_6.toInt) := eu_5
          obtain ⟨eu_5a, eu_5b, eu_5c⟩ := eu_5
          have hP : va_P D vwCl [(o, .inr (10, [.ref o_by, .int o_len, .ref o_ki, .ref o_va, .ref o_pl, .int o_tok_6, .int o_at, .int o_kind, .int o_value, .int o_place, .int o_fault])), (o_by, .inl (cy 0, 400, .inl g_oby)), (o_ki, .inl (cy 0, 401, .inl g_oki_7)), (o_va, .inl (cy 0, 401, .inl g_ova_8)), (o_pl, .inl (cy 0, 401, .inl g_opl_9))] H := hP
          have hD : va_D A [(o, .inr (10, [.ref o_by, .int o_len, .ref o_ki, .ref o_va, .ref o_pl, .int o_tok_6, .int o_at, .int o_kind, .int o_value, .int o_place, .int o_fault])), (o_by, .inl (cy 0, 400, .inl g_oby)), (o_ki, .inl (cy 0, 401, .inl g_oki_7)), (o_va, .inl (cy 0, 401, .inl g_ova_8)), (o_pl, .inl (cy 0, 401, .inl g_opl_9))] := hD
          refine lv_iload_n hx hb dX10_scanNumber_66 rfl (lv_at hl 1 rfl) ?_
          exact KI.rt ⟨o_tok_6, g_oki_7, g_ova_8, g_opl_9⟩ F rfl (hP.sub [0, 1, 2, 3, 4] rfl) (hD.sub [0, 1, 2, 3, 4] (by decide) rfl) hS (show (x0.toInt ≤ v2_4.toInt) ∧ (v2_4.toInt ≤ o_len.toInt) ∧ (0 ≤ o_tok_6.toInt) ∧ (o_tok_6.toInt ≤ 401) ∧ (TKV g_oki_7 g_ova_8 g_opl_9 o_tok_6.toInt) from ⟨(by first | omega | assumption), (by first | omega | assumption), (by first | omega | assumption), (by first | omega | assumption), (by first | omega | assumption)⟩) (Nat.le_of_ble_eq_true rfl) (Nat.le_of_ble_eq_true rfl) dX10_scanNumber_67
        · have ic_3 : 5 < z_2.toInt := k_nle c_3 rfl (by decide)
          refine lv_iconst (v := 2) hx hb dX10_scanNumber_56 (by decide) ?_
          refine lv_goto (tgt := 61) hx hb dX10_scanNumber_57 (by decide) ?_
          refine lv_iload_n hx hb dX10_scanNumber_61 rfl (lv_at hl 0 rfl) ?_
          refine lv_iload_n hx hb dX10_scanNumber_62 rfl (lv_at hl 3 rfl) ?_
          have lt32_9 : (2 : Int32).toInt = 2 := by decide
          refine kwVV (wr := []) (As := [.int 2, .int v3_4, .int x0]) (rest := []) F hE hP hD hS hA hl.1 (cc_X10_addToken l D cy (o := o) (x0 := 2) (x1 := v3_4) (x2 := x0) (o_by := o_by) (o_len := o_len) (o_ki := o_ki) (o_va := o_va) (o_pl := o_pl) (o_tok := o_tok) (o_at := o_at) (o_kind := o_kind) (o_value := o_value) (o_place := o_place) (o_fault := o_fault) (g_oby := g_oby) (g_oki := g_oki) (g_ova := g_ova) (g_opl := g_opl) (p0 := (by first | omega | assumption)) (p1 := (by first | omega | assumption)) (p2 := (by first | omega | assumption)) (p3 := (by first | omega | assumption)) (p4 := (by first | omega | assumption)) (p5 := (by first | omega | assumption)) (p6 := (by first | omega | assumption)) (p7 := (by first | omega | assumption))) q_m_X10_50 mv_X10_addToken ⟨(Nat.le_of_ble_eq_true rfl), (Nat.le_of_ble_eq_true rfl)⟩ [0, 1, 2, 3, 4] [] (by decide) rfl rfl (by decide) (by decide) rfl rfl rfl rfl rfl (Nat.le_of_ble_eq_true rfl) ⟨(Nat.le_of_ble_eq_true rfl), (Nat.le_of_ble_eq_true rfl)⟩ dX10_scanNumber_63 (fun u_11 H locs eu_11 hP hD hS => ?_)
          obtain ⟨o_tok_12, g_oki_13, g_ova_14, g_opl_15⟩ := u_11
          have eu_11 : (0 ≤ o_tok_12.toInt) ∧ (o_tok_12.toInt ≤ 401) ∧ (TKV g_oki_13 g_ova_14 g_opl_15 o_tok_12.toInt) := eu_11
          obtain ⟨eu_11a, eu_11b, eu_11c⟩ := eu_11
          have hP : va_P D vwCl [(o, .inr (10, [.ref o_by, .int o_len, .ref o_ki, .ref o_va, .ref o_pl, .int o_tok_12, .int o_at, .int o_kind, .int o_value, .int o_place, .int o_fault])), (o_by, .inl (cy 0, 400, .inl g_oby)), (o_ki, .inl (cy 0, 401, .inl g_oki_13)), (o_va, .inl (cy 0, 401, .inl g_ova_14)), (o_pl, .inl (cy 0, 401, .inl g_opl_15))] H := hP
          have hD : va_D A [(o, .inr (10, [.ref o_by, .int o_len, .ref o_ki, .ref o_va, .ref o_pl, .int o_tok_12, .int o_at, .int o_kind, .int o_value, .int o_place, .int o_fault])), (o_by, .inl (cy 0, 400, .inl g_oby)), (o_ki, .inl (cy 0, 401, .inl g_oki_13)), (o_va, .inl (cy 0, 401, .inl g_ova_14)), (o_pl, .inl (cy 0, 401, .inl g_opl_15))] := hD
          refine lv_iload_n hx hb dX10_scanNumber_66 rfl (lv_at hl 1 rfl) ?_
          exact KI.rt ⟨o_tok_12, g_oki_13, g_ova_14, g_opl_15⟩ F rfl (hP.sub [0, 1, 2, 3, 4] rfl) (hD.sub [0, 1, 2, 3, 4] (by decide) rfl) hS (show (x0.toInt ≤ v2_4.toInt) ∧ (v2_4.toInt ≤ o_len.toInt) ∧ (0 ≤ o_tok_12.toInt) ∧ (o_tok_12.toInt ≤ 401) ∧ (TKV g_oki_13 g_ova_14 g_opl_15 o_tok_12.toInt) from ⟨(by first | omega | assumption), (by first | omega | assumption), (by first | omega | assumption), (by first | omega | assumption), (by first | omega | assumption)⟩) (Nat.le_of_ble_eq_true rfl) (Nat.le_of_ble_eq_true rfl) dX10_scanNumber_67
      · have ic_1 : v2_4.toInt < o_len.toInt := k_nle c_1 rfl rfl
        refine lv_aload_n hx hb dX10_scanNumber_12 rfl (lv_at hl 2 rfl) ?_
        refine lv_iload_n hx hb dX10_scanNumber_13 rfl (lv_at hl 1 rfl) ?_
        refine kcV (As := [.int v2_4]) (rest := []) F hE hP hl.1 (cc_X10_isDigit l D cy (o := o) (x0 := v2_4) (o_by := o_by) (o_len := o_len) (o_ki := o_ki) (o_va := o_va) (o_pl := o_pl) (o_tok := o_tok) (o_at := o_at) (o_kind := o_kind) (o_value := o_value) (o_place := o_place) (o_fault := o_fault) (g_oby := g_oby) (p0 := (by first | omega | assumption)) (p1 := (by first | omega | assumption))) q_m_X10_65 mv_X10_isDigit ⟨(Nat.le_of_ble_eq_true rfl), (Nat.le_of_ble_eq_true rfl)⟩ [0, 1] rfl rfl rfl rfl rfl rfl (Nat.le_of_ble_eq_true rfl) ⟨(Nat.le_of_ble_eq_true rfl), (Nat.le_of_ble_eq_true rfl)⟩ dX10_scanNumber_14 (fun r_16 er_16 => ?_)
        have er_16 : (r_16.toInt = 0 ∨ r_16.toInt = 1) ∧ ((r_16.toInt ≠ 0 → 48 ≤ (g_oby (Int32.toNatClampNeg v2_4)).toInt ∧ (g_oby (Int32.toNatClampNeg v2_4)).toInt ≤ 57)) := er_16
        obtain ⟨er_16a, er_16b⟩ := er_16
        refine lv_if_eq (tgt := 48) hx hb dX10_scanNumber_17 (by decide) (fun c_17 => ?_) (fun c_17 => ?_)
        · have ic_17 : r_16.toInt = 0 := k_eq c_17 rfl (by decide)
          clear er_16b er_16a
          refine lv_aload_n hx hb dX10_scanNumber_48 rfl (lv_at hl 2 rfl) ?_
          refine lv_iload_n hx hb dX10_scanNumber_49 rfl (lv_at hl 1 rfl) ?_
          refine lv_iload_n hx hb dX10_scanNumber_50 rfl (lv_at hl 3 rfl) ?_
          refine lv_isub hx hb dX10_scanNumber_51 ?_
          refine lv_topi (fun z_18 ez_18 => ?_)
          have iz_18 : z_18.toInt = v2_4.toInt - x0.toInt := k_subI ez_18 rfl rfl (by omega)
          refine lv_iconst (v := 5) hx hb dX10_scanNumber_52 (by decide) ?_
          refine lv_icmp_le (tgt := 60) hx hb dX10_scanNumber_53 (by decide) (fun c_19 => ?_) (fun c_19 => ?_)
          · have ic_19 : z_18.toInt ≤ 5 := k_le c_19 rfl (by decide)
            refine lv_iconst (v := 1) hx hb dX10_scanNumber_60 (by decide) ?_
            refine lv_iload_n hx hb dX10_scanNumber_61 rfl (lv_at hl 0 rfl) ?_
            refine lv_iload_n hx hb dX10_scanNumber_62 rfl (lv_at hl 3 rfl) ?_
            have lt32_19 : (1 : Int32).toInt = 1 := by decide
            refine kwVV (wr := []) (As := [.int 1, .int v3_4, .int x0]) (rest := []) F hE hP hD hS hA hl.1 (cc_X10_addToken l D cy (o := o) (x0 := 1) (x1 := v3_4) (x2 := x0) (o_by := o_by) (o_len := o_len) (o_ki := o_ki) (o_va := o_va) (o_pl := o_pl) (o_tok := o_tok) (o_at := o_at) (o_kind := o_kind) (o_value := o_value) (o_place := o_place) (o_fault := o_fault) (g_oby := g_oby) (g_oki := g_oki) (g_ova := g_ova) (g_opl := g_opl) (p0 := (by first | omega | assumption)) (p1 := (by first | omega | assumption)) (p2 := (by first | omega | assumption)) (p3 := (by first | omega | assumption)) (p4 := (by first | omega | assumption)) (p5 := (by first | omega | assumption)) (p6 := (by first | omega | assumption)) (p7 := (by first | omega | assumption))) q_m_X10_50 mv_X10_addToken ⟨(Nat.le_of_ble_eq_true rfl), (Nat.le_of_ble_eq_true rfl)⟩ [0, 1, 2, 3, 4] [] (by decide) rfl rfl (by decide) (by decide) rfl rfl rfl rfl rfl (Nat.le_of_ble_eq_true rfl) ⟨(Nat.le_of_ble_eq_true rfl), (Nat.le_of_ble_eq_true rfl)⟩ dX10_scanNumber_63 (fun u_21 H locs eu_21 hP hD hS => ?_)
            obtain ⟨o_tok_22, g_oki_23, g_ova_24, g_opl_25⟩ := u_21
            have eu_21 : (0 ≤ o_tok_22.toInt) ∧ (o_tok_22.toInt ≤ 401) ∧ (TKV g_oki_23 g_ova_24 g_opl_25 o_tok_22.toInt) := eu_21
            obtain ⟨eu_21a, eu_21b, eu_21c⟩ := eu_21
            have hP : va_P D vwCl [(o, .inr (10, [.ref o_by, .int o_len, .ref o_ki, .ref o_va, .ref o_pl, .int o_tok_22, .int o_at, .int o_kind, .int o_value, .int o_place, .int o_fault])), (o_by, .inl (cy 0, 400, .inl g_oby)), (o_ki, .inl (cy 0, 401, .inl g_oki_23)), (o_va, .inl (cy 0, 401, .inl g_ova_24)), (o_pl, .inl (cy 0, 401, .inl g_opl_25))] H := hP
            have hD : va_D A [(o, .inr (10, [.ref o_by, .int o_len, .ref o_ki, .ref o_va, .ref o_pl, .int o_tok_22, .int o_at, .int o_kind, .int o_value, .int o_place, .int o_fault])), (o_by, .inl (cy 0, 400, .inl g_oby)), (o_ki, .inl (cy 0, 401, .inl g_oki_23)), (o_va, .inl (cy 0, 401, .inl g_ova_24)), (o_pl, .inl (cy 0, 401, .inl g_opl_25))] := hD
            refine lv_iload_n hx hb dX10_scanNumber_66 rfl (lv_at hl 1 rfl) ?_
            exact KI.rt ⟨o_tok_22, g_oki_23, g_ova_24, g_opl_25⟩ F rfl (hP.sub [0, 1, 2, 3, 4] rfl) (hD.sub [0, 1, 2, 3, 4] (by decide) rfl) hS (show (x0.toInt ≤ v2_4.toInt) ∧ (v2_4.toInt ≤ o_len.toInt) ∧ (0 ≤ o_tok_22.toInt) ∧ (o_tok_22.toInt ≤ 401) ∧ (TKV g_oki_23 g_ova_24 g_opl_25 o_tok_22.toInt) from ⟨(by first | omega | assumption), (by first | omega | assumption), (by first | omega | assumption), (by first | omega | assumption), (by first | omega | assumption)⟩) (Nat.le_of_ble_eq_true rfl) (Nat.le_of_ble_eq_true rfl) dX10_scanNumber_67
          · have ic_19 : 5 < z_18.toInt := k_nle c_19 rfl (by decide)
            refine lv_iconst (v := 2) hx hb dX10_scanNumber_56 (by decide) ?_
            refine lv_goto (tgt := 61) hx hb dX10_scanNumber_57 (by decide) ?_
            refine lv_iload_n hx hb dX10_scanNumber_61 rfl (lv_at hl 0 rfl) ?_
            refine lv_iload_n hx hb dX10_scanNumber_62 rfl (lv_at hl 3 rfl) ?_
            have lt32_25 : (2 : Int32).toInt = 2 := by decide
            refine kwVV (wr := []) (As := [.int 2, .int v3_4, .int x0]) (rest := []) F hE hP hD hS hA hl.1 (cc_X10_addToken l D cy (o := o) (x0 := 2) (x1 := v3_4) (x2 := x0) (o_by := o_by) (o_len := o_len) (o_ki := o_ki) (o_va := o_va) (o_pl := o_pl) (o_tok := o_tok) (o_at := o_at) (o_kind := o_kind) (o_value := o_value) (o_place := o_place) (o_fault := o_fault) (g_oby := g_oby) (g_oki := g_oki) (g_ova := g_ova) (g_opl := g_opl) (p0 := (by first | omega | assumption)) (p1 := (by first | omega | assumption)) (p2 := (by first | omega | assumption)) (p3 := (by first | omega | assumption)) (p4 := (by first | omega | assumption)) (p5 := (by first | omega | assumption)) (p6 := (by first | omega | assumption)) (p7 := (by first | omega | assumption))) q_m_X10_50 mv_X10_addToken ⟨(Nat.le_of_ble_eq_true rfl), (Nat.le_of_ble_eq_true rfl)⟩ [0, 1, 2, 3, 4] [] (by decide) rfl rfl (by decide) (by decide) rfl rfl rfl rfl rfl (Nat.le_of_ble_eq_true rfl) ⟨(Nat.le_of_ble_eq_true rfl), (Nat.le_of_ble_eq_true rfl)⟩ dX10_scanNumber_63 (fun u_27 H locs eu_27 hP hD hS => ?_)
            obtain ⟨o_tok_28, g_oki_29, g_ova_30, g_opl_31⟩ := u_27
            have eu_27 : (0 ≤ o_tok_28.toInt) ∧ (o_tok_28.toInt ≤ 401) ∧ (TKV g_oki_29 g_ova_30 g_opl_31 o_tok_28.toInt) := eu_27
            obtain ⟨eu_27a, eu_27b, eu_27c⟩ := eu_27
            have hP : va_P D vwCl [(o, .inr (10, [.ref o_by, .int o_len, .ref o_ki, .ref o_va, .ref o_pl, .int o_tok_28, .int o_at, .int o_kind, .int o_value, .int o_place, .int o_fault])), (o_by, .inl (cy 0, 400, .inl g_oby)), (o_ki, .inl (cy 0, 401, .inl g_oki_29)), (o_va, .inl (cy 0, 401, .inl g_ova_30)), (o_pl, .inl (cy 0, 401, .inl g_opl_31))] H := hP
            have hD : va_D A [(o, .inr (10, [.ref o_by, .int o_len, .ref o_ki, .ref o_va, .ref o_pl, .int o_tok_28, .int o_at, .int o_kind, .int o_value, .int o_place, .int o_fault])), (o_by, .inl (cy 0, 400, .inl g_oby)), (o_ki, .inl (cy 0, 401, .inl g_oki_29)), (o_va, .inl (cy 0, 401, .inl g_ova_30)), (o_pl, .inl (cy 0, 401, .inl g_opl_31))] := hD
            refine lv_iload_n hx hb dX10_scanNumber_66 rfl (lv_at hl 1 rfl) ?_
            exact KI.rt ⟨o_tok_28, g_oki_29, g_ova_30, g_opl_31⟩ F rfl (hP.sub [0, 1, 2, 3, 4] rfl) (hD.sub [0, 1, 2, 3, 4] (by decide) rfl) hS (show (x0.toInt ≤ v2_4.toInt) ∧ (v2_4.toInt ≤ o_len.toInt) ∧ (0 ≤ o_tok_28.toInt) ∧ (o_tok_28.toInt ≤ 401) ∧ (TKV g_oki_29 g_ova_30 g_opl_31 o_tok_28.toInt) from ⟨(by first | omega | assumption), (by first | omega | assumption), (by first | omega | assumption), (by first | omega | assumption), (by first | omega | assumption)⟩) (Nat.le_of_ble_eq_true rfl) (Nat.le_of_ble_eq_true rfl) dX10_scanNumber_67
        · have ic_17 : r_16.toInt ≠ 0 := k_ne c_17 rfl (by decide)
          have fc_17 := er_16b ic_17
          clear er_16b er_16a
          obtain ⟨fc_17a, fc_17b⟩ := fc_17
          refine lv_iload_n hx hb dX10_scanNumber_20 rfl (lv_at hl 1 rfl) ?_
          refine lv_iload_n hx hb dX10_scanNumber_21 rfl (lv_at hl 3 rfl) ?_
          refine lv_isub hx hb dX10_scanNumber_22 ?_
          refine lv_topi (fun z_32 ez_32 => ?_)
          have iz_32 : z_32.toInt = v2_4.toInt - x0.toInt := k_subI ez_32 rfl rfl (by omega)
          refine lv_iconst (v := 5) hx hb dX10_scanNumber_23 (by decide) ?_
          refine lv_icmp_ge (tgt := 42) hx hb dX10_scanNumber_24 (by decide) (fun c_33 => ?_) (fun c_33 => ?_)
          · have ic_33 : 5 ≤ z_32.toInt := k_le c_33 (by decide) rfl
            obtain ⟨z_34, ez_34⟩ : ∃ y : Int32, y = v2_4 + Int32.ofInt 1 := ⟨_, rfl⟩
            have iz_34 : z_34.toInt = v2_4.toInt + 1 := k_addI ez_34 rfl (by decide) (by omega)
            refine lv_iinc (v := z_34) (lv' := [(2, .int z_34), (3, .int v3_4), (0, .ref o), (1, .int x0)]) hx hb dX10_scanNumber_42 hl (k := 1) rfl ez_34.symm (by decide) rfl (fun ls hl => ?_)
            refine lv_goto (tgt := 4) hx hb dX10_scanNumber_45 (by decide) ?_
            exact ih4 v3_4 z_34 _ _ ls (by first | omega | assumption) (by first | omega | assumption) (by first | omega | assumption) (by first | omega | assumption) (by first | omega | assumption) (by first | omega | assumption) (by first | omega | assumption) (by first | omega | assumption) (by first | omega | assumption) (by omega) hP hD hS (lv_sub hl [1, 0, 2, 3] rfl)
          · have ic_33 : z_32.toInt < 5 := k_nle c_33 (by decide) rfl
            refine lv_iload_n hx hb dX10_scanNumber_27 rfl (lv_at hl 0 rfl) ?_
            refine lv_bipush (v := 10) hx hb dX10_scanNumber_28 (by decide) ?_
            refine lv_imul hx hb dX10_scanNumber_30 ?_
            refine lv_topi (fun z_35 ez_35 => ?_)
            have iz_35 : z_35.toInt = v3_4.toInt * 10 := k_mulI ez_35 rfl (by decide) (by omega)
            refine lv_aload_n hx hb dX10_scanNumber_31 rfl (lv_at hl 2 rfl) ?_
            refine va_get (D := D) (ci := 10) (v := .ref o_by) (C := RX10) (T := TX10) (N := 11) hx hb hG inG_X10 hown hE.1 hP 0 rfl rfl 0 (by decide) (hG _ q_f_X10_11) (fun _ h9 => h9) rfl dX10_scanNumber_32 ?_
            refine lv_iload_n hx hb dX10_scanNumber_35 rfl (lv_at hl 1 rfl) ?_
            refine va_iald hx hb hE.1 hP 1 0 rfl rfl (k_in (by omega)) dX10_scanNumber_36 ?_
            refine k_top (z := (g_oby (Int32.toNatClampNeg v2_4))) rfl ?_
            refine lv_iadd hx hb dX10_scanNumber_37 ?_
            refine lv_topi (fun z_36 ez_36 => ?_)
            have iz_36 : z_36.toInt = z_35.toInt + (g_oby (Int32.toNatClampNeg v2_4)).toInt := k_addI ez_36 rfl rfl (by omega)
            refine lv_bipush (v := 48) hx hb dX10_scanNumber_38 (by decide) ?_
            refine lv_isub hx hb dX10_scanNumber_40 ?_
            refine lv_topi (fun z_37 ez_37 => ?_)
            have iz_37 : z_37.toInt = z_36.toInt - 48 := k_subI ez_37 rfl (by decide) (by omega)
            refine lv_istore_n (lv' := [(3, .int z_37), (2, .int v2_4), (0, .ref o), (1, .int x0)]) hx hb dX10_scanNumber_41 rfl hl (by decide) rfl (fun ls hl => ?_)
            obtain ⟨z_38, ez_38⟩ : ∃ y : Int32, y = v2_4 + Int32.ofInt 1 := ⟨_, rfl⟩
            have iz_38 : z_38.toInt = v2_4.toInt + 1 := k_addI ez_38 rfl (by decide) (by omega)
            refine lv_iinc (v := z_38) (lv' := [(2, .int z_38), (3, .int z_37), (0, .ref o), (1, .int x0)]) hx hb dX10_scanNumber_42 hl (k := 1) rfl ez_38.symm (by decide) rfl (fun ls hl => ?_)
            refine lv_goto (tgt := 4) hx hb dX10_scanNumber_45 (by decide) ?_
            exact ih4 z_37 z_38 _ _ ls (by first | omega | assumption) (by first | omega | assumption) (by first | omega | assumption) (by first | omega | assumption) (by first | omega | assumption) (by first | omega | assumption) (by first | omega | assumption) (by first | omega | assumption) (by first | omega | assumption) (by omega) hP hD hS (lv_sub hl [1, 0, 2, 3] rfl)
  have lt_39 : (0 : Int32).toInt = 0 := by decide
  exact lp4 100000 0 x0 _ _ ls (by first | omega | assumption) (by first | omega | assumption) (by first | omega | assumption) (by first | omega | assumption) (by first | omega | assumption) (by first | omega | assumption) (by first | omega | assumption) (by first | omega | assumption) (by first | omega | assumption) (by omega) hP hD hS hl

set_option maxHeartbeats 4000000 in
set_option maxRecDepth 100000 in
theorem cc_comparisonOf (l : Launch) (D : va_G) (cy : Nat → ClassId) (q : Nat) (q_by : Nat) (q_ki : Nat) (q_va : Nat) (q_pl : Nat) (q_len : Int32) (q_tok : Int32) (q_at : Int32) (q_kind : Int32) (q_value : Int32) (q_place : Int32) (q_fault : Int32)  : KP l yX8_comparisonOf cX8_comparisonOf 1 (some .int) 0 0 D (kTY cy) [.ref q] [(q, .inr (10, [.ref q_by, .int q_len, .ref q_ki, .ref q_va, .ref q_pl, .int q_tok, .int q_at, .int q_kind, .int q_value, .int q_place, .int q_fault]))] (fun r => (r.toInt = -1 ∨ (10 ≤ r.toInt ∧ r.toInt ≤ 14))) := by
  refine KP.of (by decide) (Nat.le_of_ble_eq_true rfl) (fun p e s m below meth c ls F hE hP hl => ?_)
  have F : kF p s m meth c cX8_comparisonOf 1 (some .int) _ RX8 := F
  obtain ⟨hx, hb, hr, hml, hown, hG, hlk⟩ := id F
  have hl : lv_has ls 1 [(0, .ref q)] := hl
  refine lv_aload_n hx hb dX8_comparisonOf_0 rfl (lv_at hl 0 rfl) ?_
  refine va_get (D := D) (ci := 10) (v := .int q_kind) (C := RX10) (T := TX10) (N := 11) hx hb hG inG_X10 hown hE.1 hP 0 rfl rfl 7 (by decide) (hG _ q_f_X8_86) (fun _ h9 => h9) rfl dX8_comparisonOf_1 ?_
  refine lv_iconst (v := 4) hx hb dX8_comparisonOf_4 (by decide) ?_
  refine lv_icmp_eq (tgt := 10) hx hb dX8_comparisonOf_5 (by decide) (fun c_1 => ?_) (fun c_1 => ?_)
  · have ic_1 : q_kind.toInt = 4 := k_eq c_1 rfl (by decide)
    refine lv_aload_n hx hb dX8_comparisonOf_10 rfl (lv_at hl 0 rfl) ?_
    refine va_get (D := D) (ci := 10) (v := .int q_value) (C := RX10) (T := TX10) (N := 11) hx hb hG inG_X10 hown hE.1 hP 0 rfl rfl 8 (by decide) (hG _ q_f_X8_89) (fun _ h9 => h9) rfl dX8_comparisonOf_11 ?_
    by_cases c_2 : q_value.toInt = 60
    · refine lv_lookup (off := 50) (tgt := 64) hx hb dX8_comparisonOf_14 (by decide) (by rw [c_2]; decide) (by decide) ?_
      refine lv_bipush (v := 10) hx hb dX8_comparisonOf_64 (by decide) ?_
      have lit0 : (10 : Int32).toInt = 10 := by decide
      exact KP.rt F rfl (show ((10 : Int32).toInt = -1 ∨ (10 ≤ (10 : Int32).toInt ∧ (10 : Int32).toInt ≤ 14)) from (by first | omega | assumption)) dX8_comparisonOf_66
    by_cases c_3 : q_value.toInt = 61
    · refine lv_lookup (off := 56) (tgt := 70) hx hb dX8_comparisonOf_14 (by decide) (by rw [c_3]; decide) (by decide) ?_
      refine lv_bipush (v := 12) hx hb dX8_comparisonOf_70 (by decide) ?_
      have lit0 : (12 : Int32).toInt = 12 := by decide
      exact KP.rt F rfl (show ((12 : Int32).toInt = -1 ∨ (10 ≤ (12 : Int32).toInt ∧ (12 : Int32).toInt ≤ 14)) from (by first | omega | assumption)) dX8_comparisonOf_72
    by_cases c_4 : q_value.toInt = 62
    · refine lv_lookup (off := 62) (tgt := 76) hx hb dX8_comparisonOf_14 (by decide) (by rw [c_4]; decide) (by decide) ?_
      refine lv_bipush (v := 14) hx hb dX8_comparisonOf_76 (by decide) ?_
      have lit0 : (14 : Int32).toInt = 14 := by decide
      exact KP.rt F rfl (show ((14 : Int32).toInt = -1 ∨ (10 ≤ (14 : Int32).toInt ∧ (14 : Int32).toInt ≤ 14)) from (by first | omega | assumption)) dX8_comparisonOf_78
    by_cases c_5 : q_value.toInt = 316
    · refine lv_lookup (off := 53) (tgt := 67) hx hb dX8_comparisonOf_14 (by decide) (by rw [c_5]; decide) (by decide) ?_
      refine lv_bipush (v := 11) hx hb dX8_comparisonOf_67 (by decide) ?_
      have lit0 : (11 : Int32).toInt = 11 := by decide
      exact KP.rt F rfl (show ((11 : Int32).toInt = -1 ∨ (10 ≤ (11 : Int32).toInt ∧ (11 : Int32).toInt ≤ 14)) from (by first | omega | assumption)) dX8_comparisonOf_69
    by_cases c_6 : q_value.toInt = 318
    · refine lv_lookup (off := 59) (tgt := 73) hx hb dX8_comparisonOf_14 (by decide) (by rw [c_6]; decide) (by decide) ?_
      refine lv_bipush (v := 13) hx hb dX8_comparisonOf_73 (by decide) ?_
      have lit0 : (13 : Int32).toInt = 13 := by decide
      exact KP.rt F rfl (show ((13 : Int32).toInt = -1 ∨ (10 ≤ (13 : Int32).toInt ∧ (13 : Int32).toInt ≤ 14)) from (by first | omega | assumption)) dX8_comparisonOf_75
    refine lv_lookup (off := 65) (tgt := 79) hx hb dX8_comparisonOf_14 (by decide) (by simp [Op.lookupswitch.offset]; omega) (by decide) ?_
    refine lv_iconst (v := (-1)) hx hb dX8_comparisonOf_79 (by decide) ?_
    have lit0 : ((-1) : Int32).toInt = (-1) := by decide
    exact KP.rt F rfl (show (((-1) : Int32).toInt = -1 ∨ (10 ≤ ((-1) : Int32).toInt ∧ ((-1) : Int32).toInt ≤ 14)) from (by first | omega | assumption)) dX8_comparisonOf_80
  · have ic_1 : q_kind.toInt ≠ 4 := k_ne c_1 rfl (by decide)
    refine lv_iconst (v := (-1)) hx hb dX8_comparisonOf_8 (by decide) ?_
    have lit0 : ((-1) : Int32).toInt = (-1) := by decide
    exact KP.rt F rfl (show (((-1) : Int32).toInt = -1 ∨ (10 ≤ ((-1) : Int32).toInt ∧ ((-1) : Int32).toInt ≤ 14)) from (by first | omega | assumption)) dX8_comparisonOf_9

set_option maxHeartbeats 4000000 in
set_option maxRecDepth 100000 in
theorem cc_reckoningOf (l : Launch) (D : va_G) (cy : Nat → ClassId) (q : Nat) (q_by : Nat) (q_ki : Nat) (q_va : Nat) (q_pl : Nat) (q_len : Int32) (q_tok : Int32) (q_at : Int32) (q_kind : Int32) (q_value : Int32) (q_place : Int32) (q_fault : Int32)  : KP l yX8_reckoningOf cX8_reckoningOf 1 (some .int) 0 0 D (kTY cy) [.ref q] [(q, .inr (10, [.ref q_by, .int q_len, .ref q_ki, .ref q_va, .ref q_pl, .int q_tok, .int q_at, .int q_kind, .int q_value, .int q_place, .int q_fault]))] (fun r => (r.toInt = -1 ∨ (5 ≤ r.toInt ∧ r.toInt ≤ 9))) := by
  refine KP.of (by decide) (Nat.le_of_ble_eq_true rfl) (fun p e s m below meth c ls F hE hP hl => ?_)
  have F : kF p s m meth c cX8_reckoningOf 1 (some .int) _ RX8 := F
  obtain ⟨hx, hb, hr, hml, hown, hG, hlk⟩ := id F
  have hl : lv_has ls 1 [(0, .ref q)] := hl
  refine lv_aload_n hx hb dX8_reckoningOf_0 rfl (lv_at hl 0 rfl) ?_
  refine va_get (D := D) (ci := 10) (v := .int q_kind) (C := RX10) (T := TX10) (N := 11) hx hb hG inG_X10 hown hE.1 hP 0 rfl rfl 7 (by decide) (hG _ q_f_X8_86) (fun _ h9 => h9) rfl dX8_reckoningOf_1 ?_
  refine lv_iconst (v := 4) hx hb dX8_reckoningOf_4 (by decide) ?_
  refine lv_icmp_eq (tgt := 10) hx hb dX8_reckoningOf_5 (by decide) (fun c_1 => ?_) (fun c_1 => ?_)
  · have ic_1 : q_kind.toInt = 4 := k_eq c_1 rfl (by decide)
    refine lv_aload_n hx hb dX8_reckoningOf_10 rfl (lv_at hl 0 rfl) ?_
    refine va_get (D := D) (ci := 10) (v := .int q_value) (C := RX10) (T := TX10) (N := 11) hx hb hG inG_X10 hown hE.1 hP 0 rfl rfl 8 (by decide) (hG _ q_f_X8_89) (fun _ h9 => h9) rfl dX8_reckoningOf_11 ?_
    by_cases c_2 : q_value.toInt = 37
    · refine lv_tableIn (off := 69) (tgt := 83) hx hb dX8_reckoningOf_14 (by omega) (by omega) (by rw [c_2]; rfl) (by decide) ?_
      refine lv_bipush (v := 9) hx hb dX8_reckoningOf_83 (by decide) ?_
      have lit0 : (9 : Int32).toInt = 9 := by decide
      exact KP.rt F rfl (show ((9 : Int32).toInt = -1 ∨ (5 ≤ (9 : Int32).toInt ∧ (9 : Int32).toInt ≤ 9)) from (by first | omega | assumption)) dX8_reckoningOf_85
    by_cases c_3 : q_value.toInt = 38
    · refine lv_tableIn (off := 72) (tgt := 86) hx hb dX8_reckoningOf_14 (by omega) (by omega) (by rw [c_3]; rfl) (by decide) ?_
      refine lv_iconst (v := (-1)) hx hb dX8_reckoningOf_86 (by decide) ?_
      have lit0 : ((-1) : Int32).toInt = (-1) := by decide
      exact KP.rt F rfl (show (((-1) : Int32).toInt = -1 ∨ (5 ≤ ((-1) : Int32).toInt ∧ ((-1) : Int32).toInt ≤ 9)) from (by first | omega | assumption)) dX8_reckoningOf_87
    by_cases c_4 : q_value.toInt = 39
    · refine lv_tableIn (off := 72) (tgt := 86) hx hb dX8_reckoningOf_14 (by omega) (by omega) (by rw [c_4]; rfl) (by decide) ?_
      refine lv_iconst (v := (-1)) hx hb dX8_reckoningOf_86 (by decide) ?_
      have lit0 : ((-1) : Int32).toInt = (-1) := by decide
      exact KP.rt F rfl (show (((-1) : Int32).toInt = -1 ∨ (5 ≤ ((-1) : Int32).toInt ∧ ((-1) : Int32).toInt ≤ 9)) from (by first | omega | assumption)) dX8_reckoningOf_87
    by_cases c_5 : q_value.toInt = 40
    · refine lv_tableIn (off := 72) (tgt := 86) hx hb dX8_reckoningOf_14 (by omega) (by omega) (by rw [c_5]; rfl) (by decide) ?_
      refine lv_iconst (v := (-1)) hx hb dX8_reckoningOf_86 (by decide) ?_
      have lit0 : ((-1) : Int32).toInt = (-1) := by decide
      exact KP.rt F rfl (show (((-1) : Int32).toInt = -1 ∨ (5 ≤ ((-1) : Int32).toInt ∧ ((-1) : Int32).toInt ≤ 9)) from (by first | omega | assumption)) dX8_reckoningOf_87
    by_cases c_6 : q_value.toInt = 41
    · refine lv_tableIn (off := 72) (tgt := 86) hx hb dX8_reckoningOf_14 (by omega) (by omega) (by rw [c_6]; rfl) (by decide) ?_
      refine lv_iconst (v := (-1)) hx hb dX8_reckoningOf_86 (by decide) ?_
      have lit0 : ((-1) : Int32).toInt = (-1) := by decide
      exact KP.rt F rfl (show (((-1) : Int32).toInt = -1 ∨ (5 ≤ ((-1) : Int32).toInt ∧ ((-1) : Int32).toInt ≤ 9)) from (by first | omega | assumption)) dX8_reckoningOf_87
    by_cases c_7 : q_value.toInt = 42
    · refine lv_tableIn (off := 63) (tgt := 77) hx hb dX8_reckoningOf_14 (by omega) (by omega) (by rw [c_7]; rfl) (by decide) ?_
      refine lv_bipush (v := 7) hx hb dX8_reckoningOf_77 (by decide) ?_
      have lit0 : (7 : Int32).toInt = 7 := by decide
      exact KP.rt F rfl (show ((7 : Int32).toInt = -1 ∨ (5 ≤ (7 : Int32).toInt ∧ (7 : Int32).toInt ≤ 9)) from (by first | omega | assumption)) dX8_reckoningOf_79
    by_cases c_8 : q_value.toInt = 43
    · refine lv_tableIn (off := 58) (tgt := 72) hx hb dX8_reckoningOf_14 (by omega) (by omega) (by rw [c_8]; rfl) (by decide) ?_
      refine lv_iconst (v := 5) hx hb dX8_reckoningOf_72 (by decide) ?_
      have lit0 : (5 : Int32).toInt = 5 := by decide
      exact KP.rt F rfl (show ((5 : Int32).toInt = -1 ∨ (5 ≤ (5 : Int32).toInt ∧ (5 : Int32).toInt ≤ 9)) from (by first | omega | assumption)) dX8_reckoningOf_73
    by_cases c_9 : q_value.toInt = 44
    · refine lv_tableIn (off := 72) (tgt := 86) hx hb dX8_reckoningOf_14 (by omega) (by omega) (by rw [c_9]; rfl) (by decide) ?_
      refine lv_iconst (v := (-1)) hx hb dX8_reckoningOf_86 (by decide) ?_
      have lit0 : ((-1) : Int32).toInt = (-1) := by decide
      exact KP.rt F rfl (show (((-1) : Int32).toInt = -1 ∨ (5 ≤ ((-1) : Int32).toInt ∧ ((-1) : Int32).toInt ≤ 9)) from (by first | omega | assumption)) dX8_reckoningOf_87
    by_cases c_10 : q_value.toInt = 45
    · refine lv_tableIn (off := 60) (tgt := 74) hx hb dX8_reckoningOf_14 (by omega) (by omega) (by rw [c_10]; rfl) (by decide) ?_
      refine lv_bipush (v := 6) hx hb dX8_reckoningOf_74 (by decide) ?_
      have lit0 : (6 : Int32).toInt = 6 := by decide
      exact KP.rt F rfl (show ((6 : Int32).toInt = -1 ∨ (5 ≤ (6 : Int32).toInt ∧ (6 : Int32).toInt ≤ 9)) from (by first | omega | assumption)) dX8_reckoningOf_76
    by_cases c_11 : q_value.toInt = 46
    · refine lv_tableIn (off := 72) (tgt := 86) hx hb dX8_reckoningOf_14 (by omega) (by omega) (by rw [c_11]; rfl) (by decide) ?_
      refine lv_iconst (v := (-1)) hx hb dX8_reckoningOf_86 (by decide) ?_
      have lit0 : ((-1) : Int32).toInt = (-1) := by decide
      exact KP.rt F rfl (show (((-1) : Int32).toInt = -1 ∨ (5 ≤ ((-1) : Int32).toInt ∧ ((-1) : Int32).toInt ≤ 9)) from (by first | omega | assumption)) dX8_reckoningOf_87
    by_cases c_12 : q_value.toInt = 47
    · refine lv_tableIn (off := 66) (tgt := 80) hx hb dX8_reckoningOf_14 (by omega) (by omega) (by rw [c_12]; rfl) (by decide) ?_
      refine lv_bipush (v := 8) hx hb dX8_reckoningOf_80 (by decide) ?_
      have lit0 : (8 : Int32).toInt = 8 := by decide
      exact KP.rt F rfl (show ((8 : Int32).toInt = -1 ∨ (5 ≤ (8 : Int32).toInt ∧ (8 : Int32).toInt ≤ 9)) from (by first | omega | assumption)) dX8_reckoningOf_82
    refine lv_tableOut (tgt := 86) hx hb dX8_reckoningOf_14 (by omega) (by decide) ?_
    refine lv_iconst (v := (-1)) hx hb dX8_reckoningOf_86 (by decide) ?_
    have lit0 : ((-1) : Int32).toInt = (-1) := by decide
    exact KP.rt F rfl (show (((-1) : Int32).toInt = -1 ∨ (5 ≤ ((-1) : Int32).toInt ∧ ((-1) : Int32).toInt ≤ 9)) from (by first | omega | assumption)) dX8_reckoningOf_87
  · have ic_1 : q_kind.toInt ≠ 4 := k_ne c_1 rfl (by decide)
    refine lv_iconst (v := (-1)) hx hb dX8_reckoningOf_8 (by decide) ?_
    have lit0 : ((-1) : Int32).toInt = (-1) := by decide
    exact KP.rt F rfl (show (((-1) : Int32).toInt = -1 ∨ (5 ≤ ((-1) : Int32).toInt ∧ ((-1) : Int32).toInt ≤ 9)) from (by first | omega | assumption)) dX8_reckoningOf_9
