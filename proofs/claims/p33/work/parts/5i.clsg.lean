set_option maxHeartbeats 4000000 in
set_option maxRecDepth 100000 in
theorem cc_X10_isNamed (l : Launch) (D : va_G) (cy : Nat → ClassId) (o : Nat) (o_by : Nat) (o_ki : Nat) (o_va : Nat) (o_pl : Nat) (o_len : Int32) (o_tok : Int32) (o_at : Int32) (o_kind : Int32) (o_value : Int32) (o_place : Int32) (o_fault : Int32) (g_oby : Nat → Int32) (x0 : Int32) (x1 : Int32) (x2 : Int32) (kt : Nat) (vt : Nat) (p0 : 0 ≤ x0.toInt) (p1 : 0 ≤ x1.toInt) (p2 : 0 ≤ x2.toInt) (p3 : x0.toInt + x2.toInt ≤ 400) (p4 : x1.toInt + x2.toInt ≤ 96) : JI l yX10_isNamed cX10_isNamed 5 (some .boolean) 4 85 D (kTY cy) [.ref o, .int x0, .int x1, .int x2] [(o, .inr (10, [.ref o_by, .int o_len, .ref o_ki, .ref o_va, .ref o_pl, .int o_tok, .int o_at, .int o_kind, .int o_value, .int o_place, .int o_fault])), (o_by, .inl (cy 0, 400, .inl g_oby))] (ZT kt vt) (S := Unit) (fun r u => (r.toInt = 0 ∨ r.toInt = 1)) (fun _ => [(o, .inr (10, [.ref o_by, .int o_len, .ref o_ki, .ref o_va, .ref o_pl, .int o_tok, .int o_at, .int o_kind, .int o_value, .int o_place, .int o_fault])), (o_by, .inl (cy 0, 400, .inl g_oby))]) 0 0 := by
  refine JI.of (by decide) (Nat.le_of_ble_eq_true rfl) (fun p e s m below meth c ls A F hE hP hD hA hS hl hZ => ?_)
  have F : kF p s m meth c cX10_isNamed 5 (some .boolean) _ RX10 := F
  obtain ⟨hx, hb, hr, hml, hown, hG, hlk⟩ := id F
  have hl : lv_has ls 5 [(0, .ref o), (1, .int x0), (2, .int x1), (3, .int x2)] := hl
  refine lv_iconst (v := 0) hx hb dX10_isNamed_0 (by decide) ?_
  refine lv_istore (lv' := [(4, .int 0), (0, .ref o), (1, .int x0), (2, .int x1), (3, .int x2)]) hx hb dX10_isNamed_1 hl (by decide) rfl (fun ls hl => ?_)
  have lp3 : ∀ (fu : Nat) (v4_3 : Int32) (H : Heap) (locs : List Loc) (ls : Array Slot), (0 ≤ v4_3.toInt) → (v4_3.toInt ≤ x2.toInt) → x2.toInt - v4_3.toInt < (fu : Int) → va_P D vwCl [(o, .inr (10, [.ref o_by, .int o_len, .ref o_ki, .ref o_va, .ref o_pl, .int o_tok, .int o_at, .int o_kind, .int o_value, .int o_place, .int o_fault])), (o_by, .inl (cy 0, 400, .inl g_oby))] H → va_D A [(o, .inr (10, [.ref o_by, .int o_len, .ref o_ki, .ref o_va, .ref o_pl, .int o_tok, .int o_at, .int o_kind, .int o_value, .int o_place, .int o_fault])), (o_by, .inl (cy 0, 400, .inl g_oby))] → va_S A s.heap H locs → lv_has ls 5 [(4, .int v4_3), (0, .ref o), (1, .int x0), (2, .int x1), (3, .int x2)] → W p l e (kRm 4 85 0 0) s m ([.ref o, .int x0, .int x1, .int x2] : List Value).toArray below meth c H locs 0 0 (MQ below (va_Qi (S := Unit) (fun r u => (r.toInt = 0 ∨ r.toInt = 1)) (kBw D A (fun _ => [(o, .inr (10, [.ref o_by, .int o_len, .ref o_ki, .ref o_va, .ref o_pl, .int o_tok, .int o_at, .int o_kind, .int o_value, .int o_place, .int o_fault])), (o_by, .inl (cy 0, 400, .inl g_oby))])) A) ([.ref o, .int x0, .int x1, .int x2] : List Value).toArray s 0 0 A) (F0 m 3 ls []) := by
    intro fu3
    induction fu3 with
    | zero =>
      intro v4_3 H locs ls j0_3 j1_3 hm3 hP hD hS hl
      exact absurd hm3 (by omega)
    | succ fu3 ih3 =>
      intro v4_3 H locs ls j0_3 j1_3 hm3 hP hD hS hl
      refine lv_iload hx hb dX10_isNamed_3 (lv_at hl 0 rfl) ?_
      refine lv_iload_n hx hb dX10_isNamed_5 rfl (lv_at hl 4 rfl) ?_
      refine lv_icmp_ge (tgt := 38) hx hb dX10_isNamed_6 (by decide) (fun c_1 => ?_) (fun c_1 => ?_)
      · have ic_1 : x2.toInt ≤ v4_3.toInt := k_le c_1 rfl rfl
        refine lv_iconst (v := 1) hx hb dX10_isNamed_38 (by decide) ?_
        have lit0 : (1 : Int32).toInt = 1 := by decide
        exact KI.rt () F rfl (hP.sub [0, 1] rfl) (hD.sub [0, 1] (by decide) rfl) hS (show ((1 : Int32).toInt = 0 ∨ (1 : Int32).toInt = 1) from (by first | omega | assumption)) (Nat.le_of_ble_eq_true rfl) (Nat.le_of_ble_eq_true rfl) dX10_isNamed_39
      · have ic_1 : v4_3.toInt < x2.toInt := k_nle c_1 rfl rfl
        refine lv_aload_n hx hb dX10_isNamed_9 rfl (lv_at hl 1 rfl) ?_
        refine va_get (D := D) (ci := 10) (v := .ref o_by) (C := RX10) (T := TX10) (N := 11) hx hb hG inG_X10 hown hE.1 hP 0 rfl rfl 0 (by decide) (hG _ q_f_X10_11) (fun _ h9 => h9) rfl dX10_isNamed_10 ?_
        refine lv_iload_n hx hb dX10_isNamed_13 rfl (lv_at hl 2 rfl) ?_
        refine lv_iload hx hb dX10_isNamed_14 (lv_at hl 0 rfl) ?_
        refine lv_iadd hx hb dX10_isNamed_16 ?_
        refine lv_topi (fun z_2 ez_2 => ?_)
        have iz_2 : z_2.toInt = x0.toInt + v4_3.toInt := k_addI ez_2 rfl rfl (by omega)
        refine va_iald hx hb hE.1 hP 1 0 rfl rfl (k_in (by omega)) dX10_isNamed_17 ?_
        refine k_top (z := (g_oby (Int32.toNatClampNeg z_2))) rfl ?_
        obtain ⟨tx_3, htx_3⟩ := hZ.1
        refine va_ldcS hx hb hown htx_3 dX10_isNamed_18 ?_
        refine lv_iload_n hx hb dX10_isNamed_20 rfl (lv_at hl 3 rfl) ?_
        refine lv_iload hx hb dX10_isNamed_21 (lv_at hl 0 rfl) ?_
        refine lv_iadd hx hb dX10_isNamed_23 ?_
        refine lv_topi (fun z_4 ez_4 => ?_)
        have iz_4 : z_4.toInt = x1.toInt + v4_3.toInt := k_addI ez_4 rfl rfl (by omega)
        refine jxRI (wr := [(o, .inr (10, [.ref o_by, .int o_len, .ref o_ki, .ref o_va, .ref o_pl, .int o_tok, .int o_at, .int o_kind, .int o_value, .int o_place, .int o_fault])), (o_by, .inl (cy 0, 400, .inl g_oby))]) (As := [.int z_4]) (rest := [.int (g_oby (Int32.toNatClampNeg z_2))]) F hE hP hD hS hA hl.1 ZT_ok hZ (cc_J0_charAt_5068e l D cy (kt := kt) (x0 := z_4) (vt := vt) (p0 := (by first | omega | assumption)) (p1 := (by first | omega | assumption))) q_m_X10_88 mv_J0_charAt_5068e ⟨(Nat.le_of_ble_eq_true rfl), (Nat.le_of_ble_eq_true rfl)⟩ [] [0, 1] (by decide) rfl rfl (by decide) (by decide) (ZT.recv hZ hS) rfl rfl (Nat.le_of_ble_eq_true rfl) ⟨(Nat.le_of_ble_eq_true rfl), (Nat.le_of_ble_eq_true rfl)⟩ dX10_isNamed_24 (fun r_6 u_5 H locs eu_5 hP hD hS => ?_)
        have hP : va_P D vwCl [(o, .inr (10, [.ref o_by, .int o_len, .ref o_ki, .ref o_va, .ref o_pl, .int o_tok, .int o_at, .int o_kind, .int o_value, .int o_place, .int o_fault])), (o_by, .inl (cy 0, 400, .inl g_oby))] H := hP
        have hD : va_D A [(o, .inr (10, [.ref o_by, .int o_len, .ref o_ki, .ref o_va, .ref o_pl, .int o_tok, .int o_at, .int o_kind, .int o_value, .int o_place, .int o_fault])), (o_by, .inl (cy 0, 400, .inl g_oby))] := hD
        refine lv_icmp_eq (tgt := 32) hx hb dX10_isNamed_27 (by decide) (fun c_7 => ?_) (fun c_7 => ?_)
        · have ic_7 : (g_oby (Int32.toNatClampNeg z_2)).toInt = r_6.toInt := k_eq c_7 rfl rfl
          obtain ⟨z_8, ez_8⟩ : ∃ y : Int32, y = v4_3 + Int32.ofInt 1 := ⟨_, rfl⟩
          have iz_8 : z_8.toInt = v4_3.toInt + 1 := k_addI ez_8 rfl (by decide) (by omega)
          refine lv_iinc (v := z_8) (lv' := [(4, .int z_8), (0, .ref o), (1, .int x0), (2, .int x1), (3, .int x2)]) hx hb dX10_isNamed_32 hl (k := 0) rfl ez_8.symm (by decide) rfl (fun ls hl => ?_)
          refine lv_goto (tgt := 3) hx hb dX10_isNamed_35 (by decide) ?_
          exact ih3 z_8 _ _ ls (by first | omega | assumption) (by first | omega | assumption) (by omega) hP hD hS (lv_sub hl [0, 1, 2, 3, 4] rfl)
        · have ic_7 : (g_oby (Int32.toNatClampNeg z_2)).toInt ≠ r_6.toInt := k_ne c_7 rfl rfl
          refine lv_iconst (v := 0) hx hb dX10_isNamed_30 (by decide) ?_
          have lit0 : (0 : Int32).toInt = 0 := by decide
          exact KI.rt () F rfl (hP.sub [0, 1] rfl) (hD.sub [0, 1] (by decide) rfl) hS (show ((0 : Int32).toInt = 0 ∨ (0 : Int32).toInt = 1) from (by first | omega | assumption)) (Nat.le_of_ble_eq_true rfl) (Nat.le_of_ble_eq_true rfl) dX10_isNamed_31
  have lt_9 : (0 : Int32).toInt = 0 := by decide
  exact lp3 100000 0 _ _ ls (by first | omega | assumption) (by first | omega | assumption) (by omega) hP hD hS hl

set_option maxHeartbeats 4000000 in
set_option maxRecDepth 100000 in
theorem cc_X10_wordOf (l : Launch) (D : va_G) (cy : Nat → ClassId) (o : Nat) (o_by : Nat) (o_ki : Nat) (o_va : Nat) (o_pl : Nat) (o_len : Int32) (o_tok : Int32) (o_at : Int32) (o_kind : Int32) (o_value : Int32) (o_place : Int32) (o_fault : Int32) (g_oby : Nat → Int32) (x0 : Int32) (x1 : Int32) (kt : Nat) (vt : Nat) (p0 : 0 ≤ x0.toInt) (p1 : x0.toInt ≤ x1.toInt) (p2 : x1.toInt ≤ 400) : JI l yX10_wordOf cX10_wordOf 6 (some .int) 5 109 D (kTY cy) [.ref o, .int x0, .int x1] [(o, .inr (10, [.ref o_by, .int o_len, .ref o_ki, .ref o_va, .ref o_pl, .int o_tok, .int o_at, .int o_kind, .int o_value, .int o_place, .int o_fault])), (o_by, .inl (cy 0, 400, .inl g_oby))] (ZT kt vt) (S := Unit) (fun r u => (-1 ≤ r.toInt) ∧ (r.toInt ≤ 99999)) (fun _ => [(o, .inr (10, [.ref o_by, .int o_len, .ref o_ki, .ref o_va, .ref o_pl, .int o_tok, .int o_at, .int o_kind, .int o_value, .int o_place, .int o_fault])), (o_by, .inl (cy 0, 400, .inl g_oby))]) 0 0 := by
  refine JI.of (by decide) (Nat.le_of_ble_eq_true rfl) (fun p e s m below meth c ls A F hE hP hD hA hS hl hZ => ?_)
  have F : kF p s m meth c cX10_wordOf 6 (some .int) _ RX10 := F
  obtain ⟨hx, hb, hr, hml, hown, hG, hlk⟩ := id F
  have hl : lv_has ls 6 [(0, .ref o), (1, .int x0), (2, .int x1)] := hl
  refine lv_iconst (v := 0) hx hb dX10_wordOf_0 (by decide) ?_
  refine lv_istore_n (lv' := [(3, .int 0), (0, .ref o), (1, .int x0), (2, .int x1)]) hx hb dX10_wordOf_1 rfl hl (by decide) rfl (fun ls hl => ?_)
  refine lv_iconst (v := 0) hx hb dX10_wordOf_2 (by decide) ?_
  refine lv_istore (lv' := [(4, .int 0), (3, .int 0), (0, .ref o), (1, .int x0), (2, .int x1)]) hx hb dX10_wordOf_3 hl (by decide) rfl (fun ls hl => ?_)
  refine lv_iconst (v := 0) hx hb dX10_wordOf_5 (by decide) ?_
  refine lv_istore (lv' := [(5, .int 0), (4, .int 0), (3, .int 0), (0, .ref o), (1, .int x0), (2, .int x1)]) hx hb dX10_wordOf_6 hl (by decide) rfl (fun ls hl => ?_)
  have lp8 : ∀ (fu : Nat) (v5_8 : Int32) (v4_8 : Int32) (v3_8 : Int32) (H : Heap) (locs : List Loc) (ls : Array Slot), (0 ≤ v5_8.toInt) → (v5_8.toInt ≤ 97) → (0 ≤ v4_8.toInt) → (v4_8.toInt ≤ v5_8.toInt) → (0 ≤ v3_8.toInt) → (v3_8.toInt ≤ v5_8.toInt) → 97 - v5_8.toInt < (fu : Int) → va_P D vwCl [(o, .inr (10, [.ref o_by, .int o_len, .ref o_ki, .ref o_va, .ref o_pl, .int o_tok, .int o_at, .int o_kind, .int o_value, .int o_place, .int o_fault])), (o_by, .inl (cy 0, 400, .inl g_oby))] H → va_D A [(o, .inr (10, [.ref o_by, .int o_len, .ref o_ki, .ref o_va, .ref o_pl, .int o_tok, .int o_at, .int o_kind, .int o_value, .int o_place, .int o_fault])), (o_by, .inl (cy 0, 400, .inl g_oby))] → va_S A s.heap H locs → lv_has ls 6 [(5, .int v5_8), (4, .int v4_8), (3, .int v3_8), (0, .ref o), (1, .int x0), (2, .int x1)] → W p l e (kRm 5 109 0 0) s m ([.ref o, .int x0, .int x1] : List Value).toArray below meth c H locs 0 0 (MQ below (va_Qi (S := Unit) (fun r u => (-1 ≤ r.toInt) ∧ (r.toInt ≤ 99999)) (kBw D A (fun _ => [(o, .inr (10, [.ref o_by, .int o_len, .ref o_ki, .ref o_va, .ref o_pl, .int o_tok, .int o_at, .int o_kind, .int o_value, .int o_place, .int o_fault])), (o_by, .inl (cy 0, 400, .inl g_oby))])) A) ([.ref o, .int x0, .int x1] : List Value).toArray s 0 0 A) (F0 m 8 ls []) := by
    intro fu8
    induction fu8 with
    | zero =>
      intro v5_8 v4_8 v3_8 H locs ls j0_8 j1_8 j2_8 j3_8 j4_8 j5_8 hm8 hP hD hS hl
      exact absurd hm8 (by omega)
    | succ fu8 ih8 =>
      intro v5_8 v4_8 v3_8 H locs ls j0_8 j1_8 j2_8 j3_8 j4_8 j5_8 hm8 hP hD hS hl
      refine lv_iload hx hb dX10_wordOf_8 (lv_at hl 0 rfl) ?_
      obtain ⟨tx_1, htx_1⟩ := hZ.1
      refine va_ldcS hx hb hown htx_1 dX10_wordOf_10 ?_
      refine jxRI (wr := [(o, .inr (10, [.ref o_by, .int o_len, .ref o_ki, .ref o_va, .ref o_pl, .int o_tok, .int o_at, .int o_kind, .int o_value, .int o_place, .int o_fault])), (o_by, .inl (cy 0, 400, .inl g_oby))]) (As := []) (rest := [.int v5_8]) F hE hP hD hS hA hl.1 ZT_ok hZ (cc_J0_length_8abf5 l D cy (kt := kt) (vt := vt)) q_m_X10_83 mv_J0_length_8abf5 ⟨(Nat.le_of_ble_eq_true rfl), (Nat.le_of_ble_eq_true rfl)⟩ [] [0, 1] (by decide) rfl rfl (by decide) (by decide) (ZT.recv hZ hS) rfl rfl (Nat.le_of_ble_eq_true rfl) ⟨(Nat.le_of_ble_eq_true rfl), (Nat.le_of_ble_eq_true rfl)⟩ dX10_wordOf_12 (fun r_3 u_2 H locs eu_2 hP hD hS => ?_)
      have eu_2 : (r_3.toInt = 96) := eu_2
      have hP : va_P D vwCl [(o, .inr (10, [.ref o_by, .int o_len, .ref o_ki, .ref o_va, .ref o_pl, .int o_tok, .int o_at, .int o_kind, .int o_value, .int o_place, .int o_fault])), (o_by, .inl (cy 0, 400, .inl g_oby))] H := hP
      have hD : va_D A [(o, .inr (10, [.ref o_by, .int o_len, .ref o_ki, .ref o_va, .ref o_pl, .int o_tok, .int o_at, .int o_kind, .int o_value, .int o_place, .int o_fault])), (o_by, .inl (cy 0, 400, .inl g_oby))] := hD
      refine lv_icmp_gt (tgt := 83) hx hb dX10_wordOf_15 (by decide) (fun c_4 => ?_) (fun c_4 => ?_)
      · have ic_4 : r_3.toInt < v5_8.toInt := k_lt c_4 rfl rfl
        refine lv_iconst (v := (-1)) hx hb dX10_wordOf_83 (by decide) ?_
        have lit0 : ((-1) : Int32).toInt = (-1) := by decide
        exact KI.rt () F rfl (hP.sub [0, 1] rfl) (hD.sub [0, 1] (by decide) rfl) hS (show (-1 ≤ ((-1) : Int32).toInt) ∧ (((-1) : Int32).toInt ≤ 99999) from ⟨(by first | omega | assumption), (by first | omega | assumption)⟩) (Nat.le_of_ble_eq_true rfl) (Nat.le_of_ble_eq_true rfl) dX10_wordOf_84
      · have ic_4 : v5_8.toInt ≤ r_3.toInt := k_nlt c_4 rfl rfl
        refine lv_iload hx hb dX10_wordOf_18 (lv_at hl 0 rfl) ?_
        obtain ⟨tx_5, htx_5⟩ := hZ.1
        refine va_ldcS hx hb hown htx_5 dX10_wordOf_20 ?_
        refine jxRI (wr := [(o, .inr (10, [.ref o_by, .int o_len, .ref o_ki, .ref o_va, .ref o_pl, .int o_tok, .int o_at, .int o_kind, .int o_value, .int o_place, .int o_fault])), (o_by, .inl (cy 0, 400, .inl g_oby))]) (As := []) (rest := [.int v5_8]) F hE hP hD hS hA hl.1 ZT_ok hZ (cc_J0_length_8abf5 l D cy (kt := kt) (vt := vt)) q_m_X10_83 mv_J0_length_8abf5 ⟨(Nat.le_of_ble_eq_true rfl), (Nat.le_of_ble_eq_true rfl)⟩ [] [0, 1] (by decide) rfl rfl (by decide) (by decide) (ZT.recv hZ hS) rfl rfl (Nat.le_of_ble_eq_true rfl) ⟨(Nat.le_of_ble_eq_true rfl), (Nat.le_of_ble_eq_true rfl)⟩ dX10_wordOf_22 (fun r_7 u_6 H locs eu_6 hP hD hS => ?_)
        have eu_6 : (r_7.toInt = 96) := eu_6
        have hP : va_P D vwCl [(o, .inr (10, [.ref o_by, .int o_len, .ref o_ki, .ref o_va, .ref o_pl, .int o_tok, .int o_at, .int o_kind, .int o_value, .int o_place, .int o_fault])), (o_by, .inl (cy 0, 400, .inl g_oby))] H := hP
        have hD : va_D A [(o, .inr (10, [.ref o_by, .int o_len, .ref o_ki, .ref o_va, .ref o_pl, .int o_tok, .int o_at, .int o_kind, .int o_value, .int o_place, .int o_fault])), (o_by, .inl (cy 0, 400, .inl g_oby))] := hD
        refine lv_icmp_eq (tgt := 40) hx hb dX10_wordOf_25 (by decide) (fun c_8 => ?_) (fun c_8 => ?_)
        · have ic_8 : v5_8.toInt = r_7.toInt := k_eq c_8 rfl rfl
          refine lv_iload hx hb dX10_wordOf_40 (lv_at hl 0 rfl) ?_
          refine lv_iload hx hb dX10_wordOf_42 (lv_at hl 1 rfl) ?_
          refine lv_isub hx hb dX10_wordOf_44 ?_
          refine lv_topi (fun z_9 ez_9 => ?_)
          have iz_9 : z_9.toInt = v5_8.toInt - v4_8.toInt := k_subI ez_9 rfl rfl (by omega)
          refine lv_iload_n hx hb dX10_wordOf_45 rfl (lv_at hl 5 rfl) ?_
          refine lv_iload_n hx hb dX10_wordOf_46 rfl (lv_at hl 4 rfl) ?_
          refine lv_isub hx hb dX10_wordOf_47 ?_
          refine lv_topi (fun z_10 ez_10 => ?_)
          have iz_10 : z_10.toInt = x1.toInt - x0.toInt := k_subI ez_10 rfl rfl (by omega)
          refine lv_icmp_ne (tgt := 68) hx hb dX10_wordOf_48 (by decide) (fun c_11 => ?_) (fun c_11 => ?_)
          · have ic_11 : z_9.toInt ≠ z_10.toInt := k_ne c_11 rfl rfl
            obtain ⟨z_12, ez_12⟩ : ∃ y : Int32, y = v3_8 + Int32.ofInt 1 := ⟨_, rfl⟩
            have iz_12 : z_12.toInt = v3_8.toInt + 1 := k_addI ez_12 rfl (by decide) (by omega)
            refine lv_iinc (v := z_12) (lv' := [(3, .int z_12), (5, .int v5_8), (4, .int v4_8), (0, .ref o), (1, .int x0), (2, .int x1)]) hx hb dX10_wordOf_68 hl (k := 2) rfl ez_12.symm (by decide) rfl (fun ls hl => ?_)
            refine lv_iload hx hb dX10_wordOf_71 (lv_at hl 1 rfl) ?_
            refine lv_iconst (v := 1) hx hb dX10_wordOf_73 (by decide) ?_
            refine lv_iadd hx hb dX10_wordOf_74 ?_
            refine lv_topi (fun z_13 ez_13 => ?_)
            have iz_13 : z_13.toInt = v5_8.toInt + 1 := k_addI ez_13 rfl (by decide) (by omega)
            refine lv_istore (lv' := [(4, .int z_13), (3, .int z_12), (5, .int v5_8), (0, .ref o), (1, .int x0), (2, .int x1)]) hx hb dX10_wordOf_75 hl (by decide) rfl (fun ls hl => ?_)
            obtain ⟨z_14, ez_14⟩ : ∃ y : Int32, y = v5_8 + Int32.ofInt 1 := ⟨_, rfl⟩
            have iz_14 : z_14.toInt = v5_8.toInt + 1 := k_addI ez_14 rfl (by decide) (by omega)
            refine lv_iinc (v := z_14) (lv' := [(5, .int z_14), (4, .int z_13), (3, .int z_12), (0, .ref o), (1, .int x0), (2, .int x1)]) hx hb dX10_wordOf_77 hl (k := 2) rfl ez_14.symm (by decide) rfl (fun ls hl => ?_)
            refine lv_goto (tgt := 8) hx hb dX10_wordOf_80 (by decide) ?_
            exact ih8 z_14 z_13 z_12 _ _ ls (by first | omega | assumption) (by first | omega | assumption) (by first | omega | assumption) (by first | omega | assumption) (by first | omega | assumption) (by first | omega | assumption) (by omega) hP hD hS (lv_sub hl [0, 1, 2, 3, 4, 5] rfl)
          · have ic_11 : z_9.toInt = z_10.toInt := k_eq c_11 rfl rfl
            refine lv_aload_n hx hb dX10_wordOf_51 rfl (lv_at hl 3 rfl) ?_
            refine lv_iload_n hx hb dX10_wordOf_52 rfl (lv_at hl 4 rfl) ?_
            refine lv_iload hx hb dX10_wordOf_53 (lv_at hl 1 rfl) ?_
            refine lv_iload hx hb dX10_wordOf_55 (lv_at hl 0 rfl) ?_
            refine lv_iload hx hb dX10_wordOf_57 (lv_at hl 1 rfl) ?_
            refine lv_isub hx hb dX10_wordOf_59 ?_
            refine lv_topi (fun z_15 ez_15 => ?_)
            have iz_15 : z_15.toInt = v5_8.toInt - v4_8.toInt := k_subI ez_15 rfl rfl (by omega)
            refine jxVI (wr := []) (As := [.int x0, .int v4_8, .int z_15]) (rest := []) F hE hP hD hS hA hl.1 ZT_ok hZ (cc_X10_isNamed l D cy (o := o) (x0 := x0) (x1 := v4_8) (x2 := z_15) (o_by := o_by) (o_len := o_len) (o_ki := o_ki) (o_va := o_va) (o_pl := o_pl) (o_tok := o_tok) (o_at := o_at) (o_kind := o_kind) (o_value := o_value) (o_place := o_place) (o_fault := o_fault) (g_oby := g_oby) (kt := kt) (vt := vt) (p0 := (by first | omega | assumption)) (p1 := (by first | omega | assumption)) (p2 := (by first | omega | assumption)) (p3 := (by first | omega | assumption)) (p4 := (by first | omega | assumption))) q_m_X10_92 mv_X10_isNamed ⟨(Nat.le_of_ble_eq_true rfl), (Nat.le_of_ble_eq_true rfl)⟩ [0, 1] [] (by decide) rfl rfl (by decide) (by decide) rfl rfl rfl rfl rfl (Nat.le_of_ble_eq_true rfl) ⟨(Nat.le_of_ble_eq_true rfl), (Nat.le_of_ble_eq_true rfl)⟩ dX10_wordOf_60 (fun r_17 u_16 H locs eu_16 hP hD hS => ?_)
            have eu_16 : (r_17.toInt = 0 ∨ r_17.toInt = 1) := eu_16
            have hP : va_P D vwCl [(o, .inr (10, [.ref o_by, .int o_len, .ref o_ki, .ref o_va, .ref o_pl, .int o_tok, .int o_at, .int o_kind, .int o_value, .int o_place, .int o_fault])), (o_by, .inl (cy 0, 400, .inl g_oby))] H := hP
            have hD : va_D A [(o, .inr (10, [.ref o_by, .int o_len, .ref o_ki, .ref o_va, .ref o_pl, .int o_tok, .int o_at, .int o_kind, .int o_value, .int o_place, .int o_fault])), (o_by, .inl (cy 0, 400, .inl g_oby))] := hD
            refine lv_if_eq (tgt := 68) hx hb dX10_wordOf_63 (by decide) (fun c_18 => ?_) (fun c_18 => ?_)
            · have ic_18 : r_17.toInt = 0 := k_eq c_18 rfl (by decide)
              clear eu_16
              obtain ⟨z_19, ez_19⟩ : ∃ y : Int32, y = v3_8 + Int32.ofInt 1 := ⟨_, rfl⟩
              have iz_19 : z_19.toInt = v3_8.toInt + 1 := k_addI ez_19 rfl (by decide) (by omega)
              refine lv_iinc (v := z_19) (lv' := [(3, .int z_19), (5, .int v5_8), (4, .int v4_8), (0, .ref o), (1, .int x0), (2, .int x1)]) hx hb dX10_wordOf_68 hl (k := 2) rfl ez_19.symm (by decide) rfl (fun ls hl => ?_)
              refine lv_iload hx hb dX10_wordOf_71 (lv_at hl 1 rfl) ?_
              refine lv_iconst (v := 1) hx hb dX10_wordOf_73 (by decide) ?_
              refine lv_iadd hx hb dX10_wordOf_74 ?_
              refine lv_topi (fun z_20 ez_20 => ?_)
              have iz_20 : z_20.toInt = v5_8.toInt + 1 := k_addI ez_20 rfl (by decide) (by omega)
              refine lv_istore (lv' := [(4, .int z_20), (3, .int z_19), (5, .int v5_8), (0, .ref o), (1, .int x0), (2, .int x1)]) hx hb dX10_wordOf_75 hl (by decide) rfl (fun ls hl => ?_)
              obtain ⟨z_21, ez_21⟩ : ∃ y : Int32, y = v5_8 + Int32.ofInt 1 := ⟨_, rfl⟩
              have iz_21 : z_21.toInt = v5_8.toInt + 1 := k_addI ez_21 rfl (by decide) (by omega)
              refine lv_iinc (v := z_21) (lv' := [(5, .int z_21), (4, .int z_20), (3, .int z_19), (0, .ref o), (1, .int x0), (2, .int x1)]) hx hb dX10_wordOf_77 hl (k := 2) rfl ez_21.symm (by decide) rfl (fun ls hl => ?_)
              refine lv_goto (tgt := 8) hx hb dX10_wordOf_80 (by decide) ?_
              exact ih8 z_21 z_20 z_19 _ _ ls (by first | omega | assumption) (by first | omega | assumption) (by first | omega | assumption) (by first | omega | assumption) (by first | omega | assumption) (by first | omega | assumption) (by omega) hP hD hS (lv_sub hl [0, 1, 2, 3, 4, 5] rfl)
            · have ic_18 : r_17.toInt ≠ 0 := k_ne c_18 rfl (by decide)
              clear eu_16
              refine lv_iload_n hx hb dX10_wordOf_66 rfl (lv_at hl 2 rfl) ?_
              exact KI.rt () F rfl (hP.sub [0, 1] rfl) (hD.sub [0, 1] (by decide) rfl) hS (show (-1 ≤ v3_8.toInt) ∧ (v3_8.toInt ≤ 99999) from ⟨(by first | omega | assumption), (by first | omega | assumption)⟩) (Nat.le_of_ble_eq_true rfl) (Nat.le_of_ble_eq_true rfl) dX10_wordOf_67
        · have ic_8 : v5_8.toInt ≠ r_7.toInt := k_ne c_8 rfl rfl
          obtain ⟨tx_22, htx_22⟩ := hZ.1
          refine va_ldcS hx hb hown htx_22 dX10_wordOf_28 ?_
          refine lv_iload hx hb dX10_wordOf_30 (lv_at hl 0 rfl) ?_
          refine jxRI (wr := [(o, .inr (10, [.ref o_by, .int o_len, .ref o_ki, .ref o_va, .ref o_pl, .int o_tok, .int o_at, .int o_kind, .int o_value, .int o_place, .int o_fault])), (o_by, .inl (cy 0, 400, .inl g_oby))]) (As := [.int v5_8]) (rest := []) F hE hP hD hS hA hl.1 ZT_ok hZ (cc_J0_charAt_5068e l D cy (kt := kt) (x0 := v5_8) (vt := vt) (p0 := (by first | omega | assumption)) (p1 := (by first | omega | assumption))) q_m_X10_88 mv_J0_charAt_5068e ⟨(Nat.le_of_ble_eq_true rfl), (Nat.le_of_ble_eq_true rfl)⟩ [] [0, 1] (by decide) rfl rfl (by decide) (by decide) (ZT.recv hZ hS) rfl rfl (Nat.le_of_ble_eq_true rfl) ⟨(Nat.le_of_ble_eq_true rfl), (Nat.le_of_ble_eq_true rfl)⟩ dX10_wordOf_32 (fun r_24 u_23 H locs eu_23 hP hD hS => ?_)
          have hP : va_P D vwCl [(o, .inr (10, [.ref o_by, .int o_len, .ref o_ki, .ref o_va, .ref o_pl, .int o_tok, .int o_at, .int o_kind, .int o_value, .int o_place, .int o_fault])), (o_by, .inl (cy 0, 400, .inl g_oby))] H := hP
          have hD : va_D A [(o, .inr (10, [.ref o_by, .int o_len, .ref o_ki, .ref o_va, .ref o_pl, .int o_tok, .int o_at, .int o_kind, .int o_value, .int o_place, .int o_fault])), (o_by, .inl (cy 0, 400, .inl g_oby))] := hD
          refine lv_bipush (v := 32) hx hb dX10_wordOf_35 (by decide) ?_
          refine lv_icmp_ne (tgt := 77) hx hb dX10_wordOf_37 (by decide) (fun c_25 => ?_) (fun c_25 => ?_)
          · have ic_25 : r_24.toInt ≠ 32 := k_ne c_25 rfl (by decide)
            obtain ⟨z_26, ez_26⟩ : ∃ y : Int32, y = v5_8 + Int32.ofInt 1 := ⟨_, rfl⟩
            have iz_26 : z_26.toInt = v5_8.toInt + 1 := k_addI ez_26 rfl (by decide) (by omega)
            refine lv_iinc (v := z_26) (lv' := [(5, .int z_26), (4, .int v4_8), (3, .int v3_8), (0, .ref o), (1, .int x0), (2, .int x1)]) hx hb dX10_wordOf_77 hl (k := 0) rfl ez_26.symm (by decide) rfl (fun ls hl => ?_)
            refine lv_goto (tgt := 8) hx hb dX10_wordOf_80 (by decide) ?_
            exact ih8 z_26 v4_8 v3_8 _ _ ls (by first | omega | assumption) (by first | omega | assumption) (by first | omega | assumption) (by first | omega | assumption) (by first | omega | assumption) (by first | omega | assumption) (by omega) hP hD hS (lv_sub hl [0, 1, 2, 3, 4, 5] rfl)
          · have ic_25 : r_24.toInt = 32 := k_eq c_25 rfl (by decide)
            refine lv_iload hx hb dX10_wordOf_40 (lv_at hl 0 rfl) ?_
            refine lv_iload hx hb dX10_wordOf_42 (lv_at hl 1 rfl) ?_
            refine lv_isub hx hb dX10_wordOf_44 ?_
            refine lv_topi (fun z_27 ez_27 => ?_)
            have iz_27 : z_27.toInt = v5_8.toInt - v4_8.toInt := k_subI ez_27 rfl rfl (by omega)
            refine lv_iload_n hx hb dX10_wordOf_45 rfl (lv_at hl 5 rfl) ?_
            refine lv_iload_n hx hb dX10_wordOf_46 rfl (lv_at hl 4 rfl) ?_
            refine lv_isub hx hb dX10_wordOf_47 ?_
            refine lv_topi (fun z_28 ez_28 => ?_)
            have iz_28 : z_28.toInt = x1.toInt - x0.toInt := k_subI ez_28 rfl rfl (by omega)
            refine lv_icmp_ne (tgt := 68) hx hb dX10_wordOf_48 (by decide) (fun c_29 => ?_) (fun c_29 => ?_)
            · have ic_29 : z_27.toInt ≠ z_28.toInt := k_ne c_29 rfl rfl
              obtain ⟨z_30, ez_30⟩ : ∃ y : Int32, y = v3_8 + Int32.ofInt 1 := ⟨_, rfl⟩
              have iz_30 : z_30.toInt = v3_8.toInt + 1 := k_addI ez_30 rfl (by decide) (by omega)
              refine lv_iinc (v := z_30) (lv' := [(3, .int z_30), (5, .int v5_8), (4, .int v4_8), (0, .ref o), (1, .int x0), (2, .int x1)]) hx hb dX10_wordOf_68 hl (k := 2) rfl ez_30.symm (by decide) rfl (fun ls hl => ?_)
              refine lv_iload hx hb dX10_wordOf_71 (lv_at hl 1 rfl) ?_
              refine lv_iconst (v := 1) hx hb dX10_wordOf_73 (by decide) ?_
              refine lv_iadd hx hb dX10_wordOf_74 ?_
              refine lv_topi (fun z_31 ez_31 => ?_)
              have iz_31 : z_31.toInt = v5_8.toInt + 1 := k_addI ez_31 rfl (by decide) (by omega)
              refine lv_istore (lv' := [(4, .int z_31), (3, .int z_30), (5, .int v5_8), (0, .ref o), (1, .int x0), (2, .int x1)]) hx hb dX10_wordOf_75 hl (by decide) rfl (fun ls hl => ?_)
              obtain ⟨z_32, ez_32⟩ : ∃ y : Int32, y = v5_8 + Int32.ofInt 1 := ⟨_, rfl⟩
              have iz_32 : z_32.toInt = v5_8.toInt + 1 := k_addI ez_32 rfl (by decide) (by omega)
              refine lv_iinc (v := z_32) (lv' := [(5, .int z_32), (4, .int z_31), (3, .int z_30), (0, .ref o), (1, .int x0), (2, .int x1)]) hx hb dX10_wordOf_77 hl (k := 2) rfl ez_32.symm (by decide) rfl (fun ls hl => ?_)
              refine lv_goto (tgt := 8) hx hb dX10_wordOf_80 (by decide) ?_
              exact ih8 z_32 z_31 z_30 _ _ ls (by first | omega | assumption) (by first | omega | assumption) (by first | omega | assumption) (by first | omega | assumption) (by first | omega | assumption) (by first | omega | assumption) (by omega) hP hD hS (lv_sub hl [0, 1, 2, 3, 4, 5] rfl)
            · have ic_29 : z_27.toInt = z_28.toInt := k_eq c_29 rfl rfl
              refine lv_aload_n hx hb dX10_wordOf_51 rfl (lv_at hl 3 rfl) ?_
              refine lv_iload_n hx hb dX10_wordOf_52 rfl (lv_at hl 4 rfl) ?_
              refine lv_iload hx hb dX10_wordOf_53 (lv_at hl 1 rfl) ?_
              refine lv_iload hx hb dX10_wordOf_55 (lv_at hl 0 rfl) ?_
              refine lv_iload hx hb dX10_wordOf_57 (lv_at hl 1 rfl) ?_
              refine lv_isub hx hb dX10_wordOf_59 ?_
              refine lv_topi (fun z_33 ez_33 => ?_)
              have iz_33 : z_33.toInt = v5_8.toInt - v4_8.toInt := k_subI ez_33 rfl rfl (by omega)
              refine jxVI (wr := []) (As := [.int x0, .int v4_8, .int z_33]) (rest := []) F hE hP hD hS hA hl.1 ZT_ok hZ (cc_X10_isNamed l D cy (o := o) (x0 := x0) (x1 := v4_8) (x2 := z_33) (o_by := o_by) (o_len := o_len) (o_ki := o_ki) (o_va := o_va) (o_pl := o_pl) (o_tok := o_tok) (o_at := o_at) (o_kind := o_kind) (o_value := o_value) (o_place := o_place) (o_fault := o_fault) (g_oby := g_oby) (kt := kt) (vt := vt) (p0 := (by first | omega | assumption)) (p1 := (by first | omega | assumption)) (p2 := (by first | omega | assumption)) (p3 := (by first | omega | assumption)) (p4 := (by first | omega | assumption))) q_m_X10_92 mv_X10_isNamed ⟨(Nat.le_of_ble_eq_true rfl), (Nat.le_of_ble_eq_true rfl)⟩ [0, 1] [] (by decide) rfl rfl (by decide) (by decide) rfl rfl rfl rfl rfl (Nat.le_of_ble_eq_true rfl) ⟨(Nat.le_of_ble_eq_true rfl), (Nat.le_of_ble_eq_true rfl)⟩ dX10_wordOf_60 (fun r_35 u_34 H locs eu_34 hP hD hS => ?_)
              have eu_34 : (r_35.toInt = 0 ∨ r_35.toInt = 1) := eu_34
              have hP : va_P D vwCl [(o, .inr (10, [.ref o_by, .int o_len, .ref o_ki, .ref o_va, .ref o_pl, .int o_tok, .int o_at, .int o_kind, .int o_value, .int o_place, .int o_fault])), (o_by, .inl (cy 0, 400, .inl g_oby))] H := hP
              have hD : va_D A [(o, .inr (10, [.ref o_by, .int o_len, .ref o_ki, .ref o_va, .ref o_pl, .int o_tok, .int o_at, .int o_kind, .int o_value, .int o_place, .int o_fault])), (o_by, .inl (cy 0, 400, .inl g_oby))] := hD
              refine lv_if_eq (tgt := 68) hx hb dX10_wordOf_63 (by decide) (fun c_36 => ?_) (fun c_36 => ?_)
              · have ic_36 : r_35.toInt = 0 := k_eq c_36 rfl (by decide)
                clear eu_34
                obtain ⟨z_37, ez_37⟩ : ∃ y : Int32, y = v3_8 + Int32.ofInt 1 := ⟨_, rfl⟩
                have iz_37 : z_37.toInt = v3_8.toInt + 1 := k_addI ez_37 rfl (by decide) (by omega)
                refine lv_iinc (v := z_37) (lv' := [(3, .int z_37), (5, .int v5_8), (4, .int v4_8), (0, .ref o), (1, .int x0), (2, .int x1)]) hx hb dX10_wordOf_68 hl (k := 2) rfl ez_37.symm (by decide) rfl (fun ls hl => ?_)
                refine lv_iload hx hb dX10_wordOf_71 (lv_at hl 1 rfl) ?_
                refine lv_iconst (v := 1) hx hb dX10_wordOf_73 (by decide) ?_
                refine lv_iadd hx hb dX10_wordOf_74 ?_
                refine lv_topi (fun z_38 ez_38 => ?_)
                have iz_38 : z_38.toInt = v5_8.toInt + 1 := k_addI ez_38 rfl (by decide) (by omega)
                refine lv_istore (lv' := [(4, .int z_38), (3, .int z_37), (5, .int v5_8), (0, .ref o), (1, .int x0), (2, .int x1)]) hx hb dX10_wordOf_75 hl (by decide) rfl (fun ls hl => ?_)
                obtain ⟨z_39, ez_39⟩ : ∃ y : Int32, y = v5_8 + Int32.ofInt 1 := ⟨_, rfl⟩
                have iz_39 : z_39.toInt = v5_8.toInt + 1 := k_addI ez_39 rfl (by decide) (by omega)
                refine lv_iinc (v := z_39) (lv' := [(5, .int z_39), (4, .int z_38), (3, .int z_37), (0, .ref o), (1, .int x0), (2, .int x1)]) hx hb dX10_wordOf_77 hl (k := 2) rfl ez_39.symm (by decide) rfl (fun ls hl => ?_)
                refine lv_goto (tgt := 8) hx hb dX10_wordOf_80 (by decide) ?_
                exact ih8 z_39 z_38 z_37 _ _ ls (by first | omega | assumption) (by first | omega | assumption) (by first | omega | assumption) (by first | omega | assumption) (by first | omega | assumption) (by first | omega | assumption) (by omega) hP hD hS (lv_sub hl [0, 1, 2, 3, 4, 5] rfl)
              · have ic_36 : r_35.toInt ≠ 0 := k_ne c_36 rfl (by decide)
                clear eu_34
                refine lv_iload_n hx hb dX10_wordOf_66 rfl (lv_at hl 2 rfl) ?_
                exact KI.rt () F rfl (hP.sub [0, 1] rfl) (hD.sub [0, 1] (by decide) rfl) hS (show (-1 ≤ v3_8.toInt) ∧ (v3_8.toInt ≤ 99999) from ⟨(by first | omega | assumption), (by first | omega | assumption)⟩) (Nat.le_of_ble_eq_true rfl) (Nat.le_of_ble_eq_true rfl) dX10_wordOf_67
  have lt_40 : (0 : Int32).toInt = 0 := by decide
  exact lp8 100000 0 0 0 _ _ ls (by first | omega | assumption) (by first | omega | assumption) (by first | omega | assumption) (by first | omega | assumption) (by first | omega | assumption) (by first | omega | assumption) (by omega) hP hD hS hl

set_option maxHeartbeats 4000000 in
set_option maxRecDepth 100000 in
theorem cc_X10_scanWord (l : Launch) (D : va_G) (cy : Nat → ClassId) (o : Nat) (o_by : Nat) (o_ki : Nat) (o_va : Nat) (o_pl : Nat) (o_len : Int32) (o_tok : Int32) (o_at : Int32) (o_kind : Int32) (o_value : Int32) (o_place : Int32) (o_fault : Int32) (g_oby : Nat → Int32) (g_oki : Nat → Int32) (g_ova : Nat → Int32) (g_opl : Nat → Int32) (x0 : Int32) (kt : Nat) (vt : Nat) (p0 : 0 ≤ o_len.toInt) (p1 : o_len.toInt ≤ 400) (p2 : 0 ≤ o_tok.toInt) (p3 : o_tok.toInt ≤ 401) (p4 : -1 ≤ o_at.toInt) (p5 : o_at.toInt ≤ 400) (p6 : TKV g_oki g_ova g_opl o_tok.toInt) (p7 : 0 ≤ x0.toInt) (p8 : x0.toInt ≤ o_len.toInt) : JI l yX10_scanWord cX10_scanWord 4 (some .int) 6 134 D (kTY cy) [.ref o, .int x0] [(o, .inr (10, [.ref o_by, .int o_len, .ref o_ki, .ref o_va, .ref o_pl, .int o_tok, .int o_at, .int o_kind, .int o_value, .int o_place, .int o_fault])), (o_by, .inl (cy 0, 400, .inl g_oby)), (o_ki, .inl (cy 0, 401, .inl g_oki)), (o_va, .inl (cy 0, 401, .inl g_ova)), (o_pl, .inl (cy 0, 401, .inl g_opl))] (ZT kt vt) (S := Int32 × (Nat → Int32) × (Nat → Int32) × (Nat → Int32)) (fun r u => (x0.toInt ≤ r.toInt) ∧ (r.toInt ≤ o_len.toInt) ∧ (0 ≤ (u.1).toInt) ∧ ((u.1).toInt ≤ 401) ∧ (TKV (u.2.1) (u.2.2.1) (u.2.2.2) (u.1).toInt)) (fun u => [(o, .inr (10, [.ref o_by, .int o_len, .ref o_ki, .ref o_va, .ref o_pl, .int (u.1), .int o_at, .int o_kind, .int o_value, .int o_place, .int o_fault])), (o_by, .inl (cy 0, 400, .inl g_oby)), (o_ki, .inl (cy 0, 401, .inl (u.2.1))), (o_va, .inl (cy 0, 401, .inl (u.2.2.1))), (o_pl, .inl (cy 0, 401, .inl (u.2.2.2)))]) 0 0 := by
  refine JI.of (by decide) (Nat.le_of_ble_eq_true rfl) (fun p e s m below meth c ls A F hE hP hD hA hS hl hZ => ?_)
  have F : kF p s m meth c cX10_scanWord 4 (some .int) _ RX10 := F
  obtain ⟨hx, hb, hr, hml, hown, hG, hlk⟩ := id F
  have hl : lv_has ls 4 [(0, .ref o), (1, .int x0)] := hl
  refine lv_iload_n hx hb dX10_scanWord_0 rfl (lv_at hl 1 rfl) ?_
  refine lv_istore_n (lv' := [(2, .int x0), (0, .ref o), (1, .int x0)]) hx hb dX10_scanWord_1 rfl hl (by decide) rfl (fun ls hl => ?_)
  have lp2 : ∀ (fu : Nat) (v2_2 : Int32) (H : Heap) (locs : List Loc) (ls : Array Slot), (x0.toInt ≤ v2_2.toInt) → (v2_2.toInt ≤ o_len.toInt) → o_len.toInt - v2_2.toInt < (fu : Int) → va_P D vwCl [(o, .inr (10, [.ref o_by, .int o_len, .ref o_ki, .ref o_va, .ref o_pl, .int o_tok, .int o_at, .int o_kind, .int o_value, .int o_place, .int o_fault])), (o_by, .inl (cy 0, 400, .inl g_oby)), (o_ki, .inl (cy 0, 401, .inl g_oki)), (o_va, .inl (cy 0, 401, .inl g_ova)), (o_pl, .inl (cy 0, 401, .inl g_opl))] H → va_D A [(o, .inr (10, [.ref o_by, .int o_len, .ref o_ki, .ref o_va, .ref o_pl, .int o_tok, .int o_at, .int o_kind, .int o_value, .int o_place, .int o_fault])), (o_by, .inl (cy 0, 400, .inl g_oby)), (o_ki, .inl (cy 0, 401, .inl g_oki)), (o_va, .inl (cy 0, 401, .inl g_ova)), (o_pl, .inl (cy 0, 401, .inl g_opl))] → va_S A s.heap H locs → lv_has ls 4 [(2, .int v2_2), (0, .ref o), (1, .int x0)] → W p l e (kRm 6 134 0 0) s m ([.ref o, .int x0] : List Value).toArray below meth c H locs 0 0 (MQ below (va_Qi (S := Int32 × (Nat → Int32) × (Nat → Int32) × (Nat → Int32)) (fun r u => (x0.toInt ≤ r.toInt) ∧ (r.toInt ≤ o_len.toInt) ∧ (0 ≤ (u.1).toInt) ∧ ((u.1).toInt ≤ 401) ∧ (TKV (u.2.1) (u.2.2.1) (u.2.2.2) (u.1).toInt)) (kBw D A (fun u => [(o, .inr (10, [.ref o_by, .int o_len, .ref o_ki, .ref o_va, .ref o_pl, .int (u.1), .int o_at, .int o_kind, .int o_value, .int o_place, .int o_fault])), (o_by, .inl (cy 0, 400, .inl g_oby)), (o_ki, .inl (cy 0, 401, .inl (u.2.1))), (o_va, .inl (cy 0, 401, .inl (u.2.2.1))), (o_pl, .inl (cy 0, 401, .inl (u.2.2.2)))])) A) ([.ref o, .int x0] : List Value).toArray s 0 0 A) (F0 m 2 ls []) := by
    intro fu2
    induction fu2 with
    | zero =>
      intro v2_2 H locs ls j0_2 j1_2 hm2 hP hD hS hl
      exact absurd hm2 (by omega)
    | succ fu2 ih2 =>
      intro v2_2 H locs ls j0_2 j1_2 hm2 hP hD hS hl
      refine lv_iload_n hx hb dX10_scanWord_2 rfl (lv_at hl 0 rfl) ?_
      refine lv_aload_n hx hb dX10_scanWord_3 rfl (lv_at hl 1 rfl) ?_
      refine va_get (D := D) (ci := 10) (v := .int o_len) (C := RX10) (T := TX10) (N := 11) hx hb hG inG_X10 hown hE.1 hP 0 rfl rfl 1 (by decide) (hG _ q_f_X10_15) (fun _ h9 => h9) rfl dX10_scanWord_4 ?_
      refine lv_icmp_ge (tgt := 24) hx hb dX10_scanWord_7 (by decide) (fun c_1 => ?_) (fun c_1 => ?_)
      · have ic_1 : o_len.toInt ≤ v2_2.toInt := k_le c_1 rfl rfl
        refine lv_aload_n hx hb dX10_scanWord_24 rfl (lv_at hl 1 rfl) ?_
        refine lv_iload_n hx hb dX10_scanWord_25 rfl (lv_at hl 2 rfl) ?_
        refine lv_iload_n hx hb dX10_scanWord_26 rfl (lv_at hl 0 rfl) ?_
        refine jxVI (wr := [(o_ki, .inl (cy 0, 401, .inl g_oki)), (o_va, .inl (cy 0, 401, .inl g_ova)), (o_pl, .inl (cy 0, 401, .inl g_opl))]) (As := [.int x0, .int v2_2]) (rest := []) F hE hP hD hS hA hl.1 ZT_ok hZ (cc_X10_wordOf l D cy (o := o) (x0 := x0) (x1 := v2_2) (o_by := o_by) (o_len := o_len) (o_ki := o_ki) (o_va := o_va) (o_pl := o_pl) (o_tok := o_tok) (o_at := o_at) (o_kind := o_kind) (o_value := o_value) (o_place := o_place) (o_fault := o_fault) (g_oby := g_oby) (kt := kt) (vt := vt) (p0 := (by first | omega | assumption)) (p1 := (by first | omega | assumption)) (p2 := (by first | omega | assumption))) q_m_X10_77 mv_X10_wordOf ⟨(Nat.le_of_ble_eq_true rfl), (Nat.le_of_ble_eq_true rfl)⟩ [0, 1] [2, 3, 4] (by decide) rfl rfl (by decide) (by decide) rfl rfl rfl rfl rfl (Nat.le_of_ble_eq_true rfl) ⟨(Nat.le_of_ble_eq_true rfl), (Nat.le_of_ble_eq_true rfl)⟩ dX10_scanWord_27 (fun r_3 u_2 H locs eu_2 hP hD hS => ?_)
        have eu_2 : (-1 ≤ r_3.toInt) ∧ (r_3.toInt ≤ 99999) := eu_2
        obtain ⟨eu_2a, eu_2b⟩ := eu_2
        have hP : va_P D vwCl [(o_ki, .inl (cy 0, 401, .inl g_oki)), (o_va, .inl (cy 0, 401, .inl g_ova)), (o_pl, .inl (cy 0, 401, .inl g_opl)), (o, .inr (10, [.ref o_by, .int o_len, .ref o_ki, .ref o_va, .ref o_pl, .int o_tok, .int o_at, .int o_kind, .int o_value, .int o_place, .int o_fault])), (o_by, .inl (cy 0, 400, .inl g_oby))] H := hP
        have hD : va_D A [(o_ki, .inl (cy 0, 401, .inl g_oki)), (o_va, .inl (cy 0, 401, .inl g_ova)), (o_pl, .inl (cy 0, 401, .inl g_opl)), (o, .inr (10, [.ref o_by, .int o_len, .ref o_ki, .ref o_va, .ref o_pl, .int o_tok, .int o_at, .int o_kind, .int o_value, .int o_place, .int o_fault])), (o_by, .inl (cy 0, 400, .inl g_oby))] := hD
        refine lv_istore_n (lv' := [(3, .int r_3), (2, .int v2_2), (0, .ref o), (1, .int x0)]) hx hb dX10_scanWord_30 rfl hl (by decide) rfl (fun ls hl => ?_)
        refine lv_aload_n hx hb dX10_scanWord_31 rfl (lv_at hl 2 rfl) ?_
        refine lv_iload_n hx hb dX10_scanWord_32 rfl (lv_at hl 0 rfl) ?_
        refine lv_iconst (v := (-1)) hx hb dX10_scanWord_33 (by decide) ?_
        refine lv_icmp_ne (tgt := 41) hx hb dX10_scanWord_34 (by decide) (fun c_4 => ?_) (fun c_4 => ?_)
        · have ic_4 : r_3.toInt ≠ (-1) := k_ne c_4 rfl (by decide)
          refine lv_iconst (v := 3) hx hb dX10_scanWord_41 (by decide) ?_
          refine lv_iload_n hx hb dX10_scanWord_42 rfl (lv_at hl 0 rfl) ?_
          refine lv_iload_n hx hb dX10_scanWord_43 rfl (lv_at hl 3 rfl) ?_
          have lt32_4 : (3 : Int32).toInt = 3 := by decide
          refine kwVV (wr := []) (As := [.int 3, .int r_3, .int x0]) (rest := []) F hE hP hD hS hA hl.1 (cc_X10_addToken l D cy (o := o) (x0 := 3) (x1 := r_3) (x2 := x0) (o_by := o_by) (o_len := o_len) (o_ki := o_ki) (o_va := o_va) (o_pl := o_pl) (o_tok := o_tok) (o_at := o_at) (o_kind := o_kind) (o_value := o_value) (o_place := o_place) (o_fault := o_fault) (g_oby := g_oby) (g_oki := g_oki) (g_ova := g_ova) (g_opl := g_opl) (p0 := (by first | omega | assumption)) (p1 := (by first | omega | assumption)) (p2 := (by first | omega | assumption)) (p3 := (by first | omega | assumption)) (p4 := (by first | omega | assumption)) (p5 := (by first | omega | assumption)) (p6 := (by first | omega | assumption)) (p7 := (by first | omega | assumption))) q_m_X10_50 mv_X10_addToken ⟨(Nat.le_of_ble_eq_true rfl), (Nat.le_of_ble_eq_true rfl)⟩ [3, 4, 0, 1, 2] [] (by decide) rfl rfl (by decide) (by decide) rfl rfl rfl rfl rfl (Nat.le_of_ble_eq_true rfl) ⟨(Nat.le_of_ble_eq_true rfl), (Nat.le_of_ble_eq_true rfl)⟩ dX10_scanWord_44 (fun u_6 H locs eu_6 hP hD hS => ?_)
          obtain ⟨o_tok_7, g_oki_8, g_ova_9, g_opl_10⟩ := u_6
          have eu_6 : (0 ≤ o_tok_7.toInt) ∧ (o_tok_7.toInt ≤ 401) ∧ (TKV g_oki_8 g_ova_9 g_opl_10 o_tok_7.toInt) := eu_6
          obtain ⟨eu_6a, eu_6b, eu_6c⟩ := eu_6
          have hP : va_P D vwCl [(o, .inr (10, [.ref o_by, .int o_len, .ref o_ki, .ref o_va, .ref o_pl, .int o_tok_7, .int o_at, .int o_kind, .int o_value, .int o_place, .int o_fault])), (o_by, .inl (cy 0, 400, .inl g_oby)), (o_ki, .inl (cy 0, 401, .inl g_oki_8)), (o_va, .inl (cy 0, 401, .inl g_ova_9)), (o_pl, .inl (cy 0, 401, .inl g_opl_10))] H := hP
          have hD : va_D A [(o, .inr (10, [.ref o_by, .int o_len, .ref o_ki, .ref o_va, .ref o_pl, .int o_tok_7, .int o_at, .int o_kind, .int o_value, .int o_place, .int o_fault])), (o_by, .inl (cy 0, 400, .inl g_oby)), (o_ki, .inl (cy 0, 401, .inl g_oki_8)), (o_va, .inl (cy 0, 401, .inl g_ova_9)), (o_pl, .inl (cy 0, 401, .inl g_opl_10))] := hD
          refine lv_iload_n hx hb dX10_scanWord_47 rfl (lv_at hl 1 rfl) ?_
          exact KI.rt ⟨o_tok_7, g_oki_8, g_ova_9, g_opl_10⟩ F rfl (hP.sub [0, 1, 2, 3, 4] rfl) (hD.sub [0, 1, 2, 3, 4] (by decide) rfl) hS (show (x0.toInt ≤ v2_2.toInt) ∧ (v2_2.toInt ≤ o_len.toInt) ∧ (0 ≤ o_tok_7.toInt) ∧ (o_tok_7.toInt ≤ 401) ∧ (TKV g_oki_8 g_ova_9 g_opl_10 o_tok_7.toInt) from ⟨(by first | omega | assumption), (by first | omega | assumption), (by first | omega | assumption), (by first | omega | assumption), (by first | omega | assumption)⟩) (Nat.le_of_ble_eq_true rfl) (Nat.le_of_ble_eq_true rfl) dX10_scanWord_48
        · have ic_4 : r_3.toInt = (-1) := k_eq c_4 rfl (by decide)
          refine lv_iconst (v := 5) hx hb dX10_scanWord_37 (by decide) ?_
          refine lv_goto (tgt := 42) hx hb dX10_scanWord_38 (by decide) ?_
          refine lv_iload_n hx hb dX10_scanWord_42 rfl (lv_at hl 0 rfl) ?_
          refine lv_iload_n hx hb dX10_scanWord_43 rfl (lv_at hl 3 rfl) ?_
          have lt32_10 : (5 : Int32).toInt = 5 := by decide
          refine kwVV (wr := []) (As := [.int 5, .int r_3, .int x0]) (rest := []) F hE hP hD hS hA hl.1 (cc_X10_addToken l D cy (o := o) (x0 := 5) (x1 := r_3) (x2 := x0) (o_by := o_by) (o_len := o_len) (o_ki := o_ki) (o_va := o_va) (o_pl := o_pl) (o_tok := o_tok) (o_at := o_at) (o_kind := o_kind) (o_value := o_value) (o_place := o_place) (o_fault := o_fault) (g_oby := g_oby) (g_oki := g_oki) (g_ova := g_ova) (g_opl := g_opl) (p0 := (by first | omega | assumption)) (p1 := (by first | omega | assumption)) (p2 := (by first | omega | assumption)) (p3 := (by first | omega | assumption)) (p4 := (by first | omega | assumption)) (p5 := (by first | omega | assumption)) (p6 := (by first | omega | assumption)) (p7 := (by first | omega | assumption))) q_m_X10_50 mv_X10_addToken ⟨(Nat.le_of_ble_eq_true rfl), (Nat.le_of_ble_eq_true rfl)⟩ [3, 4, 0, 1, 2] [] (by decide) rfl rfl (by decide) (by decide) rfl rfl rfl rfl rfl (Nat.le_of_ble_eq_true rfl) ⟨(Nat.le_of_ble_eq_true rfl), (Nat.le_of_ble_eq_true rfl)⟩ dX10_scanWord_44 (fun u_12 H locs eu_12 hP hD hS => ?_)
          obtain ⟨o_tok_13, g_oki_14, g_ova_15, g_opl_16⟩ := u_12
          have eu_12 : (0 ≤ o_tok_13.toInt) ∧ (o_tok_13.toInt ≤ 401) ∧ (TKV g_oki_14 g_ova_15 g_opl_16 o_tok_13.toInt) := eu_12
          obtain ⟨eu_12a, eu_12b, eu_12c⟩ := eu_12
          have hP : va_P D vwCl [(o, .inr (10, [.ref o_by, .int o_len, .ref o_ki, .ref o_va, .ref o_pl, .int o_tok_13, .int o_at, .int o_kind, .int o_value, .int o_place, .int o_fault])), (o_by, .inl (cy 0, 400, .inl g_oby)), (o_ki, .inl (cy 0, 401, .inl g_oki_14)), (o_va, .inl (cy 0, 401, .inl g_ova_15)), (o_pl, .inl (cy 0, 401, .inl g_opl_16))] H := hP
          have hD : va_D A [(o, .inr (10, [.ref o_by, .int o_len, .ref o_ki, .ref o_va, .ref o_pl, .int o_tok_13, .int o_at, .int o_kind, .int o_value, .int o_place, .int o_fault])), (o_by, .inl (cy 0, 400, .inl g_oby)), (o_ki, .inl (cy 0, 401, .inl g_oki_14)), (o_va, .inl (cy 0, 401, .inl g_ova_15)), (o_pl, .inl (cy 0, 401, .inl g_opl_16))] := hD
          refine lv_iload_n hx hb dX10_scanWord_47 rfl (lv_at hl 1 rfl) ?_
          exact KI.rt ⟨o_tok_13, g_oki_14, g_ova_15, g_opl_16⟩ F rfl (hP.sub [0, 1, 2, 3, 4] rfl) (hD.sub [0, 1, 2, 3, 4] (by decide) rfl) hS (show (x0.toInt ≤ v2_2.toInt) ∧ (v2_2.toInt ≤ o_len.toInt) ∧ (0 ≤ o_tok_13.toInt) ∧ (o_tok_13.toInt ≤ 401) ∧ (TKV g_oki_14 g_ova_15 g_opl_16 o_tok_13.toInt) from ⟨(by first | omega | assumption), (by first | omega | assumption), (by first | omega | assumption), (by first | omega | assumption), (by first | omega | assumption)⟩) (Nat.le_of_ble_eq_true rfl) (Nat.le_of_ble_eq_true rfl) dX10_scanWord_48
      · have ic_1 : v2_2.toInt < o_len.toInt := k_nle c_1 rfl rfl
        refine lv_aload_n hx hb dX10_scanWord_10 rfl (lv_at hl 1 rfl) ?_
        refine lv_iload_n hx hb dX10_scanWord_11 rfl (lv_at hl 0 rfl) ?_
        refine kcV (As := [.int v2_2]) (rest := []) F hE hP hl.1 (cc_X10_isLetter l D cy (o := o) (x0 := v2_2) (o_by := o_by) (o_len := o_len) (o_ki := o_ki) (o_va := o_va) (o_pl := o_pl) (o_tok := o_tok) (o_at := o_at) (o_kind := o_kind) (o_value := o_value) (o_place := o_place) (o_fault := o_fault) (g_oby := g_oby) (p0 := (by first | omega | assumption)) (p1 := (by first | omega | assumption))) q_m_X10_71 mv_X10_isLetter ⟨(Nat.le_of_ble_eq_true rfl), (Nat.le_of_ble_eq_true rfl)⟩ [0, 1] rfl rfl rfl rfl rfl rfl (Nat.le_of_ble_eq_true rfl) ⟨(Nat.le_of_ble_eq_true rfl), (Nat.le_of_ble_eq_true rfl)⟩ dX10_scanWord_12 (fun r_17 er_17 => ?_)
        have er_17 : (r_17.toInt = 0 ∨ r_17.toInt = 1) := er_17
        refine lv_if_eq (tgt := 24) hx hb dX10_scanWord_15 (by decide) (fun c_18 => ?_) (fun c_18 => ?_)
        · have ic_18 : r_17.toInt = 0 := k_eq c_18 rfl (by decide)
          clear er_17
          refine lv_aload_n hx hb dX10_scanWord_24 rfl (lv_at hl 1 rfl) ?_
          refine lv_iload_n hx hb dX10_scanWord_25 rfl (lv_at hl 2 rfl) ?_
          refine lv_iload_n hx hb dX10_scanWord_26 rfl (lv_at hl 0 rfl) ?_
          refine jxVI (wr := [(o_ki, .inl (cy 0, 401, .inl g_oki)), (o_va, .inl (cy 0, 401, .inl g_ova)), (o_pl, .inl (cy 0, 401, .inl g_opl))]) (As := [.int x0, .int v2_2]) (rest := []) F hE hP hD hS hA hl.1 ZT_ok hZ (cc_X10_wordOf l D cy (o := o) (x0 := x0) (x1 := v2_2) (o_by := o_by) (o_len := o_len) (o_ki := o_ki) (o_va := o_va) (o_pl := o_pl) (o_tok := o_tok) (o_at := o_at) (o_kind := o_kind) (o_value := o_value) (o_place := o_place) (o_fault := o_fault) (g_oby := g_oby) (kt := kt) (vt := vt) (p0 := (by first | omega | assumption)) (p1 := (by first | omega | assumption)) (p2 := (by first | omega | assumption))) q_m_X10_77 mv_X10_wordOf ⟨(Nat.le_of_ble_eq_true rfl), (Nat.le_of_ble_eq_true rfl)⟩ [0, 1] [2, 3, 4] (by decide) rfl rfl (by decide) (by decide) rfl rfl rfl rfl rfl (Nat.le_of_ble_eq_true rfl) ⟨(Nat.le_of_ble_eq_true rfl), (Nat.le_of_ble_eq_true rfl)⟩ dX10_scanWord_27 (fun r_20 u_19 H locs eu_19 hP hD hS => ?_)
          have eu_19 : (-1 ≤ r_20.toInt) ∧ (r_20.toInt ≤ 99999) := eu_19
          obtain ⟨eu_19a, eu_19b⟩ := eu_19
          have hP : va_P D vwCl [(o_ki, .inl (cy 0, 401, .inl g_oki)), (o_va, .inl (cy 0, 401, .inl g_ova)), (o_pl, .inl (cy 0, 401, .inl g_opl)), (o, .inr (10, [.ref o_by, .int o_len, .ref o_ki, .ref o_va, .ref o_pl, .int o_tok, .int o_at, .int o_kind, .int o_value, .int o_place, .int o_fault])), (o_by, .inl (cy 0, 400, .inl g_oby))] H := hP
          have hD : va_D A [(o_ki, .inl (cy 0, 401, .inl g_oki)), (o_va, .inl (cy 0, 401, .inl g_ova)), (o_pl, .inl (cy 0, 401, .inl g_opl)), (o, .inr (10, [.ref o_by, .int o_len, .ref o_ki, .ref o_va, .ref o_pl, .int o_tok, .int o_at, .int o_kind, .int o_value, .int o_place, .int o_fault])), (o_by, .inl (cy 0, 400, .inl g_oby))] := hD
          refine lv_istore_n (lv' := [(3, .int r_20), (2, .int v2_2), (0, .ref o), (1, .int x0)]) hx hb dX10_scanWord_30 rfl hl (by decide) rfl (fun ls hl => ?_)
          refine lv_aload_n hx hb dX10_scanWord_31 rfl (lv_at hl 2 rfl) ?_
          refine lv_iload_n hx hb dX10_scanWord_32 rfl (lv_at hl 0 rfl) ?_
          refine lv_iconst (v := (-1)) hx hb dX10_scanWord_33 (by decide) ?_
          refine lv_icmp_ne (tgt := 41) hx hb dX10_scanWord_34 (by decide) (fun c_21 => ?_) (fun c_21 => ?_)
          · have ic_21 : r_20.toInt ≠ (-1) := k_ne c_21 rfl (by decide)
            refine lv_iconst (v := 3) hx hb dX10_scanWord_41 (by decide) ?_
            refine lv_iload_n hx hb dX10_scanWord_42 rfl (lv_at hl 0 rfl) ?_
            refine lv_iload_n hx hb dX10_scanWord_43 rfl (lv_at hl 3 rfl) ?_
            have lt32_21 : (3 : Int32).toInt = 3 := by decide
            refine kwVV (wr := []) (As := [.int 3, .int r_20, .int x0]) (rest := []) F hE hP hD hS hA hl.1 (cc_X10_addToken l D cy (o := o) (x0 := 3) (x1 := r_20) (x2 := x0) (o_by := o_by) (o_len := o_len) (o_ki := o_ki) (o_va := o_va) (o_pl := o_pl) (o_tok := o_tok) (o_at := o_at) (o_kind := o_kind) (o_value := o_value) (o_place := o_place) (o_fault := o_fault) (g_oby := g_oby) (g_oki := g_oki) (g_ova := g_ova) (g_opl := g_opl) (p0 := (by first | omega | assumption)) (p1 := (by first | omega | assumption)) (p2 := (by first | omega | assumption)) (p3 := (by first | omega | assumption)) (p4 := (by first | omega | assumption)) (p5 := (by first | omega | assumption)) (p6 := (by first | omega | assumption)) (p7 := (by first | omega | assumption))) q_m_X10_50 mv_X10_addToken ⟨(Nat.le_of_ble_eq_true rfl), (Nat.le_of_ble_eq_true rfl)⟩ [3, 4, 0, 1, 2] [] (by decide) rfl rfl (by decide) (by decide) rfl rfl rfl rfl rfl (Nat.le_of_ble_eq_true rfl) ⟨(Nat.le_of_ble_eq_true rfl), (Nat.le_of_ble_eq_true rfl)⟩ dX10_scanWord_44 (fun u_23 H locs eu_23 hP hD hS => ?_)
            obtain ⟨o_tok_24, g_oki_25, g_ova_26, g_opl_27⟩ := u_23
            have eu_23 : (0 ≤ o_tok_24.toInt) ∧ (o_tok_24.toInt ≤ 401) ∧ (TKV g_oki_25 g_ova_26 g_opl_27 o_tok_24.toInt) := eu_23
            obtain ⟨eu_23a, eu_23b, eu_23c⟩ := eu_23
            have hP : va_P D vwCl [(o, .inr (10, [.ref o_by, .int o_len, .ref o_ki, .ref o_va, .ref o_pl, .int o_tok_24, .int o_at, .int o_kind, .int o_value, .int o_place, .int o_fault])), (o_by, .inl (cy 0, 400, .inl g_oby)), (o_ki, .inl (cy 0, 401, .inl g_oki_25)), (o_va, .inl (cy 0, 401, .inl g_ova_26)), (o_pl, .inl (cy 0, 401, .inl g_opl_27))] H := hP
            have hD : va_D A [(o, .inr (10, [.ref o_by, .int o_len, .ref o_ki, .ref o_va, .ref o_pl, .int o_tok_24, .int o_at, .int o_kind, .int o_value, .int o_place, .int o_fault])), (o_by, .inl (cy 0, 400, .inl g_oby)), (o_ki, .inl (cy 0, 401, .inl g_oki_25)), (o_va, .inl (cy 0, 401, .inl g_ova_26)), (o_pl, .inl (cy 0, 401, .inl g_opl_27))] := hD
            refine lv_iload_n hx hb dX10_scanWord_47 rfl (lv_at hl 1 rfl) ?_
            exact KI.rt ⟨o_tok_24, g_oki_25, g_ova_26, g_opl_27⟩ F rfl (hP.sub [0, 1, 2, 3, 4] rfl) (hD.sub [0, 1, 2, 3, 4] (by decide) rfl) hS (show (x0.toInt ≤ v2_2.toInt) ∧ (v2_2.toInt ≤ o_len.toInt) ∧ (0 ≤ o_tok_24.toInt) ∧ (o_tok_24.toInt ≤ 401) ∧ (TKV g_oki_25 g_ova_26 g_opl_27 o_tok_24.toInt) from ⟨(by first | omega | assumption), (by first | omega | assumption), (by first | omega | assumption), (by first | omega | assumption), (by first | omega | assumption)⟩) (Nat.le_of_ble_eq_true rfl) (Nat.le_of_ble_eq_true rfl) dX10_scanWord_48
          · have ic_21 : r_20.toInt = (-1) := k_eq c_21 rfl (by decide)
            refine lv_iconst (v := 5) hx hb dX10_scanWord_37 (by decide) ?_
            refine lv_goto (tgt := 42) hx hb dX10_scanWord_38 (by decide) ?_
            refine lv_iload_n hx hb dX10_scanWord_42 rfl (lv_at hl 0 rfl) ?_
            refine lv_iload_n hx hb dX10_scanWord_43 rfl (lv_at hl 3 rfl) ?_
            have lt32_27 : (5 : Int32).toInt = 5 := by decide
            refine kwVV (wr := []) (As := [.int 5, .int r_20, .int x0]) (rest := []) F hE hP hD hS hA hl.1 (cc_X10_addToken l D cy (o := o) (x0 := 5) (x1 := r_20) (x2 := x0) (o_by := o_by) (o_len := o_len) (o_ki := o_ki) (o_va := o_va) (o_pl := o_pl) (o_tok := o_tok) (o_at := o_at) (o_kind := o_kind) (o_value := o_value) (o_place := o_place) (o_fault := o_fault) (g_oby := g_oby) (g_oki := g_oki) (g_ova := g_ova) (g_opl := g_opl) (p0 := (by first | omega | assumption)) (p1 := (by first | omega | assumption)) (p2 := (by first | omega | assumption)) (p3 := (by first | omega | assumption)) (p4 := (by first | omega | assumption)) (p5 := (by first | omega | assumption)) (p6 := (by first | omega | assumption)) (p7 := (by first | omega | assumption))) q_m_X10_50 mv_X10_addToken ⟨(Nat.le_of_ble_eq_true rfl), (Nat.le_of_ble_eq_true rfl)⟩ [3, 4, 0, 1, 2] [] (by decide) rfl rfl (by decide) (by decide) rfl rfl rfl rfl rfl (Nat.le_of_ble_eq_true rfl) ⟨(Nat.le_of_ble_eq_true rfl), (Nat.le_of_ble_eq_true rfl)⟩ dX10_scanWord_44 (fun u_29 H locs eu_29 hP hD hS => ?_)
            obtain ⟨o_tok_30, g_oki_31, g_ova_32, g_opl_33⟩ := u_29
            have eu_29 : (0 ≤ o_tok_30.toInt) ∧ (o_tok_30.toInt ≤ 401) ∧ (TKV g_oki_31 g_ova_32 g_opl_33 o_tok_30.toInt) := eu_29
            obtain ⟨eu_29a, eu_29b, eu_29c⟩ := eu_29
            have hP : va_P D vwCl [(o, .inr (10, [.ref o_by, .int o_len, .ref o_ki, .ref o_va, .ref o_pl, .int o_tok_30, .int o_at, .int o_kind, .int o_value, .int o_place, .int o_fault])), (o_by, .inl (cy 0, 400, .inl g_oby)), (o_ki, .inl (cy 0, 401, .inl g_oki_31)), (o_va, .inl (cy 0, 401, .inl g_ova_32)), (o_pl, .inl (cy 0, 401, .inl g_opl_33))] H := hP
            have hD : va_D A [(o, .inr (10, [.ref o_by, .int o_len, .ref o_ki, .ref o_va, .ref o_pl, .int o_tok_30, .int o_at, .int o_kind, .int o_value, .int o_place, .int o_fault])), (o_by, .inl (cy 0, 400, .inl g_oby)), (o_ki, .inl (cy 0, 401, .inl g_oki_31)), (o_va, .inl (cy 0, 401, .inl g_ova_32)), (o_pl, .inl (cy 0, 401, .inl g_opl_33))] := hD
            refine lv_iload_n hx hb dX10_scanWord_47 rfl (lv_at hl 1 rfl) ?_
            exact KI.rt ⟨o_tok_30, g_oki_31, g_ova_32, g_opl_33⟩ F rfl (hP.sub [0, 1, 2, 3, 4] rfl) (hD.sub [0, 1, 2, 3, 4] (by decide) rfl) hS (show (x0.toInt ≤ v2_2.toInt) ∧ (v2_2.toInt ≤ o_len.toInt) ∧ (0 ≤ o_tok_30.toInt) ∧ (o_tok_30.toInt ≤ 401) ∧ (TKV g_oki_31 g_ova_32 g_opl_33 o_tok_30.toInt) from ⟨(by first | omega | assumption), (by first | omega | assumption), (by first | omega | assumption), (by first | omega | assumption), (by first | omega | assumption)⟩) (Nat.le_of_ble_eq_true rfl) (Nat.le_of_ble_eq_true rfl) dX10_scanWord_48
        · have ic_18 : r_17.toInt ≠ 0 := k_ne c_18 rfl (by decide)
          clear er_17
          obtain ⟨z_34, ez_34⟩ : ∃ y : Int32, y = v2_2 + Int32.ofInt 1 := ⟨_, rfl⟩
          have iz_34 : z_34.toInt = v2_2.toInt + 1 := k_addI ez_34 rfl (by decide) (by omega)
          refine lv_iinc (v := z_34) (lv' := [(2, .int z_34), (0, .ref o), (1, .int x0)]) hx hb dX10_scanWord_18 hl (k := 0) rfl ez_34.symm (by decide) rfl (fun ls hl => ?_)
          refine lv_goto (tgt := 2) hx hb dX10_scanWord_21 (by decide) ?_
          exact ih2 z_34 _ _ ls (by first | omega | assumption) (by first | omega | assumption) (by omega) hP hD hS (lv_sub hl [0, 1, 2] rfl)
  exact lp2 100000 x0 _ _ ls (by first | omega | assumption) (by first | omega | assumption) (by omega) hP hD hS hl

set_option maxHeartbeats 4000000 in
set_option maxRecDepth 100000 in
theorem cc_X10_scanToken (l : Launch) (D : va_G) (cy : Nat → ClassId) (o : Nat) (o_by : Nat) (o_ki : Nat) (o_va : Nat) (o_pl : Nat) (o_len : Int32) (o_tok : Int32) (o_at : Int32) (o_kind : Int32) (o_value : Int32) (o_place : Int32) (o_fault : Int32) (g_oby : Nat → Int32) (g_oki : Nat → Int32) (g_ova : Nat → Int32) (g_opl : Nat → Int32) (x0 : Int32) (kt : Nat) (vt : Nat) (p0 : 0 ≤ o_len.toInt) (p1 : o_len.toInt ≤ 400) (p2 : 0 ≤ o_tok.toInt) (p3 : o_tok.toInt ≤ 401) (p4 : -1 ≤ o_at.toInt) (p5 : o_at.toInt ≤ 400) (p6 : TKV g_oki g_ova g_opl o_tok.toInt) (p7 : 0 ≤ x0.toInt) (p8 : x0.toInt < o_len.toInt) : JI l yX10_scanToken cX10_scanToken 4 (some .int) 7 157 D (kTY cy) [.ref o, .int x0] [(o, .inr (10, [.ref o_by, .int o_len, .ref o_ki, .ref o_va, .ref o_pl, .int o_tok, .int o_at, .int o_kind, .int o_value, .int o_place, .int o_fault])), (o_by, .inl (cy 0, 400, .inl g_oby)), (o_ki, .inl (cy 0, 401, .inl g_oki)), (o_va, .inl (cy 0, 401, .inl g_ova)), (o_pl, .inl (cy 0, 401, .inl g_opl))] (ZT kt vt) (S := Int32 × (Nat → Int32) × (Nat → Int32) × (Nat → Int32)) (fun r u => (x0.toInt ≤ r.toInt) ∧ (r.toInt ≤ o_len.toInt) ∧ (0 ≤ (u.1).toInt) ∧ ((u.1).toInt ≤ 401) ∧ (TKV (u.2.1) (u.2.2.1) (u.2.2.2) (u.1).toInt)) (fun u => [(o, .inr (10, [.ref o_by, .int o_len, .ref o_ki, .ref o_va, .ref o_pl, .int (u.1), .int o_at, .int o_kind, .int o_value, .int o_place, .int o_fault])), (o_by, .inl (cy 0, 400, .inl g_oby)), (o_ki, .inl (cy 0, 401, .inl (u.2.1))), (o_va, .inl (cy 0, 401, .inl (u.2.2.1))), (o_pl, .inl (cy 0, 401, .inl (u.2.2.2)))]) 0 0 := by
  refine JI.of (by decide) (Nat.le_of_ble_eq_true rfl) (fun p e s m below meth c ls A F hE hP hD hA hS hl hZ => ?_)
  have F : kF p s m meth c cX10_scanToken 4 (some .int) _ RX10 := F
  obtain ⟨hx, hb, hr, hml, hown, hG, hlk⟩ := id F
  have hl : lv_has ls 4 [(0, .ref o), (1, .int x0)] := hl
  refine lv_aload_n hx hb dX10_scanToken_0 rfl (lv_at hl 0 rfl) ?_
  refine lv_iload_n hx hb dX10_scanToken_1 rfl (lv_at hl 1 rfl) ?_
  refine kcV (As := [.int x0]) (rest := []) F hE hP hl.1 (cc_X10_isDigit l D cy (o := o) (x0 := x0) (o_by := o_by) (o_len := o_len) (o_ki := o_ki) (o_va := o_va) (o_pl := o_pl) (o_tok := o_tok) (o_at := o_at) (o_kind := o_kind) (o_value := o_value) (o_place := o_place) (o_fault := o_fault) (g_oby := g_oby) (p0 := (by first | omega | assumption)) (p1 := (by first | omega | assumption))) q_m_X10_65 mv_X10_isDigit ⟨(Nat.le_of_ble_eq_true rfl), (Nat.le_of_ble_eq_true rfl)⟩ [0, 1] rfl rfl rfl rfl rfl rfl (Nat.le_of_ble_eq_true rfl) ⟨(Nat.le_of_ble_eq_true rfl), (Nat.le_of_ble_eq_true rfl)⟩ dX10_scanToken_2 (fun r_1 er_1 => ?_)
  have er_1 : (r_1.toInt = 0 ∨ r_1.toInt = 1) ∧ ((r_1.toInt ≠ 0 → 48 ≤ (g_oby (Int32.toNatClampNeg x0)).toInt ∧ (g_oby (Int32.toNatClampNeg x0)).toInt ≤ 57)) := er_1
  obtain ⟨er_1a, er_1b⟩ := er_1
  refine lv_if_eq (tgt := 14) hx hb dX10_scanToken_5 (by decide) (fun c_2 => ?_) (fun c_2 => ?_)
  · have ic_2 : r_1.toInt = 0 := k_eq c_2 rfl (by decide)
    clear er_1b er_1a
    refine lv_aload_n hx hb dX10_scanToken_14 rfl (lv_at hl 0 rfl) ?_
    refine lv_iload_n hx hb dX10_scanToken_15 rfl (lv_at hl 1 rfl) ?_
    refine kcV (As := [.int x0]) (rest := []) F hE hP hl.1 (cc_X10_isLetter l D cy (o := o) (x0 := x0) (o_by := o_by) (o_len := o_len) (o_ki := o_ki) (o_va := o_va) (o_pl := o_pl) (o_tok := o_tok) (o_at := o_at) (o_kind := o_kind) (o_value := o_value) (o_place := o_place) (o_fault := o_fault) (g_oby := g_oby) (p0 := (by first | omega | assumption)) (p1 := (by first | omega | assumption))) q_m_X10_71 mv_X10_isLetter ⟨(Nat.le_of_ble_eq_true rfl), (Nat.le_of_ble_eq_true rfl)⟩ [0, 1] rfl rfl rfl rfl rfl rfl (Nat.le_of_ble_eq_true rfl) ⟨(Nat.le_of_ble_eq_true rfl), (Nat.le_of_ble_eq_true rfl)⟩ dX10_scanToken_16 (fun r_3 er_3 => ?_)
    have er_3 : (r_3.toInt = 0 ∨ r_3.toInt = 1) := er_3
    refine lv_if_eq (tgt := 28) hx hb dX10_scanToken_19 (by decide) (fun c_4 => ?_) (fun c_4 => ?_)
    · have ic_4 : r_3.toInt = 0 := k_eq c_4 rfl (by decide)
      clear er_3
      refine lv_aload_n hx hb dX10_scanToken_28 rfl (lv_at hl 0 rfl) ?_
      refine va_get (D := D) (ci := 10) (v := .ref o_by) (C := RX10) (T := TX10) (N := 11) hx hb hG inG_X10 hown hE.1 hP 0 rfl rfl 0 (by decide) (hG _ q_f_X10_11) (fun _ h9 => h9) rfl dX10_scanToken_29 ?_
      refine lv_iload_n hx hb dX10_scanToken_32 rfl (lv_at hl 1 rfl) ?_
      refine va_iald hx hb hE.1 hP 1 0 rfl rfl (k_in (by omega)) dX10_scanToken_33 ?_
      refine k_top (z := (g_oby (Int32.toNatClampNeg x0))) rfl ?_
      refine lv_istore_n (lv' := [(2, .int (g_oby (Int32.toNatClampNeg x0))), (0, .ref o), (1, .int x0)]) hx hb dX10_scanToken_34 rfl hl (by decide) rfl (fun ls hl => ?_)
      refine lv_iload_n hx hb dX10_scanToken_35 rfl (lv_at hl 0 rfl) ?_
      refine lv_bipush (v := 60) hx hb dX10_scanToken_36 (by decide) ?_
      refine lv_icmp_eq (tgt := 47) hx hb dX10_scanToken_38 (by decide) (fun c_5 => ?_) (fun c_5 => ?_)
      · have ic_5 : (g_oby (Int32.toNatClampNeg x0)).toInt = 60 := k_eq c_5 rfl (by decide)
        refine lv_iconst (v := 1) hx hb dX10_scanToken_47 (by decide) ?_
        refine lv_goto (tgt := 52) hx hb dX10_scanToken_48 (by decide) ?_
        refine lv_istore_n (lv' := [(3, .int 1), (2, .int (g_oby (Int32.toNatClampNeg x0))), (0, .ref o), (1, .int x0)]) hx hb dX10_scanToken_52 rfl hl (by decide) rfl (fun ls hl => ?_)
        refine lv_iload_n hx hb dX10_scanToken_53 rfl (lv_at hl 0 rfl) ?_
        refine lv_if_eq (tgt := 95) hx hb dX10_scanToken_54 (by decide) (fun q => absurd q (by decide)) (fun _ => ?_)
        refine lv_iload_n hx hb dX10_scanToken_57 rfl (lv_at hl 3 rfl) ?_
        refine lv_iconst (v := 1) hx hb dX10_scanToken_58 (by decide) ?_
        refine lv_iadd hx hb dX10_scanToken_59 ?_
        refine lv_topi (fun z_6 ez_6 => ?_)
        have iz_6 : z_6.toInt = x0.toInt + 1 := k_addI ez_6 rfl (by decide) (by omega)
        refine lv_aload_n hx hb dX10_scanToken_60 rfl (lv_at hl 2 rfl) ?_
        refine va_get (D := D) (ci := 10) (v := .int o_len) (C := RX10) (T := TX10) (N := 11) hx hb hG inG_X10 hown hE.1 hP 0 rfl rfl 1 (by decide) (hG _ q_f_X10_15) (fun _ h9 => h9) rfl dX10_scanToken_61 ?_
        refine lv_icmp_ge (tgt := 95) hx hb dX10_scanToken_64 (by decide) (fun c_7 => ?_) (fun c_7 => ?_)
        · have ic_7 : o_len.toInt ≤ z_6.toInt := k_le c_7 rfl rfl
          refine lv_aload_n hx hb dX10_scanToken_95 rfl (lv_at hl 2 rfl) ?_
          refine lv_iconst (v := 4) hx hb dX10_scanToken_96 (by decide) ?_
          refine lv_iload_n hx hb dX10_scanToken_97 rfl (lv_at hl 1 rfl) ?_
          refine lv_iload_n hx hb dX10_scanToken_98 rfl (lv_at hl 3 rfl) ?_
          have lt32_7 : (4 : Int32).toInt = 4 := by decide
          refine kwVV (wr := []) (As := [.int 4, .int (g_oby (Int32.toNatClampNeg x0)), .int x0]) (rest := []) F hE hP hD hS hA hl.1 (cc_X10_addToken l D cy (o := o) (x0 := 4) (x1 := (g_oby (Int32.toNatClampNeg x0))) (x2 := x0) (o_by := o_by) (o_len := o_len) (o_ki := o_ki) (o_va := o_va) (o_pl := o_pl) (o_tok := o_tok) (o_at := o_at) (o_kind := o_kind) (o_value := o_value) (o_place := o_place) (o_fault := o_fault) (g_oby := g_oby) (g_oki := g_oki) (g_ova := g_ova) (g_opl := g_opl) (p0 := (by first | omega | assumption)) (p1 := (by first | omega | assumption)) (p2 := (by first | omega | assumption)) (p3 := (by first | omega | assumption)) (p4 := (by first | omega | assumption)) (p5 := (by first | omega | assumption)) (p6 := (by first | omega | assumption)) (p7 := (by first | omega | assumption))) q_m_X10_50 mv_X10_addToken ⟨(Nat.le_of_ble_eq_true rfl), (Nat.le_of_ble_eq_true rfl)⟩ [0, 1, 2, 3, 4] [] (by decide) rfl rfl (by decide) (by decide) rfl rfl rfl rfl rfl (Nat.le_of_ble_eq_true rfl) ⟨(Nat.le_of_ble_eq_true rfl), (Nat.le_of_ble_eq_true rfl)⟩ dX10_scanToken_99 (fun u_9 H locs eu_9 hP hD hS => ?_)
          obtain ⟨o_tok_10, g_oki_11, g_ova_12, g_opl_13⟩ := u_9
          have eu_9 : (0 ≤ o_tok_10.toInt) ∧ (o_tok_10.toInt ≤ 401) ∧ (TKV g_oki_11 g_ova_12 g_opl_13 o_tok_10.toInt) := eu_9
          obtain ⟨eu_9a, eu_9b, eu_9c⟩ := eu_9
          have hP : va_P D vwCl [(o, .inr (10, [.ref o_by, .int o_len, .ref o_ki, .ref o_va, .ref o_pl, .int o_tok_10, .int o_at, .int o_kind, .int o_value, .int o_place, .int o_fault])), (o_by, .inl (cy 0, 400, .inl g_oby)), (o_ki, .inl (cy 0, 401, .inl g_oki_11)), (o_va, .inl (cy 0, 401, .inl g_ova_12)), (o_pl, .inl (cy 0, 401, .inl g_opl_13))] H := hP
          have hD : va_D A [(o, .inr (10, [.ref o_by, .int o_len, .ref o_ki, .ref o_va, .ref o_pl, .int o_tok_10, .int o_at, .int o_kind, .int o_value, .int o_place, .int o_fault])), (o_by, .inl (cy 0, 400, .inl g_oby)), (o_ki, .inl (cy 0, 401, .inl g_oki_11)), (o_va, .inl (cy 0, 401, .inl g_ova_12)), (o_pl, .inl (cy 0, 401, .inl g_opl_13))] := hD
          refine lv_iload_n hx hb dX10_scanToken_102 rfl (lv_at hl 3 rfl) ?_
          refine lv_iconst (v := 1) hx hb dX10_scanToken_103 (by decide) ?_
          refine lv_iadd hx hb dX10_scanToken_104 ?_
          refine lv_topi (fun z_14 ez_14 => ?_)
          have iz_14 : z_14.toInt = x0.toInt + 1 := k_addI ez_14 rfl (by decide) (by omega)
          exact KI.rt ⟨o_tok_10, g_oki_11, g_ova_12, g_opl_13⟩ F rfl (hP.sub [0, 1, 2, 3, 4] rfl) (hD.sub [0, 1, 2, 3, 4] (by decide) rfl) hS (show (x0.toInt ≤ z_14.toInt) ∧ (z_14.toInt ≤ o_len.toInt) ∧ (0 ≤ o_tok_10.toInt) ∧ (o_tok_10.toInt ≤ 401) ∧ (TKV g_oki_11 g_ova_12 g_opl_13 o_tok_10.toInt) from ⟨(by first | omega | assumption), (by first | omega | assumption), (by first | omega | assumption), (by first | omega | assumption), (by first | omega | assumption)⟩) (Nat.le_of_ble_eq_true rfl) (Nat.le_of_ble_eq_true rfl) dX10_scanToken_105
        · have ic_7 : z_6.toInt < o_len.toInt := k_nle c_7 rfl rfl
          refine lv_aload_n hx hb dX10_scanToken_67 rfl (lv_at hl 2 rfl) ?_
          refine va_get (D := D) (ci := 10) (v := .ref o_by) (C := RX10) (T := TX10) (N := 11) hx hb hG inG_X10 hown hE.1 hP 0 rfl rfl 0 (by decide) (hG _ q_f_X10_11) (fun _ h9 => h9) rfl dX10_scanToken_68 ?_
          refine lv_iload_n hx hb dX10_scanToken_71 rfl (lv_at hl 3 rfl) ?_
          refine lv_iconst (v := 1) hx hb dX10_scanToken_72 (by decide) ?_
          refine lv_iadd hx hb dX10_scanToken_73 ?_
          refine lv_topi (fun z_15 ez_15 => ?_)
          have iz_15 : z_15.toInt = x0.toInt + 1 := k_addI ez_15 rfl (by decide) (by omega)
          refine va_iald hx hb hE.1 hP 1 0 rfl rfl (k_in (by omega)) dX10_scanToken_74 ?_
          refine k_top (z := (g_oby (Int32.toNatClampNeg z_15))) rfl ?_
          refine lv_bipush (v := 61) hx hb dX10_scanToken_75 (by decide) ?_
          refine lv_icmp_ne (tgt := 95) hx hb dX10_scanToken_77 (by decide) (fun c_16 => ?_) (fun c_16 => ?_)
          · have ic_16 : (g_oby (Int32.toNatClampNeg z_15)).toInt ≠ 61 := k_ne c_16 rfl (by decide)
            refine lv_aload_n hx hb dX10_scanToken_95 rfl (lv_at hl 2 rfl) ?_
            refine lv_iconst (v := 4) hx hb dX10_scanToken_96 (by decide) ?_
            refine lv_iload_n hx hb dX10_scanToken_97 rfl (lv_at hl 1 rfl) ?_
            refine lv_iload_n hx hb dX10_scanToken_98 rfl (lv_at hl 3 rfl) ?_
            have lt32_16 : (4 : Int32).toInt = 4 := by decide
            refine kwVV (wr := []) (As := [.int 4, .int (g_oby (Int32.toNatClampNeg x0)), .int x0]) (rest := []) F hE hP hD hS hA hl.1 (cc_X10_addToken l D cy (o := o) (x0 := 4) (x1 := (g_oby (Int32.toNatClampNeg x0))) (x2 := x0) (o_by := o_by) (o_len := o_len) (o_ki := o_ki) (o_va := o_va) (o_pl := o_pl) (o_tok := o_tok) (o_at := o_at) (o_kind := o_kind) (o_value := o_value) (o_place := o_place) (o_fault := o_fault) (g_oby := g_oby) (g_oki := g_oki) (g_ova := g_ova) (g_opl := g_opl) (p0 := (by first | omega | assumption)) (p1 := (by first | omega | assumption)) (p2 := (by first | omega | assumption)) (p3 := (by first | omega | assumption)) (p4 := (by first | omega | assumption)) (p5 := (by first | omega | assumption)) (p6 := (by first | omega | assumption)) (p7 := (by first | omega | assumption))) q_m_X10_50 mv_X10_addToken ⟨(Nat.le_of_ble_eq_true rfl), (Nat.le_of_ble_eq_true rfl)⟩ [0, 1, 2, 3, 4] [] (by decide) rfl rfl (by decide) (by decide) rfl rfl rfl rfl rfl (Nat.le_of_ble_eq_true rfl) ⟨(Nat.le_of_ble_eq_true rfl), (Nat.le_of_ble_eq_true rfl)⟩ dX10_scanToken_99 (fun u_18 H locs eu_18 hP hD hS => ?_)
            obtain ⟨o_tok_19, g_oki_20, g_ova_21, g_opl_22⟩ := u_18
            have eu_18 : (0 ≤ o_tok_19.toInt) ∧ (o_tok_19.toInt ≤ 401) ∧ (TKV g_oki_20 g_ova_21 g_opl_22 o_tok_19.toInt) := eu_18
            obtain ⟨eu_18a, eu_18b, eu_18c⟩ := eu_18
            have hP : va_P D vwCl [(o, .inr (10, [.ref o_by, .int o_len, .ref o_ki, .ref o_va, .ref o_pl, .int o_tok_19, .int o_at, .int o_kind, .int o_value, .int o_place, .int o_fault])), (o_by, .inl (cy 0, 400, .inl g_oby)), (o_ki, .inl (cy 0, 401, .inl g_oki_20)), (o_va, .inl (cy 0, 401, .inl g_ova_21)), (o_pl, .inl (cy 0, 401, .inl g_opl_22))] H := hP
            have hD : va_D A [(o, .inr (10, [.ref o_by, .int o_len, .ref o_ki, .ref o_va, .ref o_pl, .int o_tok_19, .int o_at, .int o_kind, .int o_value, .int o_place, .int o_fault])), (o_by, .inl (cy 0, 400, .inl g_oby)), (o_ki, .inl (cy 0, 401, .inl g_oki_20)), (o_va, .inl (cy 0, 401, .inl g_ova_21)), (o_pl, .inl (cy 0, 401, .inl g_opl_22))] := hD
            refine lv_iload_n hx hb dX10_scanToken_102 rfl (lv_at hl 3 rfl) ?_
            refine lv_iconst (v := 1) hx hb dX10_scanToken_103 (by decide) ?_
            refine lv_iadd hx hb dX10_scanToken_104 ?_
            refine lv_topi (fun z_23 ez_23 => ?_)
            have iz_23 : z_23.toInt = x0.toInt + 1 := k_addI ez_23 rfl (by decide) (by omega)
            exact KI.rt ⟨o_tok_19, g_oki_20, g_ova_21, g_opl_22⟩ F rfl (hP.sub [0, 1, 2, 3, 4] rfl) (hD.sub [0, 1, 2, 3, 4] (by decide) rfl) hS (show (x0.toInt ≤ z_23.toInt) ∧ (z_23.toInt ≤ o_len.toInt) ∧ (0 ≤ o_tok_19.toInt) ∧ (o_tok_19.toInt ≤ 401) ∧ (TKV g_oki_20 g_ova_21 g_opl_22 o_tok_19.toInt) from ⟨(by first | omega | assumption), (by first | omega | assumption), (by first | omega | assumption), (by first | omega | assumption), (by first | omega | assumption)⟩) (Nat.le_of_ble_eq_true rfl) (Nat.le_of_ble_eq_true rfl) dX10_scanToken_105
          · have ic_16 : (g_oby (Int32.toNatClampNeg z_15)).toInt = 61 := k_eq c_16 rfl (by decide)
            refine lv_aload_n hx hb dX10_scanToken_80 rfl (lv_at hl 2 rfl) ?_
            refine lv_iconst (v := 4) hx hb dX10_scanToken_81 (by decide) ?_
            refine lv_sipush (v := 256) hx hb dX10_scanToken_82 (by decide) ?_
            refine lv_iload_n hx hb dX10_scanToken_85 rfl (lv_at hl 1 rfl) ?_
            refine lv_iadd hx hb dX10_scanToken_86 ?_
            refine lv_topi (fun z_24 ez_24 => ?_)
            refine lv_iload_n hx hb dX10_scanToken_87 rfl (lv_at hl 3 rfl) ?_
            have lt32_24 : (4 : Int32).toInt = 4 := by decide
            refine kwVV (wr := []) (As := [.int 4, .int z_24, .int x0]) (rest := []) F hE hP hD hS hA hl.1 (cc_X10_addToken l D cy (o := o) (x0 := 4) (x1 := z_24) (x2 := x0) (o_by := o_by) (o_len := o_len) (o_ki := o_ki) (o_va := o_va) (o_pl := o_pl) (o_tok := o_tok) (o_at := o_at) (o_kind := o_kind) (o_value := o_value) (o_place := o_place) (o_fault := o_fault) (g_oby := g_oby) (g_oki := g_oki) (g_ova := g_ova) (g_opl := g_opl) (p0 := (by first | omega | assumption)) (p1 := (by first | omega | assumption)) (p2 := (by first | omega | assumption)) (p3 := (by first | omega | assumption)) (p4 := (by first | omega | assumption)) (p5 := (by first | omega | assumption)) (p6 := (by first | omega | assumption)) (p7 := (by first | omega | assumption))) q_m_X10_50 mv_X10_addToken ⟨(Nat.le_of_ble_eq_true rfl), (Nat.le_of_ble_eq_true rfl)⟩ [0, 1, 2, 3, 4] [] (by decide) rfl rfl (by decide) (by decide) rfl rfl rfl rfl rfl (Nat.le_of_ble_eq_true rfl) ⟨(Nat.le_of_ble_eq_true rfl), (Nat.le_of_ble_eq_true rfl)⟩ dX10_scanToken_88 (fun u_26 H locs eu_26 hP hD hS => ?_)
            obtain ⟨o_tok_27, g_oki_28, g_ova_29, g_opl_30⟩ := u_26
            have eu_26 : (0 ≤ o_tok_27.toInt) ∧ (o_tok_27.toInt ≤ 401) ∧ (TKV g_oki_28 g_ova_29 g_opl_30 o_tok_27.toInt) := eu_26
            obtain ⟨eu_26a, eu_26b, eu_26c⟩ := eu_26
            have hP : va_P D vwCl [(o, .inr (10, [.ref o_by, .int o_len, .ref o_ki, .ref o_va, .ref o_pl, .int o_tok_27, .int o_at, .int o_kind, .int o_value, .int o_place, .int o_fault])), (o_by, .inl (cy 0, 400, .inl g_oby)), (o_ki, .inl (cy 0, 401, .inl g_oki_28)), (o_va, .inl (cy 0, 401, .inl g_ova_29)), (o_pl, .inl (cy 0, 401, .inl g_opl_30))] H := hP
            have hD : va_D A [(o, .inr (10, [.ref o_by, .int o_len, .ref o_ki, .ref o_va, .ref o_pl, .int o_tok_27, .int o_at, .int o_kind, .int o_value, .int o_place, .int o_fault])), (o_by, .inl (cy 0, 400, .inl g_oby)), (o_ki, .inl (cy 0, 401, .inl g_oki_28)), (o_va, .inl (cy 0, 401, .inl g_ova_29)), (o_pl, .inl (cy 0, 401, .inl g_opl_30))] := hD
            refine lv_iload_n hx hb dX10_scanToken_91 rfl (lv_at hl 3 rfl) ?_
            refine lv_iconst (v := 2) hx hb dX10_scanToken_92 (by decide) ?_
            refine lv_iadd hx hb dX10_scanToken_93 ?_
            refine lv_topi (fun z_31 ez_31 => ?_)
            have iz_31 : z_31.toInt = x0.toInt + 2 := k_addI ez_31 rfl (by decide) (by omega)
            exact KI.rt ⟨o_tok_27, g_oki_28, g_ova_29, g_opl_30⟩ F rfl (hP.sub [0, 1, 2, 3, 4] rfl) (hD.sub [0, 1, 2, 3, 4] (by decide) rfl) hS (show (x0.toInt ≤ z_31.toInt) ∧ (z_31.toInt ≤ o_len.toInt) ∧ (0 ≤ o_tok_27.toInt) ∧ (o_tok_27.toInt ≤ 401) ∧ (TKV g_oki_28 g_ova_29 g_opl_30 o_tok_27.toInt) from ⟨(by first | omega | assumption), (by first | omega | assumption), (by first | omega | assumption), (by first | omega | assumption), (by first | omega | assumption)⟩) (Nat.le_of_ble_eq_true rfl) (Nat.le_of_ble_eq_true rfl) dX10_scanToken_94
      · have ic_5 : (g_oby (Int32.toNatClampNeg x0)).toInt ≠ 60 := k_ne c_5 rfl (by decide)
        refine lv_iload_n hx hb dX10_scanToken_41 rfl (lv_at hl 0 rfl) ?_
        refine lv_bipush (v := 62) hx hb dX10_scanToken_42 (by decide) ?_
        refine lv_icmp_ne (tgt := 51) hx hb dX10_scanToken_44 (by decide) (fun c_32 => ?_) (fun c_32 => ?_)
        · have ic_32 : (g_oby (Int32.toNatClampNeg x0)).toInt ≠ 62 := k_ne c_32 rfl (by decide)
          refine lv_iconst (v := 0) hx hb dX10_scanToken_51 (by decide) ?_
          refine lv_istore_n (lv' := [(3, .int 0), (2, .int (g_oby (Int32.toNatClampNeg x0))), (0, .ref o), (1, .int x0)]) hx hb dX10_scanToken_52 rfl hl (by decide) rfl (fun ls hl => ?_)
          refine lv_iload_n hx hb dX10_scanToken_53 rfl (lv_at hl 0 rfl) ?_
          refine lv_if_eq (tgt := 95) hx hb dX10_scanToken_54 (by decide) (fun _ => ?_) (fun q => absurd q (by decide))
          refine lv_aload_n hx hb dX10_scanToken_95 rfl (lv_at hl 2 rfl) ?_
          refine lv_iconst (v := 4) hx hb dX10_scanToken_96 (by decide) ?_
          refine lv_iload_n hx hb dX10_scanToken_97 rfl (lv_at hl 1 rfl) ?_
          refine lv_iload_n hx hb dX10_scanToken_98 rfl (lv_at hl 3 rfl) ?_
          have lt32_32 : (4 : Int32).toInt = 4 := by decide
          refine kwVV (wr := []) (As := [.int 4, .int (g_oby (Int32.toNatClampNeg x0)), .int x0]) (rest := []) F hE hP hD hS hA hl.1 (cc_X10_addToken l D cy (o := o) (x0 := 4) (x1 := (g_oby (Int32.toNatClampNeg x0))) (x2 := x0) (o_by := o_by) (o_len := o_len) (o_ki := o_ki) (o_va := o_va) (o_pl := o_pl) (o_tok := o_tok) (o_at := o_at) (o_kind := o_kind) (o_value := o_value) (o_place := o_place) (o_fault := o_fault) (g_oby := g_oby) (g_oki := g_oki) (g_ova := g_ova) (g_opl := g_opl) (p0 := (by first | omega | assumption)) (p1 := (by first | omega | assumption)) (p2 := (by first | omega | assumption)) (p3 := (by first | omega | assumption)) (p4 := (by first | omega | assumption)) (p5 := (by first | omega | assumption)) (p6 := (by first | omega | assumption)) (p7 := (by first | omega | assumption))) q_m_X10_50 mv_X10_addToken ⟨(Nat.le_of_ble_eq_true rfl), (Nat.le_of_ble_eq_true rfl)⟩ [0, 1, 2, 3, 4] [] (by decide) rfl rfl (by decide) (by decide) rfl rfl rfl rfl rfl (Nat.le_of_ble_eq_true rfl) ⟨(Nat.le_of_ble_eq_true rfl), (Nat.le_of_ble_eq_true rfl)⟩ dX10_scanToken_99 (fun u_34 H locs eu_34 hP hD hS => ?_)
          obtain ⟨o_tok_35, g_oki_36, g_ova_37, g_opl_38⟩ := u_34
          have eu_34 : (0 ≤ o_tok_35.toInt) ∧ (o_tok_35.toInt ≤ 401) ∧ (TKV g_oki_36 g_ova_37 g_opl_38 o_tok_35.toInt) := eu_34
          obtain ⟨eu_34a, eu_34b, eu_34c⟩ := eu_34
          have hP : va_P D vwCl [(o, .inr (10, [.ref o_by, .int o_len, .ref o_ki, .ref o_va, .ref o_pl, .int o_tok_35, .int o_at, .int o_kind, .int o_value, .int o_place, .int o_fault])), (o_by, .inl (cy 0, 400, .inl g_oby)), (o_ki, .inl (cy 0, 401, .inl g_oki_36)), (o_va, .inl (cy 0, 401, .inl g_ova_37)), (o_pl, .inl (cy 0, 401, .inl g_opl_38))] H := hP
          have hD : va_D A [(o, .inr (10, [.ref o_by, .int o_len, .ref o_ki, .ref o_va, .ref o_pl, .int o_tok_35, .int o_at, .int o_kind, .int o_value, .int o_place, .int o_fault])), (o_by, .inl (cy 0, 400, .inl g_oby)), (o_ki, .inl (cy 0, 401, .inl g_oki_36)), (o_va, .inl (cy 0, 401, .inl g_ova_37)), (o_pl, .inl (cy 0, 401, .inl g_opl_38))] := hD
          refine lv_iload_n hx hb dX10_scanToken_102 rfl (lv_at hl 3 rfl) ?_
          refine lv_iconst (v := 1) hx hb dX10_scanToken_103 (by decide) ?_
          refine lv_iadd hx hb dX10_scanToken_104 ?_
          refine lv_topi (fun z_39 ez_39 => ?_)
          have iz_39 : z_39.toInt = x0.toInt + 1 := k_addI ez_39 rfl (by decide) (by omega)
          exact KI.rt ⟨o_tok_35, g_oki_36, g_ova_37, g_opl_38⟩ F rfl (hP.sub [0, 1, 2, 3, 4] rfl) (hD.sub [0, 1, 2, 3, 4] (by decide) rfl) hS (show (x0.toInt ≤ z_39.toInt) ∧ (z_39.toInt ≤ o_len.toInt) ∧ (0 ≤ o_tok_35.toInt) ∧ (o_tok_35.toInt ≤ 401) ∧ (TKV g_oki_36 g_ova_37 g_opl_38 o_tok_35.toInt) from ⟨(by first | omega | assumption), (by first | omega | assumption), (by first | omega | assumption), (by first | omega | assumption), (by first | omega | assumption)⟩) (Nat.le_of_ble_eq_true rfl) (Nat.le_of_ble_eq_true rfl) dX10_scanToken_105
        · have ic_32 : (g_oby (Int32.toNatClampNeg x0)).toInt = 62 := k_eq c_32 rfl (by decide)
          refine lv_iconst (v := 1) hx hb dX10_scanToken_47 (by decide) ?_
          refine lv_goto (tgt := 52) hx hb dX10_scanToken_48 (by decide) ?_
          refine lv_istore_n (lv' := [(3, .int 1), (2, .int (g_oby (Int32.toNatClampNeg x0))), (0, .ref o), (1, .int x0)]) hx hb dX10_scanToken_52 rfl hl (by decide) rfl (fun ls hl => ?_)
          refine lv_iload_n hx hb dX10_scanToken_53 rfl (lv_at hl 0 rfl) ?_
          refine lv_if_eq (tgt := 95) hx hb dX10_scanToken_54 (by decide) (fun q => absurd q (by decide)) (fun _ => ?_)
          refine lv_iload_n hx hb dX10_scanToken_57 rfl (lv_at hl 3 rfl) ?_
          refine lv_iconst (v := 1) hx hb dX10_scanToken_58 (by decide) ?_
          refine lv_iadd hx hb dX10_scanToken_59 ?_
          refine lv_topi (fun z_40 ez_40 => ?_)
          have iz_40 : z_40.toInt = x0.toInt + 1 := k_addI ez_40 rfl (by decide) (by omega)
          refine lv_aload_n hx hb dX10_scanToken_60 rfl (lv_at hl 2 rfl) ?_
          refine va_get (D := D) (ci := 10) (v := .int o_len) (C := RX10) (T := TX10) (N := 11) hx hb hG inG_X10 hown hE.1 hP 0 rfl rfl 1 (by decide) (hG _ q_f_X10_15) (fun _ h9 => h9) rfl dX10_scanToken_61 ?_
          refine lv_icmp_ge (tgt := 95) hx hb dX10_scanToken_64 (by decide) (fun c_41 => ?_) (fun c_41 => ?_)
          · have ic_41 : o_len.toInt ≤ z_40.toInt := k_le c_41 rfl rfl
            refine lv_aload_n hx hb dX10_scanToken_95 rfl (lv_at hl 2 rfl) ?_
            refine lv_iconst (v := 4) hx hb dX10_scanToken_96 (by decide) ?_
            refine lv_iload_n hx hb dX10_scanToken_97 rfl (lv_at hl 1 rfl) ?_
            refine lv_iload_n hx hb dX10_scanToken_98 rfl (lv_at hl 3 rfl) ?_
            have lt32_41 : (4 : Int32).toInt = 4 := by decide
            refine kwVV (wr := []) (As := [.int 4, .int (g_oby (Int32.toNatClampNeg x0)), .int x0]) (rest := []) F hE hP hD hS hA hl.1 (cc_X10_addToken l D cy (o := o) (x0 := 4) (x1 := (g_oby (Int32.toNatClampNeg x0))) (x2 := x0) (o_by := o_by) (o_len := o_len) (o_ki := o_ki) (o_va := o_va) (o_pl := o_pl) (o_tok := o_tok) (o_at := o_at) (o_kind := o_kind) (o_value := o_value) (o_place := o_place) (o_fault := o_fault) (g_oby := g_oby) (g_oki := g_oki) (g_ova := g_ova) (g_opl := g_opl) (p0 := (by first | omega | assumption)) (p1 := (by first | omega | assumption)) (p2 := (by first | omega | assumption)) (p3 := (by first | omega | assumption)) (p4 := (by first | omega | assumption)) (p5 := (by first | omega | assumption)) (p6 := (by first | omega | assumption)) (p7 := (by first | omega | assumption))) q_m_X10_50 mv_X10_addToken ⟨(Nat.le_of_ble_eq_true rfl), (Nat.le_of_ble_eq_true rfl)⟩ [0, 1, 2, 3, 4] [] (by decide) rfl rfl (by decide) (by decide) rfl rfl rfl rfl rfl (Nat.le_of_ble_eq_true rfl) ⟨(Nat.le_of_ble_eq_true rfl), (Nat.le_of_ble_eq_true rfl)⟩ dX10_scanToken_99 (fun u_43 H locs eu_43 hP hD hS => ?_)
            obtain ⟨o_tok_44, g_oki_45, g_ova_46, g_opl_47⟩ := u_43
            have eu_43 : (0 ≤ o_tok_44.toInt) ∧ (o_tok_44.toInt ≤ 401) ∧ (TKV g_oki_45 g_ova_46 g_opl_47 o_tok_44.toInt) := eu_43
            obtain ⟨eu_43a, eu_43b, eu_43c⟩ := eu_43
            have hP : va_P D vwCl [(o, .inr (10, [.ref o_by, .int o_len, .ref o_ki, .ref o_va, .ref o_pl, .int o_tok_44, .int o_at, .int o_kind, .int o_value, .int o_place, .int o_fault])), (o_by, .inl (cy 0, 400, .inl g_oby)), (o_ki, .inl (cy 0, 401, .inl g_oki_45)), (o_va, .inl (cy 0, 401, .inl g_ova_46)), (o_pl, .inl (cy 0, 401, .inl g_opl_47))] H := hP
            have hD : va_D A [(o, .inr (10, [.ref o_by, .int o_len, .ref o_ki, .ref o_va, .ref o_pl, .int o_tok_44, .int o_at, .int o_kind, .int o_value, .int o_place, .int o_fault])), (o_by, .inl (cy 0, 400, .inl g_oby)), (o_ki, .inl (cy 0, 401, .inl g_oki_45)), (o_va, .inl (cy 0, 401, .inl g_ova_46)), (o_pl, .inl (cy 0, 401, .inl g_opl_47))] := hD
            refine lv_iload_n hx hb dX10_scanToken_102 rfl (lv_at hl 3 rfl) ?_
            refine lv_iconst (v := 1) hx hb dX10_scanToken_103 (by decide) ?_
            refine lv_iadd hx hb dX10_scanToken_104 ?_
            refine lv_topi (fun z_48 ez_48 => ?_)
            have iz_48 : z_48.toInt = x0.toInt + 1 := k_addI ez_48 rfl (by decide) (by omega)
            exact KI.rt ⟨o_tok_44, g_oki_45, g_ova_46, g_opl_47⟩ F rfl (hP.sub [0, 1, 2, 3, 4] rfl) (hD.sub [0, 1, 2, 3, 4] (by decide) rfl) hS (show (x0.toInt ≤ z_48.toInt) ∧ (z_48.toInt ≤ o_len.toInt) ∧ (0 ≤ o_tok_44.toInt) ∧ (o_tok_44.toInt ≤ 401) ∧ (TKV g_oki_45 g_ova_46 g_opl_47 o_tok_44.toInt) from ⟨(by first | omega | assumption), (by first | omega | assumption), (by first | omega | assumption), (by first | omega | assumption), (by first | omega | assumption)⟩) (Nat.le_of_ble_eq_true rfl) (Nat.le_of_ble_eq_true rfl) dX10_scanToken_105
          · have ic_41 : z_40.toInt < o_len.toInt := k_nle c_41 rfl rfl
            refine lv_aload_n hx hb dX10_scanToken_67 rfl (lv_at hl 2 rfl) ?_
            refine va_get (D := D) (ci := 10) (v := .ref o_by) (C := RX10) (T := TX10) (N := 11) hx hb hG inG_X10 hown hE.1 hP 0 rfl rfl 0 (by decide) (hG _ q_f_X10_11) (fun _ h9 => h9) rfl dX10_scanToken_68 ?_
            refine lv_iload_n hx hb dX10_scanToken_71 rfl (lv_at hl 3 rfl) ?_
            refine lv_iconst (v := 1) hx hb dX10_scanToken_72 (by decide) ?_
            refine lv_iadd hx hb dX10_scanToken_73 ?_
            refine lv_topi (fun z_49 ez_49 => ?_)
            have iz_49 : z_49.toInt = x0.toInt + 1 := k_addI ez_49 rfl (by decide) (by omega)
            refine va_iald hx hb hE.1 hP 1 0 rfl rfl (k_in (by omega)) dX10_scanToken_74 ?_
            refine k_top (z := (g_oby (Int32.toNatClampNeg z_49))) rfl ?_
            refine lv_bipush (v := 61) hx hb dX10_scanToken_75 (by decide) ?_
            refine lv_icmp_ne (tgt := 95) hx hb dX10_scanToken_77 (by decide) (fun c_50 => ?_) (fun c_50 => ?_)
            · have ic_50 : (g_oby (Int32.toNatClampNeg z_49)).toInt ≠ 61 := k_ne c_50 rfl (by decide)
              refine lv_aload_n hx hb dX10_scanToken_95 rfl (lv_at hl 2 rfl) ?_
              refine lv_iconst (v := 4) hx hb dX10_scanToken_96 (by decide) ?_
              refine lv_iload_n hx hb dX10_scanToken_97 rfl (lv_at hl 1 rfl) ?_
              refine lv_iload_n hx hb dX10_scanToken_98 rfl (lv_at hl 3 rfl) ?_
              have lt32_50 : (4 : Int32).toInt = 4 := by decide
              refine kwVV (wr := []) (As := [.int 4, .int (g_oby (Int32.toNatClampNeg x0)), .int x0]) (rest := []) F hE hP hD hS hA hl.1 (cc_X10_addToken l D cy (o := o) (x0 := 4) (x1 := (g_oby (Int32.toNatClampNeg x0))) (x2 := x0) (o_by := o_by) (o_len := o_len) (o_ki := o_ki) (o_va := o_va) (o_pl := o_pl) (o_tok := o_tok) (o_at := o_at) (o_kind := o_kind) (o_value := o_value) (o_place := o_place) (o_fault := o_fault) (g_oby := g_oby) (g_oki := g_oki) (g_ova := g_ova) (g_opl := g_opl) (p0 := (by first | omega | assumption)) (p1 := (by first | omega | assumption)) (p2 := (by first | omega | assumption)) (p3 := (by first | omega | assumption)) (p4 := (by first | omega | assumption)) (p5 := (by first | omega | assumption)) (p6 := (by first | omega | assumption)) (p7 := (by first | omega | assumption))) q_m_X10_50 mv_X10_addToken ⟨(Nat.le_of_ble_eq_true rfl), (Nat.le_of_ble_eq_true rfl)⟩ [0, 1, 2, 3, 4] [] (by decide) rfl rfl (by decide) (by decide) rfl rfl rfl rfl rfl (Nat.le_of_ble_eq_true rfl) ⟨(Nat.le_of_ble_eq_true rfl), (Nat.le_of_ble_eq_true rfl)⟩ dX10_scanToken_99 (fun u_52 H locs eu_52 hP hD hS => ?_)
              obtain ⟨o_tok_53, g_oki_54, g_ova_55, g_opl_56⟩ := u_52
              have eu_52 : (0 ≤ o_tok_53.toInt) ∧ (o_tok_53.toInt ≤ 401) ∧ (TKV g_oki_54 g_ova_55 g_opl_56 o_tok_53.toInt) := eu_52
              obtain ⟨eu_52a, eu_52b, eu_52c⟩ := eu_52
              have hP : va_P D vwCl [(o, .inr (10, [.ref o_by, .int o_len, .ref o_ki, .ref o_va, .ref o_pl, .int o_tok_53, .int o_at, .int o_kind, .int o_value, .int o_place, .int o_fault])), (o_by, .inl (cy 0, 400, .inl g_oby)), (o_ki, .inl (cy 0, 401, .inl g_oki_54)), (o_va, .inl (cy 0, 401, .inl g_ova_55)), (o_pl, .inl (cy 0, 401, .inl g_opl_56))] H := hP
              have hD : va_D A [(o, .inr (10, [.ref o_by, .int o_len, .ref o_ki, .ref o_va, .ref o_pl, .int o_tok_53, .int o_at, .int o_kind, .int o_value, .int o_place, .int o_fault])), (o_by, .inl (cy 0, 400, .inl g_oby)), (o_ki, .inl (cy 0, 401, .inl g_oki_54)), (o_va, .inl (cy 0, 401, .inl g_ova_55)), (o_pl, .inl (cy 0, 401, .inl g_opl_56))] := hD
              refine lv_iload_n hx hb dX10_scanToken_102 rfl (lv_at hl 3 rfl) ?_
              refine lv_iconst (v := 1) hx hb dX10_scanToken_103 (by decide) ?_
              refine lv_iadd hx hb dX10_scanToken_104 ?_
              refine lv_topi (fun z_57 ez_57 => ?_)
              have iz_57 : z_57.toInt = x0.toInt + 1 := k_addI ez_57 rfl (by decide) (by omega)
              exact KI.rt ⟨o_tok_53, g_oki_54, g_ova_55, g_opl_56⟩ F rfl (hP.sub [0, 1, 2, 3, 4] rfl) (hD.sub [0, 1, 2, 3, 4] (by decide) rfl) hS (show (x0.toInt ≤ z_57.toInt) ∧ (z_57.toInt ≤ o_len.toInt) ∧ (0 ≤ o_tok_53.toInt) ∧ (o_tok_53.toInt ≤ 401) ∧ (TKV g_oki_54 g_ova_55 g_opl_56 o_tok_53.toInt) from ⟨(by first | omega | assumption), (by first | omega | assumption), (by first | omega | assumption), (by first | omega | assumption), (by first | omega | assumption)⟩) (Nat.le_of_ble_eq_true rfl) (Nat.le_of_ble_eq_true rfl) dX10_scanToken_105
            · have ic_50 : (g_oby (Int32.toNatClampNeg z_49)).toInt = 61 := k_eq c_50 rfl (by decide)
              refine lv_aload_n hx hb dX10_scanToken_80 rfl (lv_at hl 2 rfl) ?_
              refine lv_iconst (v := 4) hx hb dX10_scanToken_81 (by decide) ?_
              refine lv_sipush (v := 256) hx hb dX10_scanToken_82 (by decide) ?_
              refine lv_iload_n hx hb dX10_scanToken_85 rfl (lv_at hl 1 rfl) ?_
              refine lv_iadd hx hb dX10_scanToken_86 ?_
              refine lv_topi (fun z_58 ez_58 => ?_)
              refine lv_iload_n hx hb dX10_scanToken_87 rfl (lv_at hl 3 rfl) ?_
              have lt32_58 : (4 : Int32).toInt = 4 := by decide
              refine kwVV (wr := []) (As := [.int 4, .int z_58, .int x0]) (rest := []) F hE hP hD hS hA hl.1 (cc_X10_addToken l D cy (o := o) (x0 := 4) (x1 := z_58) (x2 := x0) (o_by := o_by) (o_len := o_len) (o_ki := o_ki) (o_va := o_va) (o_pl := o_pl) (o_tok := o_tok) (o_at := o_at) (o_kind := o_kind) (o_value := o_value) (o_place := o_place) (o_fault := o_fault) (g_oby := g_oby) (g_oki := g_oki) (g_ova := g_ova) (g_opl := g_opl) (p0 := (by first | omega | assumption)) (p1 := (by first | omega | assumption)) (p2 := (by first | omega | assumption)) (p3 := (by first | omega | assumption)) (p4 := (by first | omega | assumption)) (p5 := (by first | omega | assumption)) (p6 := (by first | omega | assumption)) (p7 := (by first | omega | assumption))) q_m_X10_50 mv_X10_addToken ⟨(Nat.le_of_ble_eq_true rfl), (Nat.le_of_ble_eq_true rfl)⟩ [0, 1, 2, 3, 4] [] (by decide) rfl rfl (by decide) (by decide) rfl rfl rfl rfl rfl (Nat.le_of_ble_eq_true rfl) ⟨(Nat.le_of_ble_eq_true rfl), (Nat.le_of_ble_eq_true rfl)⟩ dX10_scanToken_88 (fun u_60 H locs eu_60 hP hD hS => ?_)
              obtain ⟨o_tok_61, g_oki_62, g_ova_63, g_opl_64⟩ := u_60
              have eu_60 : (0 ≤ o_tok_61.toInt) ∧ (o_tok_61.toInt ≤ 401) ∧ (TKV g_oki_62 g_ova_63 g_opl_64 o_tok_61.toInt) := eu_60
              obtain ⟨eu_60a, eu_60b, eu_60c⟩ := eu_60
              have hP : va_P D vwCl [(o, .inr (10, [.ref o_by, .int o_len, .ref o_ki, .ref o_va, .ref o_pl, .int o_tok_61, .int o_at, .int o_kind, .int o_value, .int o_place, .int o_fault])), (o_by, .inl (cy 0, 400, .inl g_oby)), (o_ki, .inl (cy 0, 401, .inl g_oki_62)), (o_va, .inl (cy 0, 401, .inl g_ova_63)), (o_pl, .inl (cy 0, 401, .inl g_opl_64))] H := hP
              have hD : va_D A [(o, .inr (10, [.ref o_by, .int o_len, .ref o_ki, .ref o_va, .ref o_pl, .int o_tok_61, .int o_at, .int o_kind, .int o_value, .int o_place, .int o_fault])), (o_by, .inl (cy 0, 400, .inl g_oby)), (o_ki, .inl (cy 0, 401, .inl g_oki_62)), (o_va, .inl (cy 0, 401, .inl g_ova_63)), (o_pl, .inl (cy 0, 401, .inl g_opl_64))] := hD
              refine lv_iload_n hx hb dX10_scanToken_91 rfl (lv_at hl 3 rfl) ?_
              refine lv_iconst (v := 2) hx hb dX10_scanToken_92 (by decide) ?_
              refine lv_iadd hx hb dX10_scanToken_93 ?_
              refine lv_topi (fun z_65 ez_65 => ?_)
              have iz_65 : z_65.toInt = x0.toInt + 2 := k_addI ez_65 rfl (by decide) (by omega)
              exact KI.rt ⟨o_tok_61, g_oki_62, g_ova_63, g_opl_64⟩ F rfl (hP.sub [0, 1, 2, 3, 4] rfl) (hD.sub [0, 1, 2, 3, 4] (by decide) rfl) hS (show (x0.toInt ≤ z_65.toInt) ∧ (z_65.toInt ≤ o_len.toInt) ∧ (0 ≤ o_tok_61.toInt) ∧ (o_tok_61.toInt ≤ 401) ∧ (TKV g_oki_62 g_ova_63 g_opl_64 o_tok_61.toInt) from ⟨(by first | omega | assumption), (by first | omega | assumption), (by first | omega | assumption), (by first | omega | assumption), (by first | omega | assumption)⟩) (Nat.le_of_ble_eq_true rfl) (Nat.le_of_ble_eq_true rfl) dX10_scanToken_94
    · have ic_4 : r_3.toInt ≠ 0 := k_ne c_4 rfl (by decide)
      clear er_3
      refine lv_aload_n hx hb dX10_scanToken_22 rfl (lv_at hl 0 rfl) ?_
      refine lv_iload_n hx hb dX10_scanToken_23 rfl (lv_at hl 1 rfl) ?_
      refine jxVI (wr := []) (As := [.int x0]) (rest := []) F hE hP hD hS hA hl.1 ZT_ok hZ (cc_X10_scanWord l D cy (o := o) (x0 := x0) (o_by := o_by) (o_len := o_len) (o_ki := o_ki) (o_va := o_va) (o_pl := o_pl) (o_tok := o_tok) (o_at := o_at) (o_kind := o_kind) (o_value := o_value) (o_place := o_place) (o_fault := o_fault) (g_oby := g_oby) (g_oki := g_oki) (g_ova := g_ova) (g_opl := g_opl) (kt := kt) (vt := vt) (p0 := (by first | omega | assumption)) (p1 := (by first | omega | assumption)) (p2 := (by first | omega | assumption)) (p3 := (by first | omega | assumption)) (p4 := (by first | omega | assumption)) (p5 := (by first | omega | assumption)) (p6 := (by first | omega | assumption)) (p7 := (by first | omega | assumption)) (p8 := (by first | omega | assumption))) q_m_X10_74 mv_X10_scanWord ⟨(Nat.le_of_ble_eq_true rfl), (Nat.le_of_ble_eq_true rfl)⟩ [0, 1, 2, 3, 4] [] (by decide) rfl rfl (by decide) (by decide) rfl rfl rfl rfl rfl (Nat.le_of_ble_eq_true rfl) ⟨(Nat.le_of_ble_eq_true rfl), (Nat.le_of_ble_eq_true rfl)⟩ dX10_scanToken_24 (fun r_67 u_66 H locs eu_66 hP hD hS => ?_)
      obtain ⟨o_tok_68, g_oki_69, g_ova_70, g_opl_71⟩ := u_66
      have eu_66 : (x0.toInt ≤ r_67.toInt) ∧ (r_67.toInt ≤ o_len.toInt) ∧ (0 ≤ o_tok_68.toInt) ∧ (o_tok_68.toInt ≤ 401) ∧ (TKV g_oki_69 g_ova_70 g_opl_71 o_tok_68.toInt) := eu_66
      obtain ⟨eu_66a, eu_66b, eu_66c, eu_66d, eu_66e⟩ := eu_66
      have hP : va_P D vwCl [(o, .inr (10, [.ref o_by, .int o_len, .ref o_ki, .ref o_va, .ref o_pl, .int o_tok_68, .int o_at, .int o_kind, .int o_value, .int o_place, .int o_fault])), (o_by, .inl (cy 0, 400, .inl g_oby)), (o_ki, .inl (cy 0, 401, .inl g_oki_69)), (o_va, .inl (cy 0, 401, .inl g_ova_70)), (o_pl, .inl (cy 0, 401, .inl g_opl_71))] H := hP
      have hD : va_D A [(o, .inr (10, [.ref o_by, .int o_len, .ref o_ki, .ref o_va, .ref o_pl, .int o_tok_68, .int o_at, .int o_kind, .int o_value, .int o_place, .int o_fault])), (o_by, .inl (cy 0, 400, .inl g_oby)), (o_ki, .inl (cy 0, 401, .inl g_oki_69)), (o_va, .inl (cy 0, 401, .inl g_ova_70)), (o_pl, .inl (cy 0, 401, .inl g_opl_71))] := hD
      exact KI.rt ⟨o_tok_68, g_oki_69, g_ova_70, g_opl_71⟩ F rfl (hP.sub [0, 1, 2, 3, 4] rfl) (hD.sub [0, 1, 2, 3, 4] (by decide) rfl) hS (show (x0.toInt ≤ r_67.toInt) ∧ (r_67.toInt ≤ o_len.toInt) ∧ (0 ≤ o_tok_68.toInt) ∧ (o_tok_68.toInt ≤ 401) ∧ (TKV g_oki_69 g_ova_70 g_opl_71 o_tok_68.toInt) from ⟨(by first | omega | assumption), (by first | omega | assumption), (by first | omega | assumption), (by first | omega | assumption), (by first | omega | assumption)⟩) (Nat.le_of_ble_eq_true rfl) (Nat.le_of_ble_eq_true rfl) dX10_scanToken_27
  · have ic_2 : r_1.toInt ≠ 0 := k_ne c_2 rfl (by decide)
    have fc_2 := er_1b ic_2
    clear er_1b er_1a
    obtain ⟨fc_2a, fc_2b⟩ := fc_2
    refine lv_aload_n hx hb dX10_scanToken_8 rfl (lv_at hl 0 rfl) ?_
    refine lv_iload_n hx hb dX10_scanToken_9 rfl (lv_at hl 1 rfl) ?_
    refine kwVI (wr := []) (As := [.int x0]) (rest := []) F hE hP hD hS hA hl.1 (cc_X10_scanNumber l D cy (o := o) (x0 := x0) (o_by := o_by) (o_len := o_len) (o_ki := o_ki) (o_va := o_va) (o_pl := o_pl) (o_tok := o_tok) (o_at := o_at) (o_kind := o_kind) (o_value := o_value) (o_place := o_place) (o_fault := o_fault) (g_oby := g_oby) (g_oki := g_oki) (g_ova := g_ova) (g_opl := g_opl) (p0 := (by first | omega | assumption)) (p1 := (by first | omega | assumption)) (p2 := (by first | omega | assumption)) (p3 := (by first | omega | assumption)) (p4 := (by first | omega | assumption)) (p5 := (by first | omega | assumption)) (p6 := (by first | omega | assumption)) (p7 := (by first | omega | assumption)) (p8 := (by first | omega | assumption))) q_m_X10_68 mv_X10_scanNumber ⟨(Nat.le_of_ble_eq_true rfl), (Nat.le_of_ble_eq_true rfl)⟩ [0, 1, 2, 3, 4] [] (by decide) rfl rfl (by decide) (by decide) rfl rfl rfl rfl rfl (Nat.le_of_ble_eq_true rfl) ⟨(Nat.le_of_ble_eq_true rfl), (Nat.le_of_ble_eq_true rfl)⟩ dX10_scanToken_10 (fun r_73 u_72 H locs eu_72 hP hD hS => ?_)
    obtain ⟨o_tok_74, g_oki_75, g_ova_76, g_opl_77⟩ := u_72
    have eu_72 : (x0.toInt ≤ r_73.toInt) ∧ (r_73.toInt ≤ o_len.toInt) ∧ (0 ≤ o_tok_74.toInt) ∧ (o_tok_74.toInt ≤ 401) ∧ (TKV g_oki_75 g_ova_76 g_opl_77 o_tok_74.toInt) := eu_72
    obtain ⟨eu_72a, eu_72b, eu_72c, eu_72d, eu_72e⟩ := eu_72
    have hP : va_P D vwCl [(o, .inr (10, [.ref o_by, .int o_len, .ref o_ki, .ref o_va, .ref o_pl, .int o_tok_74, .int o_at, .int o_kind, .int o_value, .int o_place, .int o_fault])), (o_by, .inl (cy 0, 400, .inl g_oby)), (o_ki, .inl (cy 0, 401, .inl g_oki_75)), (o_va, .inl (cy 0, 401, .inl g_ova_76)), (o_pl, .inl (cy 0, 401, .inl g_opl_77))] H := hP
    have hD : va_D A [(o, .inr (10, [.ref o_by, .int o_len, .ref o_ki, .ref o_va, .ref o_pl, .int o_tok_74, .int o_at, .int o_kind, .int o_value, .int o_place, .int o_fault])), (o_by, .inl (cy 0, 400, .inl g_oby)), (o_ki, .inl (cy 0, 401, .inl g_oki_75)), (o_va, .inl (cy 0, 401, .inl g_ova_76)), (o_pl, .inl (cy 0, 401, .inl g_opl_77))] := hD
    exact KI.rt ⟨o_tok_74, g_oki_75, g_ova_76, g_opl_77⟩ F rfl (hP.sub [0, 1, 2, 3, 4] rfl) (hD.sub [0, 1, 2, 3, 4] (by decide) rfl) hS (show (x0.toInt ≤ r_73.toInt) ∧ (r_73.toInt ≤ o_len.toInt) ∧ (0 ≤ o_tok_74.toInt) ∧ (o_tok_74.toInt ≤ 401) ∧ (TKV g_oki_75 g_ova_76 g_opl_77 o_tok_74.toInt) from ⟨(by first | omega | assumption), (by first | omega | assumption), (by first | omega | assumption), (by first | omega | assumption), (by first | omega | assumption)⟩) (Nat.le_of_ble_eq_true rfl) (Nat.le_of_ble_eq_true rfl) dX10_scanToken_13

set_option maxHeartbeats 4000000 in
set_option maxRecDepth 100000 in
theorem cc_X10_open (l : Launch) (D : va_G) (cy : Nat → ClassId) (o : Nat) (o_by : Nat) (o_ki : Nat) (o_va : Nat) (o_pl : Nat) (o_len : Int32) (o_tok : Int32) (o_at : Int32) (o_kind : Int32) (o_value : Int32) (o_place : Int32) (o_fault : Int32) (g_oby : Nat → Int32) (g_oki : Nat → Int32) (g_ova : Nat → Int32) (g_opl : Nat → Int32) (kt : Nat) (vt : Nat) (p0 : 0 ≤ o_len.toInt) (p1 : o_len.toInt ≤ 400) (p2 : o_kind.toInt = 1 ∨ o_kind.toInt = 3 → 0 ≤ o_value.toInt ∧ o_value.toInt ≤ 99999) (p3 : 0 ≤ o_place.toInt) (p4 : o_place.toInt ≤ 400) (p5 : -1 ≤ o_at.toInt) (p6 : o_at.toInt ≤ 400) : JV l yX10_open cX10_open 3 8 180 D (kTY cy) [.ref o] [(o, .inr (10, [.ref o_by, .int o_len, .ref o_ki, .ref o_va, .ref o_pl, .int o_tok, .int o_at, .int o_kind, .int o_value, .int o_place, .int o_fault])), (o_by, .inl (cy 0, 400, .inl g_oby)), (o_ki, .inl (cy 0, 401, .inl g_oki)), (o_va, .inl (cy 0, 401, .inl g_ova)), (o_pl, .inl (cy 0, 401, .inl g_opl))] (ZT kt vt) (S := Int32 × Int32 × Int32 × Int32 × Int32 × Int32 × (Nat → Int32) × (Nat → Int32) × (Nat → Int32)) (fun u => (0 ≤ (u.1).toInt) ∧ ((u.1).toInt ≤ 401) ∧ (TKV (u.2.2.2.2.2.2.1) (u.2.2.2.2.2.2.2.1) (u.2.2.2.2.2.2.2.2) (u.1).toInt) ∧ (-1 ≤ (u.2.1).toInt) ∧ ((u.2.1).toInt ≤ 400) ∧ ((u.2.2.1).toInt = 1 ∨ (u.2.2.1).toInt = 3 → 0 ≤ (u.2.2.2.1).toInt ∧ (u.2.2.2.1).toInt ≤ 99999) ∧ (0 ≤ (u.2.2.2.2.1).toInt) ∧ ((u.2.2.2.2.1).toInt ≤ 400) ∧ ((u.2.2.2.2.2.1).toInt = 0)) (fun u => [(o, .inr (10, [.ref o_by, .int o_len, .ref o_ki, .ref o_va, .ref o_pl, .int (u.1), .int (u.2.1), .int (u.2.2.1), .int (u.2.2.2.1), .int (u.2.2.2.2.1), .int (u.2.2.2.2.2.1)])), (o_by, .inl (cy 0, 400, .inl g_oby)), (o_ki, .inl (cy 0, 401, .inl (u.2.2.2.2.2.2.1))), (o_va, .inl (cy 0, 401, .inl (u.2.2.2.2.2.2.2.1))), (o_pl, .inl (cy 0, 401, .inl (u.2.2.2.2.2.2.2.2)))]) 0 0 := by
  refine JV.of (by decide) (Nat.le_of_ble_eq_true rfl) (fun p e s m below meth c ls A F hin hE hP hD hA hS hl hZ => ?_)
  have F : kF p s m meth c cX10_open 3 none _ RX10 := F
  obtain ⟨hx, hb, hr, hml, hown, hG, hlk⟩ := id F
  have hl : lv_has ls 3 [(0, .ref o)] := hl
  refine lv_aload_n hx hb dX10_open_0 rfl (lv_at hl 0 rfl) ?_
  refine lv_iconst (v := 0) hx hb dX10_open_1 (by decide) ?_
  refine va_put (D := D) (ci := 10) (v := .int 0) (ty := .int) (C := RX10) (T := TX10) (N := 11) hx hb hG inG_X10 tyX10 tyX10_ok nmX10 hown hE.1 hP hD hS 0 rfl rfl 5 (by decide) (hG _ q_f_X10_28) (fun _ h9 => h9) rfl (by decide +kernel) rfl rfl (Nat.le_of_ble_eq_true rfl) dX10_open_2 (fun H locs hP hD hS => ?_)
  have hP : va_P D vwCl [(o, .inr (10, [.ref o_by, .int o_len, .ref o_ki, .ref o_va, .ref o_pl, .int 0, .int o_at, .int o_kind, .int o_value, .int o_place, .int o_fault])), (o_by, .inl (cy 0, 400, .inl g_oby)), (o_ki, .inl (cy 0, 401, .inl g_oki)), (o_va, .inl (cy 0, 401, .inl g_ova)), (o_pl, .inl (cy 0, 401, .inl g_opl))] H := hP
  have hD : va_D A [(o, .inr (10, [.ref o_by, .int o_len, .ref o_ki, .ref o_va, .ref o_pl, .int 0, .int o_at, .int o_kind, .int o_value, .int o_place, .int o_fault])), (o_by, .inl (cy 0, 400, .inl g_oby)), (o_ki, .inl (cy 0, 401, .inl g_oki)), (o_va, .inl (cy 0, 401, .inl g_ova)), (o_pl, .inl (cy 0, 401, .inl g_opl))] := hD
  refine lv_iconst (v := 0) hx hb dX10_open_5 (by decide) ?_
  refine lv_istore_n (lv' := [(1, .int 0), (0, .ref o)]) hx hb dX10_open_6 rfl hl (by decide) rfl (fun ls hl => ?_)
  refine lv_iconst (v := 0) hx hb dX10_open_7 (by decide) ?_
  refine lv_istore_n (lv' := [(2, .int 0), (1, .int 0), (0, .ref o)]) hx hb dX10_open_8 rfl hl (by decide) rfl (fun ls hl => ?_)
  have lp9 : ∀ (fu : Nat) (v2_9 : Int32) (v1_9 : Int32) (w5_o_9 : Int32) (go_ki_9 : Nat → Int32) (go_va_9 : Nat → Int32) (go_pl_9 : Nat → Int32) (H : Heap) (locs : List Loc) (ls : Array Slot), (0 ≤ v1_9.toInt) → (v1_9.toInt ≤ o_len.toInt) → (0 ≤ v2_9.toInt) → (v2_9.toInt ≤ 400) → (0 ≤ w5_o_9.toInt) → (w5_o_9.toInt ≤ 401) → (TKV go_ki_9 go_va_9 go_pl_9 w5_o_9.toInt) → 400 - v2_9.toInt < (fu : Int) → va_P D vwCl [(o, .inr (10, [.ref o_by, .int o_len, .ref o_ki, .ref o_va, .ref o_pl, .int w5_o_9, .int o_at, .int o_kind, .int o_value, .int o_place, .int o_fault])), (o_by, .inl (cy 0, 400, .inl g_oby)), (o_ki, .inl (cy 0, 401, .inl go_ki_9)), (o_va, .inl (cy 0, 401, .inl go_va_9)), (o_pl, .inl (cy 0, 401, .inl go_pl_9))] H → va_D A [(o, .inr (10, [.ref o_by, .int o_len, .ref o_ki, .ref o_va, .ref o_pl, .int w5_o_9, .int o_at, .int o_kind, .int o_value, .int o_place, .int o_fault])), (o_by, .inl (cy 0, 400, .inl g_oby)), (o_ki, .inl (cy 0, 401, .inl go_ki_9)), (o_va, .inl (cy 0, 401, .inl go_va_9)), (o_pl, .inl (cy 0, 401, .inl go_pl_9))] → va_S A s.heap H locs → lv_has ls 3 [(2, .int v2_9), (1, .int v1_9), (0, .ref o)] → W p l e (kRm 8 180 0 0) s m ([.ref o] : List Value).toArray below meth c H locs 0 0 (MQ below (va_Qv (S := Int32 × Int32 × Int32 × Int32 × Int32 × Int32 × (Nat → Int32) × (Nat → Int32) × (Nat → Int32)) (fun u => (0 ≤ (u.1).toInt) ∧ ((u.1).toInt ≤ 401) ∧ (TKV (u.2.2.2.2.2.2.1) (u.2.2.2.2.2.2.2.1) (u.2.2.2.2.2.2.2.2) (u.1).toInt) ∧ (-1 ≤ (u.2.1).toInt) ∧ ((u.2.1).toInt ≤ 400) ∧ ((u.2.2.1).toInt = 1 ∨ (u.2.2.1).toInt = 3 → 0 ≤ (u.2.2.2.1).toInt ∧ (u.2.2.2.1).toInt ≤ 99999) ∧ (0 ≤ (u.2.2.2.2.1).toInt) ∧ ((u.2.2.2.2.1).toInt ≤ 400) ∧ ((u.2.2.2.2.2.1).toInt = 0)) (kBw D A (fun u => [(o, .inr (10, [.ref o_by, .int o_len, .ref o_ki, .ref o_va, .ref o_pl, .int (u.1), .int (u.2.1), .int (u.2.2.1), .int (u.2.2.2.1), .int (u.2.2.2.2.1), .int (u.2.2.2.2.2.1)])), (o_by, .inl (cy 0, 400, .inl g_oby)), (o_ki, .inl (cy 0, 401, .inl (u.2.2.2.2.2.2.1))), (o_va, .inl (cy 0, 401, .inl (u.2.2.2.2.2.2.2.1))), (o_pl, .inl (cy 0, 401, .inl (u.2.2.2.2.2.2.2.2)))])) A) ([.ref o] : List Value).toArray s 0 0 A) (F0 m 9 ls []) := by
    intro fu9
    induction fu9 with
    | zero =>
      intro v2_9 v1_9 w5_o_9 go_ki_9 go_va_9 go_pl_9 H locs ls j0_9 j1_9 j2_9 j3_9 j4_9 j5_9 j6_9 hm9 hP hD hS hl
      exact absurd hm9 (by omega)
    | succ fu9 ih9 =>
      intro v2_9 v1_9 w5_o_9 go_ki_9 go_va_9 go_pl_9 H locs ls j0_9 j1_9 j2_9 j3_9 j4_9 j5_9 j6_9 hm9 hP hD hS hl
      refine lv_iload_n hx hb dX10_open_9 rfl (lv_at hl 0 rfl) ?_
      refine lv_sipush (v := 400) hx hb dX10_open_10 (by decide) ?_
      refine lv_icmp_ge (tgt := 53) hx hb dX10_open_13 (by decide) (fun c_1 => ?_) (fun c_1 => ?_)
      · have ic_1 : 400 ≤ v2_9.toInt := k_le c_1 (by decide) rfl
        refine lv_aload_n hx hb dX10_open_53 rfl (lv_at hl 2 rfl) ?_
        refine lv_iconst (v := 0) hx hb dX10_open_54 (by decide) ?_
        refine lv_iconst (v := 0) hx hb dX10_open_55 (by decide) ?_
        refine lv_aload_n hx hb dX10_open_56 rfl (lv_at hl 2 rfl) ?_
        refine va_get (D := D) (ci := 10) (v := .int o_len) (C := RX10) (T := TX10) (N := 11) hx hb hG inG_X10 hown hE.1 hP 0 rfl rfl 1 (by decide) (hG _ q_f_X10_15) (fun _ h9 => h9) rfl dX10_open_57 ?_
        have lt32_1 : (0 : Int32).toInt = 0 := by decide
        have lt32_2 : (0 : Int32).toInt = 0 := by decide
        refine kwVV (wr := []) (As := [.int 0, .int 0, .int o_len]) (rest := []) F hE hP hD hS hA hl.1 (cc_X10_addToken l D cy (o := o) (x0 := 0) (x1 := 0) (x2 := o_len) (o_by := o_by) (o_len := o_len) (o_ki := o_ki) (o_va := o_va) (o_pl := o_pl) (o_tok := w5_o_9) (o_at := o_at) (o_kind := o_kind) (o_value := o_value) (o_place := o_place) (o_fault := o_fault) (g_oby := g_oby) (g_oki := go_ki_9) (g_ova := go_va_9) (g_opl := go_pl_9) (p0 := (by first | omega | assumption)) (p1 := (by first | omega | assumption)) (p2 := (by first | omega | assumption)) (p3 := (by first | omega | assumption)) (p4 := (by first | omega | assumption)) (p5 := (by first | omega | assumption)) (p6 := (by first | omega | assumption)) (p7 := (by first | omega | assumption))) q_m_X10_50 mv_X10_addToken ⟨(Nat.le_of_ble_eq_true rfl), (Nat.le_of_ble_eq_true rfl)⟩ [0, 1, 2, 3, 4] [] (by decide) rfl rfl (by decide) (by decide) rfl rfl rfl rfl rfl (Nat.le_of_ble_eq_true rfl) ⟨(Nat.le_of_ble_eq_true rfl), (Nat.le_of_ble_eq_true rfl)⟩ dX10_open_60 (fun u_4 H locs eu_4 hP hD hS => ?_)
        obtain ⟨o_tok_5, g_oki_6, g_ova_7, g_opl_8⟩ := u_4
        have eu_4 : (0 ≤ o_tok_5.toInt) ∧ (o_tok_5.toInt ≤ 401) ∧ (TKV g_oki_6 g_ova_7 g_opl_8 o_tok_5.toInt) := eu_4
        obtain ⟨eu_4a, eu_4b, eu_4c⟩ := eu_4
        have hP : va_P D vwCl [(o, .inr (10, [.ref o_by, .int o_len, .ref o_ki, .ref o_va, .ref o_pl, .int o_tok_5, .int o_at, .int o_kind, .int o_value, .int o_place, .int o_fault])), (o_by, .inl (cy 0, 400, .inl g_oby)), (o_ki, .inl (cy 0, 401, .inl g_oki_6)), (o_va, .inl (cy 0, 401, .inl g_ova_7)), (o_pl, .inl (cy 0, 401, .inl g_opl_8))] H := hP
        have hD : va_D A [(o, .inr (10, [.ref o_by, .int o_len, .ref o_ki, .ref o_va, .ref o_pl, .int o_tok_5, .int o_at, .int o_kind, .int o_value, .int o_place, .int o_fault])), (o_by, .inl (cy 0, 400, .inl g_oby)), (o_ki, .inl (cy 0, 401, .inl g_oki_6)), (o_va, .inl (cy 0, 401, .inl g_ova_7)), (o_pl, .inl (cy 0, 401, .inl g_opl_8))] := hD
        refine lv_aload_n hx hb dX10_open_63 rfl (lv_at hl 2 rfl) ?_
        refine lv_iconst (v := 0) hx hb dX10_open_64 (by decide) ?_
        refine va_put (D := D) (ci := 10) (v := .int 0) (ty := .int) (C := RX10) (T := TX10) (N := 11) hx hb hG inG_X10 tyX10 tyX10_ok nmX10 hown hE.1 hP hD hS 0 rfl rfl 10 (by decide) (hG _ q_f_X10_43) (fun _ h9 => h9) rfl (by decide +kernel) rfl rfl (Nat.le_of_ble_eq_true rfl) dX10_open_65 (fun H locs hP hD hS => ?_)
        have hP : va_P D vwCl [(o, .inr (10, [.ref o_by, .int o_len, .ref o_ki, .ref o_va, .ref o_pl, .int o_tok_5, .int o_at, .int o_kind, .int o_value, .int o_place, .int 0])), (o_by, .inl (cy 0, 400, .inl g_oby)), (o_ki, .inl (cy 0, 401, .inl g_oki_6)), (o_va, .inl (cy 0, 401, .inl g_ova_7)), (o_pl, .inl (cy 0, 401, .inl g_opl_8))] H := hP
        have hD : va_D A [(o, .inr (10, [.ref o_by, .int o_len, .ref o_ki, .ref o_va, .ref o_pl, .int o_tok_5, .int o_at, .int o_kind, .int o_value, .int o_place, .int 0])), (o_by, .inl (cy 0, 400, .inl g_oby)), (o_ki, .inl (cy 0, 401, .inl g_oki_6)), (o_va, .inl (cy 0, 401, .inl g_ova_7)), (o_pl, .inl (cy 0, 401, .inl g_opl_8))] := hD
        refine lv_aload_n hx hb dX10_open_68 rfl (lv_at hl 2 rfl) ?_
        refine lv_iconst (v := (-1)) hx hb dX10_open_69 (by decide) ?_
        refine va_put (D := D) (ci := 10) (v := .int (-1)) (ty := .int) (C := RX10) (T := TX10) (N := 11) hx hb hG inG_X10 tyX10 tyX10_ok nmX10 hown hE.1 hP hD hS 0 rfl rfl 6 (by decide) (hG _ q_f_X10_31) (fun _ h9 => h9) rfl (by decide +kernel) rfl rfl (Nat.le_of_ble_eq_true rfl) dX10_open_70 (fun H locs hP hD hS => ?_)
        have hP : va_P D vwCl [(o, .inr (10, [.ref o_by, .int o_len, .ref o_ki, .ref o_va, .ref o_pl, .int o_tok_5, .int (-1), .int o_kind, .int o_value, .int o_place, .int 0])), (o_by, .inl (cy 0, 400, .inl g_oby)), (o_ki, .inl (cy 0, 401, .inl g_oki_6)), (o_va, .inl (cy 0, 401, .inl g_ova_7)), (o_pl, .inl (cy 0, 401, .inl g_opl_8))] H := hP
        have hD : va_D A [(o, .inr (10, [.ref o_by, .int o_len, .ref o_ki, .ref o_va, .ref o_pl, .int o_tok_5, .int (-1), .int o_kind, .int o_value, .int o_place, .int 0])), (o_by, .inl (cy 0, 400, .inl g_oby)), (o_ki, .inl (cy 0, 401, .inl g_oki_6)), (o_va, .inl (cy 0, 401, .inl g_ova_7)), (o_pl, .inl (cy 0, 401, .inl g_opl_8))] := hD
        refine lv_aload_n hx hb dX10_open_73 rfl (lv_at hl 2 rfl) ?_
        have lt32_8 : ((-1) : Int32).toInt = (-1) := by decide
        refine kwVV (wr := []) (As := []) (rest := []) F hE hP hD hS hA hl.1 (cc_X10_advance l D cy (o := o) (o_by := o_by) (o_len := o_len) (o_ki := o_ki) (o_va := o_va) (o_pl := o_pl) (o_tok := o_tok_5) (o_at := (-1)) (o_kind := o_kind) (o_value := o_value) (o_place := o_place) (o_fault := 0) (g_oby := g_oby) (g_oki := g_oki_6) (g_ova := g_ova_7) (g_opl := g_opl_8) (p0 := (by first | omega | assumption)) (p1 := (by first | omega | assumption)) (p2 := (by first | omega | assumption)) (p3 := (by first | omega | assumption)) (p4 := (by first | omega | assumption)) (p5 := (by first | omega | assumption)) (p6 := (by first | omega | assumption)) (p7 := (by first | omega | assumption))) q_m_X10_54 mv_X10_advance ⟨(Nat.le_of_ble_eq_true rfl), (Nat.le_of_ble_eq_true rfl)⟩ [0, 1, 2, 3, 4] [] (by decide) rfl rfl (by decide) (by decide) rfl rfl rfl rfl rfl (Nat.le_of_ble_eq_true rfl) ⟨(Nat.le_of_ble_eq_true rfl), (Nat.le_of_ble_eq_true rfl)⟩ dX10_open_74 (fun u_10 H locs eu_10 hP hD hS => ?_)
        obtain ⟨o_at_11, o_kind_12, o_value_13, o_place_14⟩ := u_10
        have eu_10 : (-1 ≤ o_at_11.toInt) ∧ (o_at_11.toInt ≤ 400) ∧ (o_kind_12.toInt = 1 ∨ o_kind_12.toInt = 3 → 0 ≤ o_value_13.toInt ∧ o_value_13.toInt ≤ 99999) ∧ (0 ≤ o_place_14.toInt) ∧ (o_place_14.toInt ≤ 400) := eu_10
        obtain ⟨eu_10a, eu_10b, eu_10c, eu_10d, eu_10e⟩ := eu_10
        have hP : va_P D vwCl [(o, .inr (10, [.ref o_by, .int o_len, .ref o_ki, .ref o_va, .ref o_pl, .int o_tok_5, .int o_at_11, .int o_kind_12, .int o_value_13, .int o_place_14, .int 0])), (o_by, .inl (cy 0, 400, .inl g_oby)), (o_ki, .inl (cy 0, 401, .inl g_oki_6)), (o_va, .inl (cy 0, 401, .inl g_ova_7)), (o_pl, .inl (cy 0, 401, .inl g_opl_8))] H := hP
        have hD : va_D A [(o, .inr (10, [.ref o_by, .int o_len, .ref o_ki, .ref o_va, .ref o_pl, .int o_tok_5, .int o_at_11, .int o_kind_12, .int o_value_13, .int o_place_14, .int 0])), (o_by, .inl (cy 0, 400, .inl g_oby)), (o_ki, .inl (cy 0, 401, .inl g_oki_6)), (o_va, .inl (cy 0, 401, .inl g_ova_7)), (o_pl, .inl (cy 0, 401, .inl g_opl_8))] := hD
        have lito_fault : (0 : Int32).toInt = 0 := by decide
        exact KV.rt ⟨o_tok_5, o_at_11, o_kind_12, o_value_13, o_place_14, 0, g_oki_6, g_ova_7, g_opl_8⟩ F (hP.sub [0, 1, 2, 3, 4] rfl) (hD.sub [0, 1, 2, 3, 4] (by decide) rfl) hS (show (0 ≤ o_tok_5.toInt) ∧ (o_tok_5.toInt ≤ 401) ∧ (TKV g_oki_6 g_ova_7 g_opl_8 o_tok_5.toInt) ∧ (-1 ≤ o_at_11.toInt) ∧ (o_at_11.toInt ≤ 400) ∧ (o_kind_12.toInt = 1 ∨ o_kind_12.toInt = 3 → 0 ≤ o_value_13.toInt ∧ o_value_13.toInt ≤ 99999) ∧ (0 ≤ o_place_14.toInt) ∧ (o_place_14.toInt ≤ 400) ∧ ((0 : Int32).toInt = 0) from ⟨(by first | omega | assumption), (by first | omega | assumption), (by first | omega | assumption), (by first | omega | assumption), (by first | omega | assumption), (by first | omega | assumption), (by first | omega | assumption), (by first | omega | assumption), (by first | omega | assumption)⟩) (Nat.le_of_ble_eq_true rfl) (Nat.le_of_ble_eq_true rfl) dX10_open_77
      · have ic_1 : v2_9.toInt < 400 := k_nle c_1 (by decide) rfl
        refine lv_iload_n hx hb dX10_open_16 rfl (lv_at hl 1 rfl) ?_
        refine lv_aload_n hx hb dX10_open_17 rfl (lv_at hl 2 rfl) ?_
        refine va_get (D := D) (ci := 10) (v := .int o_len) (C := RX10) (T := TX10) (N := 11) hx hb hG inG_X10 hown hE.1 hP 0 rfl rfl 1 (by decide) (hG _ q_f_X10_15) (fun _ h9 => h9) rfl dX10_open_18 ?_
        refine lv_icmp_ge (tgt := 53) hx hb dX10_open_21 (by decide) (fun c_15 => ?_) (fun c_15 => ?_)
        · have ic_15 : o_len.toInt ≤ v1_9.toInt := k_le c_15 rfl rfl
          refine lv_aload_n hx hb dX10_open_53 rfl (lv_at hl 2 rfl) ?_
          refine lv_iconst (v := 0) hx hb dX10_open_54 (by decide) ?_
          refine lv_iconst (v := 0) hx hb dX10_open_55 (by decide) ?_
          refine lv_aload_n hx hb dX10_open_56 rfl (lv_at hl 2 rfl) ?_
          refine va_get (D := D) (ci := 10) (v := .int o_len) (C := RX10) (T := TX10) (N := 11) hx hb hG inG_X10 hown hE.1 hP 0 rfl rfl 1 (by decide) (hG _ q_f_X10_15) (fun _ h9 => h9) rfl dX10_open_57 ?_
          have lt32_15 : (0 : Int32).toInt = 0 := by decide
          have lt32_16 : (0 : Int32).toInt = 0 := by decide
          refine kwVV (wr := []) (As := [.int 0, .int 0, .int o_len]) (rest := []) F hE hP hD hS hA hl.1 (cc_X10_addToken l D cy (o := o) (x0 := 0) (x1 := 0) (x2 := o_len) (o_by := o_by) (o_len := o_len) (o_ki := o_ki) (o_va := o_va) (o_pl := o_pl) (o_tok := w5_o_9) (o_at := o_at) (o_kind := o_kind) (o_value := o_value) (o_place := o_place) (o_fault := o_fault) (g_oby := g_oby) (g_oki := go_ki_9) (g_ova := go_va_9) (g_opl := go_pl_9) (p0 := (by first | omega | assumption)) (p1 := (by first | omega | assumption)) (p2 := (by first | omega | assumption)) (p3 := (by first | omega | assumption)) (p4 := (by first | omega | assumption)) (p5 := (by first | omega | assumption)) (p6 := (by first | omega | assumption)) (p7 := (by first | omega | assumption))) q_m_X10_50 mv_X10_addToken ⟨(Nat.le_of_ble_eq_true rfl), (Nat.le_of_ble_eq_true rfl)⟩ [0, 1, 2, 3, 4] [] (by decide) rfl rfl (by decide) (by decide) rfl rfl rfl rfl rfl (Nat.le_of_ble_eq_true rfl) ⟨(Nat.le_of_ble_eq_true rfl), (Nat.le_of_ble_eq_true rfl)⟩ dX10_open_60 (fun u_18 H locs eu_18 hP hD hS => ?_)
          obtain ⟨o_tok_19, g_oki_20, g_ova_21, g_opl_22⟩ := u_18
          have eu_18 : (0 ≤ o_tok_19.toInt) ∧ (o_tok_19.toInt ≤ 401) ∧ (TKV g_oki_20 g_ova_21 g_opl_22 o_tok_19.toInt) := eu_18
          obtain ⟨eu_18a, eu_18b, eu_18c⟩ := eu_18
          have hP : va_P D vwCl [(o, .inr (10, [.ref o_by, .int o_len, .ref o_ki, .ref o_va, .ref o_pl, .int o_tok_19, .int o_at, .int o_kind, .int o_value, .int o_place, .int o_fault])), (o_by, .inl (cy 0, 400, .inl g_oby)), (o_ki, .inl (cy 0, 401, .inl g_oki_20)), (o_va, .inl (cy 0, 401, .inl g_ova_21)), (o_pl, .inl (cy 0, 401, .inl g_opl_22))] H := hP
          have hD : va_D A [(o, .inr (10, [.ref o_by, .int o_len, .ref o_ki, .ref o_va, .ref o_pl, .int o_tok_19, .int o_at, .int o_kind, .int o_value, .int o_place, .int o_fault])), (o_by, .inl (cy 0, 400, .inl g_oby)), (o_ki, .inl (cy 0, 401, .inl g_oki_20)), (o_va, .inl (cy 0, 401, .inl g_ova_21)), (o_pl, .inl (cy 0, 401, .inl g_opl_22))] := hD
          refine lv_aload_n hx hb dX10_open_63 rfl (lv_at hl 2 rfl) ?_
          refine lv_iconst (v := 0) hx hb dX10_open_64 (by decide) ?_
          refine va_put (D := D) (ci := 10) (v := .int 0) (ty := .int) (C := RX10) (T := TX10) (N := 11) hx hb hG inG_X10 tyX10 tyX10_ok nmX10 hown hE.1 hP hD hS 0 rfl rfl 10 (by decide) (hG _ q_f_X10_43) (fun _ h9 => h9) rfl (by decide +kernel) rfl rfl (Nat.le_of_ble_eq_true rfl) dX10_open_65 (fun H locs hP hD hS => ?_)
          have hP : va_P D vwCl [(o, .inr (10, [.ref o_by, .int o_len, .ref o_ki, .ref o_va, .ref o_pl, .int o_tok_19, .int o_at, .int o_kind, .int o_value, .int o_place, .int 0])), (o_by, .inl (cy 0, 400, .inl g_oby)), (o_ki, .inl (cy 0, 401, .inl g_oki_20)), (o_va, .inl (cy 0, 401, .inl g_ova_21)), (o_pl, .inl (cy 0, 401, .inl g_opl_22))] H := hP
          have hD : va_D A [(o, .inr (10, [.ref o_by, .int o_len, .ref o_ki, .ref o_va, .ref o_pl, .int o_tok_19, .int o_at, .int o_kind, .int o_value, .int o_place, .int 0])), (o_by, .inl (cy 0, 400, .inl g_oby)), (o_ki, .inl (cy 0, 401, .inl g_oki_20)), (o_va, .inl (cy 0, 401, .inl g_ova_21)), (o_pl, .inl (cy 0, 401, .inl g_opl_22))] := hD
          refine lv_aload_n hx hb dX10_open_68 rfl (lv_at hl 2 rfl) ?_
          refine lv_iconst (v := (-1)) hx hb dX10_open_69 (by decide) ?_
          refine va_put (D := D) (ci := 10) (v := .int (-1)) (ty := .int) (C := RX10) (T := TX10) (N := 11) hx hb hG inG_X10 tyX10 tyX10_ok nmX10 hown hE.1 hP hD hS 0 rfl rfl 6 (by decide) (hG _ q_f_X10_31) (fun _ h9 => h9) rfl (by decide +kernel) rfl rfl (Nat.le_of_ble_eq_true rfl) dX10_open_70 (fun H locs hP hD hS => ?_)
          have hP : va_P D vwCl [(o, .inr (10, [.ref o_by, .int o_len, .ref o_ki, .ref o_va, .ref o_pl, .int o_tok_19, .int (-1), .int o_kind, .int o_value, .int o_place, .int 0])), (o_by, .inl (cy 0, 400, .inl g_oby)), (o_ki, .inl (cy 0, 401, .inl g_oki_20)), (o_va, .inl (cy 0, 401, .inl g_ova_21)), (o_pl, .inl (cy 0, 401, .inl g_opl_22))] H := hP
          have hD : va_D A [(o, .inr (10, [.ref o_by, .int o_len, .ref o_ki, .ref o_va, .ref o_pl, .int o_tok_19, .int (-1), .int o_kind, .int o_value, .int o_place, .int 0])), (o_by, .inl (cy 0, 400, .inl g_oby)), (o_ki, .inl (cy 0, 401, .inl g_oki_20)), (o_va, .inl (cy 0, 401, .inl g_ova_21)), (o_pl, .inl (cy 0, 401, .inl g_opl_22))] := hD
          refine lv_aload_n hx hb dX10_open_73 rfl (lv_at hl 2 rfl) ?_
          have lt32_22 : ((-1) : Int32).toInt = (-1) := by decide
          refine kwVV (wr := []) (As := []) (rest := []) F hE hP hD hS hA hl.1 (cc_X10_advance l D cy (o := o) (o_by := o_by) (o_len := o_len) (o_ki := o_ki) (o_va := o_va) (o_pl := o_pl) (o_tok := o_tok_19) (o_at := (-1)) (o_kind := o_kind) (o_value := o_value) (o_place := o_place) (o_fault := 0) (g_oby := g_oby) (g_oki := g_oki_20) (g_ova := g_ova_21) (g_opl := g_opl_22) (p0 := (by first | omega | assumption)) (p1 := (by first | omega | assumption)) (p2 := (by first | omega | assumption)) (p3 := (by first | omega | assumption)) (p4 := (by first | omega | assumption)) (p5 := (by first | omega | assumption)) (p6 := (by first | omega | assumption)) (p7 := (by first | omega | assumption))) q_m_X10_54 mv_X10_advance ⟨(Nat.le_of_ble_eq_true rfl), (Nat.le_of_ble_eq_true rfl)⟩ [0, 1, 2, 3, 4] [] (by decide) rfl rfl (by decide) (by decide) rfl rfl rfl rfl rfl (Nat.le_of_ble_eq_true rfl) ⟨(Nat.le_of_ble_eq_true rfl), (Nat.le_of_ble_eq_true rfl)⟩ dX10_open_74 (fun u_24 H locs eu_24 hP hD hS => ?_)
          obtain ⟨o_at_25, o_kind_26, o_value_27, o_place_28⟩ := u_24
          have eu_24 : (-1 ≤ o_at_25.toInt) ∧ (o_at_25.toInt ≤ 400) ∧ (o_kind_26.toInt = 1 ∨ o_kind_26.toInt = 3 → 0 ≤ o_value_27.toInt ∧ o_value_27.toInt ≤ 99999) ∧ (0 ≤ o_place_28.toInt) ∧ (o_place_28.toInt ≤ 400) := eu_24
          obtain ⟨eu_24a, eu_24b, eu_24c, eu_24d, eu_24e⟩ := eu_24
          have hP : va_P D vwCl [(o, .inr (10, [.ref o_by, .int o_len, .ref o_ki, .ref o_va, .ref o_pl, .int o_tok_19, .int o_at_25, .int o_kind_26, .int o_value_27, .int o_place_28, .int 0])), (o_by, .inl (cy 0, 400, .inl g_oby)), (o_ki, .inl (cy 0, 401, .inl g_oki_20)), (o_va, .inl (cy 0, 401, .inl g_ova_21)), (o_pl, .inl (cy 0, 401, .inl g_opl_22))] H := hP
          have hD : va_D A [(o, .inr (10, [.ref o_by, .int o_len, .ref o_ki, .ref o_va, .ref o_pl, .int o_tok_19, .int o_at_25, .int o_kind_26, .int o_value_27, .int o_place_28, .int 0])), (o_by, .inl (cy 0, 400, .inl g_oby)), (o_ki, .inl (cy 0, 401, .inl g_oki_20)), (o_va, .inl (cy 0, 401, .inl g_ova_21)), (o_pl, .inl (cy 0, 401, .inl g_opl_22))] := hD
          have lito_fault : (0 : Int32).toInt = 0 := by decide
          exact KV.rt ⟨o_tok_19, o_at_25, o_kind_26, o_value_27, o_place_28, 0, g_oki_20, g_ova_21, g_opl_22⟩ F (hP.sub [0, 1, 2, 3, 4] rfl) (hD.sub [0, 1, 2, 3, 4] (by decide) rfl) hS (show (0 ≤ o_tok_19.toInt) ∧ (o_tok_19.toInt ≤ 401) ∧ (TKV g_oki_20 g_ova_21 g_opl_22 o_tok_19.toInt) ∧ (-1 ≤ o_at_25.toInt) ∧ (o_at_25.toInt ≤ 400) ∧ (o_kind_26.toInt = 1 ∨ o_kind_26.toInt = 3 → 0 ≤ o_value_27.toInt ∧ o_value_27.toInt ≤ 99999) ∧ (0 ≤ o_place_28.toInt) ∧ (o_place_28.toInt ≤ 400) ∧ ((0 : Int32).toInt = 0) from ⟨(by first | omega | assumption), (by first | omega | assumption), (by first | omega | assumption), (by first | omega | assumption), (by first | omega | assumption), (by first | omega | assumption), (by first | omega | assumption), (by first | omega | assumption), (by first | omega | assumption)⟩) (Nat.le_of_ble_eq_true rfl) (Nat.le_of_ble_eq_true rfl) dX10_open_77
        · have ic_15 : v1_9.toInt < o_len.toInt := k_nle c_15 rfl rfl
          refine lv_aload_n hx hb dX10_open_24 rfl (lv_at hl 2 rfl) ?_
          refine va_get (D := D) (ci := 10) (v := .ref o_by) (C := RX10) (T := TX10) (N := 11) hx hb hG inG_X10 hown hE.1 hP 0 rfl rfl 0 (by decide) (hG _ q_f_X10_11) (fun _ h9 => h9) rfl dX10_open_25 ?_
          refine lv_iload_n hx hb dX10_open_28 rfl (lv_at hl 1 rfl) ?_
          refine va_iald hx hb hE.1 hP 1 0 rfl rfl (k_in (by omega)) dX10_open_29 ?_
          refine k_top (z := (g_oby (Int32.toNatClampNeg v1_9))) rfl ?_
          refine lv_bipush (v := 32) hx hb dX10_open_30 (by decide) ?_
          refine lv_icmp_ne (tgt := 41) hx hb dX10_open_32 (by decide) (fun c_29 => ?_) (fun c_29 => ?_)
          · have ic_29 : (g_oby (Int32.toNatClampNeg v1_9)).toInt ≠ 32 := k_ne c_29 rfl (by decide)
            refine lv_aload_n hx hb dX10_open_41 rfl (lv_at hl 2 rfl) ?_
            refine lv_iload_n hx hb dX10_open_42 rfl (lv_at hl 1 rfl) ?_
            refine jxVI (wr := []) (As := [.int v1_9]) (rest := []) F hE hP hD hS hA hl.1 ZT_ok hZ (cc_X10_scanToken l D cy (o := o) (x0 := v1_9) (o_by := o_by) (o_len := o_len) (o_ki := o_ki) (o_va := o_va) (o_pl := o_pl) (o_tok := w5_o_9) (o_at := o_at) (o_kind := o_kind) (o_value := o_value) (o_place := o_place) (o_fault := o_fault) (g_oby := g_oby) (g_oki := go_ki_9) (g_ova := go_va_9) (g_opl := go_pl_9) (kt := kt) (vt := vt) (p0 := (by first | omega | assumption)) (p1 := (by first | omega | assumption)) (p2 := (by first | omega | assumption)) (p3 := (by first | omega | assumption)) (p4 := (by first | omega | assumption)) (p5 := (by first | omega | assumption)) (p6 := (by first | omega | assumption)) (p7 := (by first | omega | assumption)) (p8 := (by first | omega | assumption))) q_m_X10_46 mv_X10_scanToken ⟨(Nat.le_of_ble_eq_true rfl), (Nat.le_of_ble_eq_true rfl)⟩ [0, 1, 2, 3, 4] [] (by decide) rfl rfl (by decide) (by decide) rfl rfl rfl rfl rfl (Nat.le_of_ble_eq_true rfl) ⟨(Nat.le_of_ble_eq_true rfl), (Nat.le_of_ble_eq_true rfl)⟩ dX10_open_43 (fun r_31 u_30 H locs eu_30 hP hD hS => ?_)
            obtain ⟨o_tok_32, g_oki_33, g_ova_34, g_opl_35⟩ := u_30
            have eu_30 : (v1_9.toInt ≤ r_31.toInt) ∧ (r_31.toInt ≤ o_len.toInt) ∧ (0 ≤ o_tok_32.toInt) ∧ (o_tok_32.toInt ≤ 401) ∧ (TKV g_oki_33 g_ova_34 g_opl_35 o_tok_32.toInt) := eu_30
            obtain ⟨eu_30a, eu_30b, eu_30c, eu_30d, eu_30e⟩ := eu_30
            have hP : va_P D vwCl [(o, .inr (10, [.ref o_by, .int o_len, .ref o_ki, .ref o_va, .ref o_pl, .int o_tok_32, .int o_at, .int o_kind, .int o_value, .int o_place, .int o_fault])), (o_by, .inl (cy 0, 400, .inl g_oby)), (o_ki, .inl (cy 0, 401, .inl g_oki_33)), (o_va, .inl (cy 0, 401, .inl g_ova_34)), (o_pl, .inl (cy 0, 401, .inl g_opl_35))] H := hP
            have hD : va_D A [(o, .inr (10, [.ref o_by, .int o_len, .ref o_ki, .ref o_va, .ref o_pl, .int o_tok_32, .int o_at, .int o_kind, .int o_value, .int o_place, .int o_fault])), (o_by, .inl (cy 0, 400, .inl g_oby)), (o_ki, .inl (cy 0, 401, .inl g_oki_33)), (o_va, .inl (cy 0, 401, .inl g_ova_34)), (o_pl, .inl (cy 0, 401, .inl g_opl_35))] := hD
            refine lv_istore_n (lv' := [(1, .int r_31), (2, .int v2_9), (0, .ref o)]) hx hb dX10_open_46 rfl hl (by decide) rfl (fun ls hl => ?_)
            obtain ⟨z_36, ez_36⟩ : ∃ y : Int32, y = v2_9 + Int32.ofInt 1 := ⟨_, rfl⟩
            have iz_36 : z_36.toInt = v2_9.toInt + 1 := k_addI ez_36 rfl (by decide) (by omega)
            refine lv_iinc (v := z_36) (lv' := [(2, .int z_36), (1, .int r_31), (0, .ref o)]) hx hb dX10_open_47 hl (k := 1) rfl ez_36.symm (by decide) rfl (fun ls hl => ?_)
            refine lv_goto (tgt := 9) hx hb dX10_open_50 (by decide) ?_
            exact ih9 z_36 r_31 o_tok_32 g_oki_33 g_ova_34 g_opl_35 _ _ ls (by first | omega | assumption) (by first | omega | assumption) (by first | omega | assumption) (by first | omega | assumption) (by first | omega | assumption) (by first | omega | assumption) (by first | omega | assumption) (by omega) hP hD hS (lv_sub hl [0, 1, 2] rfl)
          · have ic_29 : (g_oby (Int32.toNatClampNeg v1_9)).toInt = 32 := k_eq c_29 rfl (by decide)
            refine lv_iload_n hx hb dX10_open_35 rfl (lv_at hl 1 rfl) ?_
            refine lv_iconst (v := 1) hx hb dX10_open_36 (by decide) ?_
            refine lv_iadd hx hb dX10_open_37 ?_
            refine lv_topi (fun z_37 ez_37 => ?_)
            have iz_37 : z_37.toInt = v1_9.toInt + 1 := k_addI ez_37 rfl (by decide) (by omega)
            refine lv_goto (tgt := 46) hx hb dX10_open_38 (by decide) ?_
            refine lv_istore_n (lv' := [(1, .int z_37), (2, .int v2_9), (0, .ref o)]) hx hb dX10_open_46 rfl hl (by decide) rfl (fun ls hl => ?_)
            obtain ⟨z_38, ez_38⟩ : ∃ y : Int32, y = v2_9 + Int32.ofInt 1 := ⟨_, rfl⟩
            have iz_38 : z_38.toInt = v2_9.toInt + 1 := k_addI ez_38 rfl (by decide) (by omega)
            refine lv_iinc (v := z_38) (lv' := [(2, .int z_38), (1, .int z_37), (0, .ref o)]) hx hb dX10_open_47 hl (k := 1) rfl ez_38.symm (by decide) rfl (fun ls hl => ?_)
            refine lv_goto (tgt := 9) hx hb dX10_open_50 (by decide) ?_
            exact ih9 z_38 z_37 w5_o_9 go_ki_9 go_va_9 go_pl_9 _ _ ls (by first | omega | assumption) (by first | omega | assumption) (by first | omega | assumption) (by first | omega | assumption) (by first | omega | assumption) (by first | omega | assumption) (by first | omega | assumption) (by omega) hP hD hS (lv_sub hl [0, 1, 2] rfl)
  have lt_39 : (0 : Int32).toInt = 0 := by decide
  exact lp9 100000 0 0 0 g_oki g_ova g_opl _ _ ls (by first | omega | assumption) (by first | omega | assumption) (by first | omega | assumption) (by first | omega | assumption) (by first | omega | assumption) (by first | omega | assumption) (TKV.zero (by omega)) (by omega) hP hD hS hl
