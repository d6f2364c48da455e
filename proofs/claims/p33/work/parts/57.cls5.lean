theorem k_pair2 {p r q m : Int32} (hr : 1 ≤ r.toInt ∧ r.toInt ≤ 6) (hp : 0 ≤ p.toInt ∧ p.toInt < r.toInt * r.toInt) (eq : q = p / r) (em : m = p - p / r * r) : 0 ≤ q.toInt ∧ q.toInt ≤ 5 ∧ 0 ≤ m.toInt ∧ m.toInt ≤ 5 := by
  have hq := k_divI eq rfl rfl hp.1 (by omega)
  obtain ⟨m1, m2, m3⟩ := k_remI em rfl (show 0 < r.toInt by omega)
  have m4 := k_remN em (by omega) hp.1
  have q1 : 0 ≤ p.toInt / r.toInt := Int.ediv_nonneg hp.1 (by omega)
  have q2 : p.toInt / r.toInt < r.toInt := Int.ediv_lt_of_lt_mul (by omega) hp.2
  omega

set_option maxHeartbeats 4000000 in
set_option maxRecDepth 100000 in
theorem cc_X2_isRest (l : Launch) (D : va_G) (cy : Nat → ClassId) (o : Nat) (o_one : Nat) (o_oth : Nat) (o_which : Int32) (o_much : Int32) (o_drawn : Int32) (g_oone : Nat → Int32) (g_ooth : Nat → Int32) (x0 : Int32) (x1 : Int32) (p0 : 0 ≤ x0.toInt) (p1 : x0.toInt < x1.toInt * x1.toInt) (p2 : 0 ≤ x1.toInt) (p3 : x1.toInt ≤ 6) (p4 : x0.toInt ≤ 35) : KP l yX2_isRest cX2_isRest 7 (some .boolean) 0 0 D (kTY cy) [.ref o, .int x0, .int x1] [(o, .inr (2, [.int o_which, .int o_much, .int o_drawn, .ref o_one, .ref o_oth])), (o_one, .inl (cy 0, 36, .inl g_oone)), (o_oth, .inl (cy 0, 36, .inl g_ooth))] (fun r => (r.toInt = 0 ∨ r.toInt = 1)) := by
  refine KP.of (by decide) (Nat.le_of_ble_eq_true rfl) (fun p e s m below meth c ls F hE hP hl => ?_)
  have F : kF p s m meth c cX2_isRest 7 (some .boolean) _ RX2 := F
  obtain ⟨hx, hb, hr, hml, hown, hG, hlk⟩ := id F
  have hl : lv_has ls 7 [(0, .ref o), (1, .int x0), (2, .int x1)] := hl
  refine lv_iload_n hx hb dX2_isRest_0 rfl (lv_at hl 2 rfl) ?_
  refine lv_iconst (v := 1) hx hb dX2_isRest_1 (by decide) ?_
  refine lv_icmp_ge (tgt := 7) hx hb dX2_isRest_2 (by decide) (fun c_1 => ?_) (fun c_1 => ?_)
  · have ic_1 : 1 ≤ x1.toInt := k_le c_1 (by decide) rfl
    refine lv_iload_n hx hb dX2_isRest_7 rfl (lv_at hl 1 rfl) ?_
    refine lv_iload_n hx hb dX2_isRest_8 rfl (lv_at hl 2 rfl) ?_
    refine lv_irem hx hb dX2_isRest_9 (k_nz (by omega)) ?_
    refine lv_topi (fun z_2 ez_2 => ?_)
    refine lv_istore_n (lv' := [(3, .int z_2), (0, .ref o), (1, .int x0), (2, .int x1)]) hx hb dX2_isRest_10 rfl hl (by decide) rfl (fun ls hl => ?_)
    refine lv_iload_n hx hb dX2_isRest_11 rfl (lv_at hl 2 rfl) ?_
    refine lv_iload_n hx hb dX2_isRest_12 rfl (lv_at hl 3 rfl) ?_
    refine lv_idiv hx hb dX2_isRest_13 (k_nz (by omega)) ?_
    refine lv_topi (fun z_3 ez_3 => ?_)
    obtain ⟨kq1, kq2, kq3, kq4⟩ := k_pair2 (p := x0) (r := x1) (by omega) (by omega) ez_3 ez_2
    refine lv_istore (lv' := [(4, .int z_3), (3, .int z_2), (0, .ref o), (1, .int x0), (2, .int x1)]) hx hb dX2_isRest_14 hl (by decide) rfl (fun ls hl => ?_)
    refine lv_iconst (v := 0) hx hb dX2_isRest_16 (by decide) ?_
    refine lv_istore (lv' := [(5, .int 0), (4, .int z_3), (3, .int z_2), (0, .ref o), (1, .int x0), (2, .int x1)]) hx hb dX2_isRest_17 hl (by decide) rfl (fun ls hl => ?_)
    have lp19 : ∀ (fu : Nat) (v5_19 : Int32) (ls : Array Slot), (0 ≤ v5_19.toInt) → (v5_19.toInt ≤ 6) → 6 - v5_19.toInt < (fu : Int) → lv_has ls 7 [(5, .int v5_19), (4, .int z_3), (3, .int z_2), (0, .ref o), (1, .int x0), (2, .int x1)] → W p l e (kR 0 0) s m ([.ref o, .int x0, .int x1] : List Value).toArray below meth c s.heap [] 0 0 (MQ below (kQ (fun r => (r.toInt = 0 ∨ r.toInt = 1))) ([.ref o, .int x0, .int x1] : List Value).toArray s 0 0 (fun _ => False)) (F0 m 19 ls []) := by
      intro fu19
      induction fu19 with
      | zero =>
        intro v5_19 ls j0_19 j1_19 hm19 hl
        exact absurd hm19 (by omega)
      | succ fu19 ih19 =>
        intro v5_19 ls j0_19 j1_19 hm19 hl
        refine lv_iload hx hb dX2_isRest_19 (lv_at hl 0 rfl) ?_
        refine lv_iload_n hx hb dX2_isRest_21 rfl (lv_at hl 5 rfl) ?_
        refine lv_icmp_ge (tgt := 86) hx hb dX2_isRest_22 (by decide) (fun c_4 => ?_) (fun c_4 => ?_)
        · have ic_4 : x1.toInt ≤ v5_19.toInt := k_le c_4 rfl rfl
          refine lv_iconst (v := 1) hx hb dX2_isRest_86 (by decide) ?_
          have lit0 : (1 : Int32).toInt = 1 := by decide
          exact KP.rt F rfl (show ((1 : Int32).toInt = 0 ∨ (1 : Int32).toInt = 1) from (by first | omega | assumption)) dX2_isRest_87
        · have ic_4 : v5_19.toInt < x1.toInt := k_nle c_4 rfl rfl
          refine lv_aload_n hx hb dX2_isRest_25 rfl (lv_at hl 3 rfl) ?_
          refine va_get (D := D) (ci := 2) (v := .ref o_one) (C := RX2) (T := TX2) (N := 5) hx hb hG inG_X2 hown hE.1 hP 0 rfl rfl 3 (by decide) (hG _ q_f_X2_21) (fun _ h9 => h9) rfl dX2_isRest_26 ?_
          refine lv_iload hx hb dX2_isRest_29 (lv_at hl 0 rfl) ?_
          refine lv_iload_n hx hb dX2_isRest_31 rfl (lv_at hl 5 rfl) ?_
          refine lv_imul hx hb dX2_isRest_32 ?_
          refine lv_topi (fun z_5 ez_5 => ?_)
          obtain ⟨iz_5m, iz_5n, iz_5o⟩ := k_mulB (a := 5) (b := 6) ez_5 (by omega) (by omega) (by decide)
          refine lv_iload_n hx hb dX2_isRest_33 rfl (lv_at hl 2 rfl) ?_
          refine lv_iadd hx hb dX2_isRest_34 ?_
          refine lv_topi (fun z_6 ez_6 => ?_)
          have iz_6 : z_6.toInt = z_5.toInt + z_2.toInt := k_addI ez_6 rfl rfl (by omega)
          refine va_iald hx hb hE.1 hP 1 0 rfl rfl (k_in (by omega)) dX2_isRest_35 ?_
          refine k_top (z := (g_oone (Int32.toNatClampNeg z_6))) rfl ?_
          refine lv_aload_n hx hb dX2_isRest_36 rfl (lv_at hl 3 rfl) ?_
          refine va_get (D := D) (ci := 2) (v := .ref o_one) (C := RX2) (T := TX2) (N := 5) hx hb hG inG_X2 hown hE.1 hP 0 rfl rfl 3 (by decide) (hG _ q_f_X2_21) (fun _ h9 => h9) rfl dX2_isRest_37 ?_
          refine lv_iload_n hx hb dX2_isRest_40 rfl (lv_at hl 4 rfl) ?_
          refine va_iald hx hb hE.1 hP 1 0 rfl rfl (k_in (by omega)) dX2_isRest_41 ?_
          refine k_top (z := (g_oone (Int32.toNatClampNeg x0))) rfl ?_
          refine lv_icmp_le (tgt := 49) hx hb dX2_isRest_42 (by decide) (fun c_7 => ?_) (fun c_7 => ?_)
          · have ic_7 : (g_oone (Int32.toNatClampNeg z_6)).toInt ≤ (g_oone (Int32.toNatClampNeg x0)).toInt := k_le c_7 rfl rfl
            refine lv_iconst (v := 0) hx hb dX2_isRest_49 (by decide) ?_
            refine lv_istore (lv' := [(6, .int 0), (5, .int v5_19), (4, .int z_3), (3, .int z_2), (0, .ref o), (1, .int x0), (2, .int x1)]) hx hb dX2_isRest_50 hl (by decide) rfl (fun ls hl => ?_)
            refine lv_iload hx hb dX2_isRest_52 (lv_at hl 0 rfl) ?_
            refine lv_if_ne (tgt := 78) hx hb dX2_isRest_54 (by decide) (fun q => absurd q (by decide)) (fun _ => ?_)
            refine lv_aload_n hx hb dX2_isRest_57 rfl (lv_at hl 4 rfl) ?_
            refine va_get (D := D) (ci := 2) (v := .ref o_oth) (C := RX2) (T := TX2) (N := 5) hx hb hG inG_X2 hown hE.1 hP 0 rfl rfl 4 (by decide) (hG _ q_f_X2_25) (fun _ h9 => h9) rfl dX2_isRest_58 ?_
            refine lv_iload hx hb dX2_isRest_61 (lv_at hl 2 rfl) ?_
            refine lv_iload_n hx hb dX2_isRest_63 rfl (lv_at hl 6 rfl) ?_
            refine lv_imul hx hb dX2_isRest_64 ?_
            refine lv_topi (fun z_8 ez_8 => ?_)
            obtain ⟨iz_8m, iz_8n, iz_8o⟩ := k_mulB (a := 5) (b := 6) ez_8 (by omega) (by omega) (by decide)
            refine lv_iload hx hb dX2_isRest_65 (lv_at hl 1 rfl) ?_
            refine lv_iadd hx hb dX2_isRest_67 ?_
            refine lv_topi (fun z_9 ez_9 => ?_)
            have iz_9 : z_9.toInt = z_8.toInt + v5_19.toInt := k_addI ez_9 rfl rfl (by omega)
            refine va_iald hx hb hE.1 hP 2 0 rfl rfl (k_in (by omega)) dX2_isRest_68 ?_
            refine k_top (z := (g_ooth (Int32.toNatClampNeg z_9))) rfl ?_
            refine lv_aload_n hx hb dX2_isRest_69 rfl (lv_at hl 4 rfl) ?_
            refine va_get (D := D) (ci := 2) (v := .ref o_oth) (C := RX2) (T := TX2) (N := 5) hx hb hG inG_X2 hown hE.1 hP 0 rfl rfl 4 (by decide) (hG _ q_f_X2_25) (fun _ h9 => h9) rfl dX2_isRest_70 ?_
            refine lv_iload_n hx hb dX2_isRest_73 rfl (lv_at hl 5 rfl) ?_
            refine va_iald hx hb hE.1 hP 2 0 rfl rfl (k_in (by omega)) dX2_isRest_74 ?_
            refine k_top (z := (g_ooth (Int32.toNatClampNeg x0))) rfl ?_
            refine lv_icmp_le (tgt := 80) hx hb dX2_isRest_75 (by decide) (fun c_10 => ?_) (fun c_10 => ?_)
            · have ic_10 : (g_ooth (Int32.toNatClampNeg z_9)).toInt ≤ (g_ooth (Int32.toNatClampNeg x0)).toInt := k_le c_10 rfl rfl
              obtain ⟨z_11, ez_11⟩ : ∃ y : Int32, y = v5_19 + Int32.ofInt 1 := ⟨_, rfl⟩
              have iz_11 : z_11.toInt = v5_19.toInt + 1 := k_addI ez_11 rfl (by decide) (by omega)
              refine lv_iinc (v := z_11) (lv' := [(5, .int z_11), (6, .int 0), (4, .int z_3), (3, .int z_2), (0, .ref o), (1, .int x0), (2, .int x1)]) hx hb dX2_isRest_80 hl (k := 1) rfl ez_11.symm (by decide) rfl (fun ls hl => ?_)
              refine lv_goto (tgt := 19) hx hb dX2_isRest_83 (by decide) ?_
              exact ih19 z_11 ls (by first | omega | assumption) (by first | omega | assumption) (by omega) (lv_sub hl [0, 2, 3, 4, 5, 6] rfl)
            · have ic_10 : (g_ooth (Int32.toNatClampNeg x0)).toInt < (g_ooth (Int32.toNatClampNeg z_9)).toInt := k_nle c_10 rfl rfl
              refine lv_iconst (v := 0) hx hb dX2_isRest_78 (by decide) ?_
              have lit0 : (0 : Int32).toInt = 0 := by decide
              exact KP.rt F rfl (show ((0 : Int32).toInt = 0 ∨ (0 : Int32).toInt = 1) from (by first | omega | assumption)) dX2_isRest_79
          · have ic_7 : (g_oone (Int32.toNatClampNeg x0)).toInt < (g_oone (Int32.toNatClampNeg z_6)).toInt := k_nle c_7 rfl rfl
            refine lv_iconst (v := 1) hx hb dX2_isRest_45 (by decide) ?_
            refine lv_goto (tgt := 50) hx hb dX2_isRest_46 (by decide) ?_
            refine lv_istore (lv' := [(6, .int 1), (5, .int v5_19), (4, .int z_3), (3, .int z_2), (0, .ref o), (1, .int x0), (2, .int x1)]) hx hb dX2_isRest_50 hl (by decide) rfl (fun ls hl => ?_)
            refine lv_iload hx hb dX2_isRest_52 (lv_at hl 0 rfl) ?_
            refine lv_if_ne (tgt := 78) hx hb dX2_isRest_54 (by decide) (fun _ => ?_) (fun q => absurd q (by decide))
            refine lv_iconst (v := 0) hx hb dX2_isRest_78 (by decide) ?_
            have lit0 : (0 : Int32).toInt = 0 := by decide
            exact KP.rt F rfl (show ((0 : Int32).toInt = 0 ∨ (0 : Int32).toInt = 1) from (by first | omega | assumption)) dX2_isRest_79
    have lt_12 : (0 : Int32).toInt = 0 := by decide
    exact lp19 100000 0 ls (by first | omega | assumption) (by first | omega | assumption) (by omega) hl
  · have ic_1 : x1.toInt < 1 := k_nle c_1 (by decide) rfl
    refine lv_iconst (v := 0) hx hb dX2_isRest_5 (by decide) ?_
    have lit0 : (0 : Int32).toInt = 0 := by decide
    exact KP.rt F rfl (show ((0 : Int32).toInt = 0 ∨ (0 : Int32).toInt = 1) from (by first | omega | assumption)) dX2_isRest_6

set_option maxHeartbeats 4000000 in
set_option maxRecDepth 100000 in
theorem cc_X2_restsOf (l : Launch) (D : va_G) (cy : Nat → ClassId) (o : Nat) (o_one : Nat) (o_oth : Nat) (o_which : Int32) (o_much : Int32) (o_drawn : Int32) (g_oone : Nat → Int32) (g_ooth : Nat → Int32) (x0 : Int32) (x1 : Int32) (p0 : 0 ≤ x0.toInt) (p1 : x0.toInt ≤ 6) : KP l yX2_restsOf cX2_restsOf 6 (some .int) 1 26 D (kTY cy) [.ref o, .int x0, .int x1] [(o, .inr (2, [.int o_which, .int o_much, .int o_drawn, .ref o_one, .ref o_oth])), (o_one, .inl (cy 0, 36, .inl g_oone)), (o_oth, .inl (cy 0, 36, .inl g_ooth))] (fun r => True) := by
  refine KP.of (by decide) (Nat.le_of_ble_eq_true rfl) (fun p e s m below meth c ls F hE hP hl => ?_)
  have F : kF p s m meth c cX2_restsOf 6 (some .int) _ RX2 := F
  obtain ⟨hx, hb, hr, hml, hown, hG, hlk⟩ := id F
  have hl : lv_has ls 6 [(0, .ref o), (1, .int x0), (2, .int x1)] := hl
  refine lv_iconst (v := 0) hx hb dX2_restsOf_0 (by decide) ?_
  refine lv_istore_n (lv' := [(3, .int 0), (0, .ref o), (1, .int x0), (2, .int x1)]) hx hb dX2_restsOf_1 rfl hl (by decide) rfl (fun ls hl => ?_)
  refine lv_iconst (v := (-1)) hx hb dX2_restsOf_2 (by decide) ?_
  refine lv_istore (lv' := [(4, .int (-1)), (3, .int 0), (0, .ref o), (1, .int x0), (2, .int x1)]) hx hb dX2_restsOf_3 hl (by decide) rfl (fun ls hl => ?_)
  refine lv_iconst (v := 0) hx hb dX2_restsOf_5 (by decide) ?_
  refine lv_istore (lv' := [(5, .int 0), (4, .int (-1)), (3, .int 0), (0, .ref o), (1, .int x0), (2, .int x1)]) hx hb dX2_restsOf_6 hl (by decide) rfl (fun ls hl => ?_)
  have lp8 : ∀ (fu : Nat) (v5_8 : Int32) (v4_8 : Int32) (v3_8 : Int32) (ls : Array Slot), (0 ≤ v5_8.toInt) → (v5_8.toInt ≤ 36) → 36 - v5_8.toInt < (fu : Int) → lv_has ls 6 [(5, .int v5_8), (4, .int v4_8), (3, .int v3_8), (0, .ref o), (1, .int x0), (2, .int x1)] → W p l e (kR 1 26) s m ([.ref o, .int x0, .int x1] : List Value).toArray below meth c s.heap [] 0 0 (MQ below (kQ (fun r => True)) ([.ref o, .int x0, .int x1] : List Value).toArray s 0 0 (fun _ => False)) (F0 m 8 ls []) := by
    intro fu8
    induction fu8 with
    | zero =>
      intro v5_8 v4_8 v3_8 ls j0_8 j1_8 hm8 hl
      exact absurd hm8 (by omega)
    | succ fu8 ih8 =>
      intro v5_8 v4_8 v3_8 ls j0_8 j1_8 hm8 hl
      refine lv_iload hx hb dX2_restsOf_8 (lv_at hl 0 rfl) ?_
      refine lv_iload_n hx hb dX2_restsOf_10 rfl (lv_at hl 4 rfl) ?_
      refine lv_iload_n hx hb dX2_restsOf_11 rfl (lv_at hl 4 rfl) ?_
      refine lv_imul hx hb dX2_restsOf_12 ?_
      refine lv_topi (fun z_1 ez_1 => ?_)
      obtain ⟨iz_1m, iz_1n, iz_1o⟩ := k_mulB (a := 6) (b := 6) ez_1 (by omega) (by omega) (by decide)
      refine lv_icmp_ge (tgt := 48) hx hb dX2_restsOf_13 (by decide) (fun c_2 => ?_) (fun c_2 => ?_)
      · have ic_2 : z_1.toInt ≤ v5_8.toInt := k_le c_2 rfl rfl
        refine lv_iload_n hx hb dX2_restsOf_48 rfl (lv_at hl 5 rfl) ?_
        refine lv_if_ne (tgt := 54) hx hb dX2_restsOf_49 (by decide) (fun c_3 => ?_) (fun c_3 => ?_)
        · have ic_3 : x1.toInt ≠ 0 := k_ne c_3 rfl (by decide)
          refine lv_iload hx hb dX2_restsOf_54 (lv_at hl 1 rfl) ?_
          refine lv_iconst (v := (-1)) hx hb dX2_restsOf_56 (by decide) ?_
          refine lv_icmp_eq (tgt := 65) hx hb dX2_restsOf_57 (by decide) (fun c_4 => ?_) (fun c_4 => ?_)
          · have ic_4 : v4_8.toInt = (-1) := k_eq c_4 rfl (by decide)
            refine lv_bipush (v := (-2)) hx hb dX2_restsOf_65 (by decide) ?_
            have lit0 : ((-2) : Int32).toInt = (-2) := by decide
            exact KP.rt F rfl trivial dX2_restsOf_67
          · have ic_4 : v4_8.toInt ≠ (-1) := k_ne c_4 rfl (by decide)
            refine lv_iload_n hx hb dX2_restsOf_60 rfl (lv_at hl 4 rfl) ?_
            refine lv_iconst (v := 1) hx hb dX2_restsOf_61 (by decide) ?_
            refine lv_icmp_ge (tgt := 68) hx hb dX2_restsOf_62 (by decide) (fun c_5 => ?_) (fun c_5 => ?_)
            · have ic_5 : 1 ≤ x0.toInt := k_le c_5 (by decide) rfl
              refine lv_iload_n hx hb dX2_restsOf_68 rfl (lv_at hl 5 rfl) ?_
              refine lv_iconst (v := 1) hx hb dX2_restsOf_69 (by decide) ?_
              refine lv_icmp_ne (tgt := 80) hx hb dX2_restsOf_70 (by decide) (fun c_6 => ?_) (fun c_6 => ?_)
              · have ic_6 : x1.toInt ≠ 1 := k_ne c_6 rfl (by decide)
                refine lv_iload hx hb dX2_restsOf_80 (lv_at hl 1 rfl) ?_
                refine lv_iload_n hx hb dX2_restsOf_82 rfl (lv_at hl 4 rfl) ?_
                refine lv_irem hx hb dX2_restsOf_83 (k_nz (by omega)) ?_
                refine lv_topi (fun z_7 ez_7 => ?_)
                exact KP.rt F rfl trivial dX2_restsOf_84
              · have ic_6 : x1.toInt = 1 := k_eq c_6 rfl (by decide)
                refine lv_iload hx hb dX2_restsOf_73 (lv_at hl 1 rfl) ?_
                refine lv_iload_n hx hb dX2_restsOf_75 rfl (lv_at hl 4 rfl) ?_
                refine lv_idiv hx hb dX2_restsOf_76 (k_nz (by omega)) ?_
                refine lv_topi (fun z_8 ez_8 => ?_)
                refine lv_goto (tgt := 84) hx hb dX2_restsOf_77 (by decide) ?_
                exact KP.rt F rfl trivial dX2_restsOf_84
            · have ic_5 : x0.toInt < 1 := k_nle c_5 (by decide) rfl
              refine lv_bipush (v := (-2)) hx hb dX2_restsOf_65 (by decide) ?_
              have lit0 : ((-2) : Int32).toInt = (-2) := by decide
              exact KP.rt F rfl trivial dX2_restsOf_67
        · have ic_3 : x1.toInt = 0 := k_eq c_3 rfl (by decide)
          refine lv_iload_n hx hb dX2_restsOf_52 rfl (lv_at hl 2 rfl) ?_
          exact KP.rt F rfl trivial dX2_restsOf_53
      · have ic_2 : v5_8.toInt < z_1.toInt := k_nle c_2 rfl rfl
        refine lv_aload_n hx hb dX2_restsOf_16 rfl (lv_at hl 3 rfl) ?_
        refine lv_iload hx hb dX2_restsOf_17 (lv_at hl 0 rfl) ?_
        refine lv_iload_n hx hb dX2_restsOf_19 rfl (lv_at hl 4 rfl) ?_
        refine kcV (As := [.int v5_8, .int x0]) (rest := []) F hE hP hl.1 (cc_X2_isRest l D cy (o := o) (x0 := v5_8) (x1 := x0) (o_which := o_which) (o_much := o_much) (o_drawn := o_drawn) (o_one := o_one) (o_oth := o_oth) (g_oone := g_oone) (g_ooth := g_ooth) (p0 := (by first | omega | assumption)) (p1 := (by first | omega | assumption)) (p2 := (by first | omega | assumption)) (p3 := (by first | omega | assumption)) (p4 := (by first | omega | assumption))) q_m_X2_90 mv_X2_isRest ⟨(Nat.le_of_ble_eq_true rfl), (Nat.le_of_ble_eq_true rfl)⟩ [0, 1, 2] rfl rfl rfl rfl rfl rfl (Nat.le_of_ble_eq_true rfl) ⟨(Nat.le_of_ble_eq_true rfl), (Nat.le_of_ble_eq_true rfl)⟩ dX2_restsOf_20 (fun r_9 er_9 => ?_)
        have er_9 : (r_9.toInt = 0 ∨ r_9.toInt = 1) := er_9
        refine lv_if_eq (tgt := 42) hx hb dX2_restsOf_23 (by decide) (fun c_10 => ?_) (fun c_10 => ?_)
        · have ic_10 : r_9.toInt = 0 := k_eq c_10 rfl (by decide)
          clear er_9
          obtain ⟨z_11, ez_11⟩ : ∃ y : Int32, y = v5_8 + Int32.ofInt 1 := ⟨_, rfl⟩
          have iz_11 : z_11.toInt = v5_8.toInt + 1 := k_addI ez_11 rfl (by decide) (by omega)
          refine lv_iinc (v := z_11) (lv' := [(5, .int z_11), (4, .int v4_8), (3, .int v3_8), (0, .ref o), (1, .int x0), (2, .int x1)]) hx hb dX2_restsOf_42 hl (k := 0) rfl ez_11.symm (by decide) rfl (fun ls hl => ?_)
          refine lv_goto (tgt := 8) hx hb dX2_restsOf_45 (by decide) ?_
          exact ih8 z_11 v4_8 v3_8 ls (by first | omega | assumption) (by first | omega | assumption) (by omega) (lv_sub hl [0, 1, 2, 3, 4, 5] rfl)
        · have ic_10 : r_9.toInt ≠ 0 := k_ne c_10 rfl (by decide)
          clear er_9
          refine lv_iload_n hx hb dX2_restsOf_26 rfl (lv_at hl 2 rfl) ?_
          refine lv_if_ne (tgt := 35) hx hb dX2_restsOf_27 (by decide) (fun c_12 => ?_) (fun c_12 => ?_)
          · have ic_12 : v3_8.toInt ≠ 0 := k_ne c_12 rfl (by decide)
            refine lv_iload hx hb dX2_restsOf_35 (lv_at hl 1 rfl) ?_
            refine lv_istore (lv' := [(4, .int v4_8), (5, .int v5_8), (3, .int v3_8), (0, .ref o), (1, .int x0), (2, .int x1)]) hx hb dX2_restsOf_37 hl (by decide) rfl (fun ls hl => ?_)
            obtain ⟨z_13, ez_13⟩ : ∃ y : Int32, y = v3_8 + Int32.ofInt 1 := ⟨_, rfl⟩
            refine lv_iinc (v := z_13) (lv' := [(3, .int z_13), (4, .int v4_8), (5, .int v5_8), (0, .ref o), (1, .int x0), (2, .int x1)]) hx hb dX2_restsOf_39 hl (k := 2) rfl ez_13.symm (by decide) rfl (fun ls hl => ?_)
            obtain ⟨z_14, ez_14⟩ : ∃ y : Int32, y = v5_8 + Int32.ofInt 1 := ⟨_, rfl⟩
            have iz_14 : z_14.toInt = v5_8.toInt + 1 := k_addI ez_14 rfl (by decide) (by omega)
            refine lv_iinc (v := z_14) (lv' := [(5, .int z_14), (3, .int z_13), (4, .int v4_8), (0, .ref o), (1, .int x0), (2, .int x1)]) hx hb dX2_restsOf_42 hl (k := 2) rfl ez_14.symm (by decide) rfl (fun ls hl => ?_)
            refine lv_goto (tgt := 8) hx hb dX2_restsOf_45 (by decide) ?_
            exact ih8 z_14 v4_8 z_13 ls (by first | omega | assumption) (by first | omega | assumption) (by omega) (lv_sub hl [0, 2, 1, 3, 4, 5] rfl)
          · have ic_12 : v3_8.toInt = 0 := k_eq c_12 rfl (by decide)
            refine lv_iload hx hb dX2_restsOf_30 (lv_at hl 0 rfl) ?_
            refine lv_goto (tgt := 37) hx hb dX2_restsOf_32 (by decide) ?_
            refine lv_istore (lv' := [(4, .int v5_8), (5, .int v5_8), (3, .int v3_8), (0, .ref o), (1, .int x0), (2, .int x1)]) hx hb dX2_restsOf_37 hl (by decide) rfl (fun ls hl => ?_)
            obtain ⟨z_15, ez_15⟩ : ∃ y : Int32, y = v3_8 + Int32.ofInt 1 := ⟨_, rfl⟩
            refine lv_iinc (v := z_15) (lv' := [(3, .int z_15), (4, .int v5_8), (5, .int v5_8), (0, .ref o), (1, .int x0), (2, .int x1)]) hx hb dX2_restsOf_39 hl (k := 2) rfl ez_15.symm (by decide) rfl (fun ls hl => ?_)
            obtain ⟨z_16, ez_16⟩ : ∃ y : Int32, y = v5_8 + Int32.ofInt 1 := ⟨_, rfl⟩
            have iz_16 : z_16.toInt = v5_8.toInt + 1 := k_addI ez_16 rfl (by decide) (by omega)
            refine lv_iinc (v := z_16) (lv' := [(5, .int z_16), (3, .int z_15), (4, .int v5_8), (0, .ref o), (1, .int x0), (2, .int x1)]) hx hb dX2_restsOf_42 hl (k := 2) rfl ez_16.symm (by decide) rfl (fun ls hl => ?_)
            refine lv_goto (tgt := 8) hx hb dX2_restsOf_45 (by decide) ?_
            exact ih8 z_16 v5_8 z_15 ls (by first | omega | assumption) (by first | omega | assumption) (by omega) (lv_sub hl [0, 2, 1, 3, 4, 5] rfl)
  have lt_17 : ((-1) : Int32).toInt = (-1) := by decide
  have lt_18 : (0 : Int32).toInt = 0 := by decide
  exact lp8 100000 0 (-1) 0 ls (by first | omega | assumption) (by first | omega | assumption) (by omega) hl

set_option maxHeartbeats 4000000 in
set_option maxRecDepth 100000 in
theorem cc_X2_penceOf (l : Launch) (D : va_G) (cy : Nat → ClassId) (o : Nat) (o_one : Nat) (o_oth : Nat) (o_which : Int32) (o_much : Int32) (o_drawn : Int32) (q : Nat) (q_c : Nat) (g_q : Nat → Int32) (x0 : Int32) (x1 : Int32) (h_g_q : FV g_q) (p0 : 0 ≤ x1.toInt) (p1 : x1.toInt ≤ 5) : KP l yX2_penceOf cX2_penceOf 12 (some .int) 0 0 D (kTY cy) [.ref o, .ref q, .int x0, .int x1] [(o, .inr (2, [.int o_which, .int o_much, .int o_drawn, .ref o_one, .ref o_oth])), (q, .inr (1, [.ref q_c])), (q_c, .inl (cy 0, 63, .inl g_q))] (fun r => True) := by
  refine KP.of (by decide) (Nat.le_of_ble_eq_true rfl) (fun p e s m below meth c ls F hE hP hl => ?_)
  have F : kF p s m meth c cX2_penceOf 12 (some .int) _ RX2 := F
  obtain ⟨hx, hb, hr, hml, hown, hG, hlk⟩ := id F
  have hl : lv_has ls 12 [(0, .ref o), (1, .ref q), (2, .int x0), (3, .int x1)] := hl
  obtain ⟨⟨b_1a, b_1b⟩, ⟨b_1c, b_1d⟩, ⟨b_1e, b_1f⟩⟩ := FV.bounds h_g_q
  refine lv_aload_n hx hb dX2_penceOf_0 rfl (lv_at hl 1 rfl) ?_
  refine va_get (D := D) (ci := 1) (v := .ref q_c) (C := RX1) (T := TX1) (N := 1) hx hb hG inG_X1 hown hE.1 hP 1 rfl rfl 0 (by decide) (hG _ q_f_X2_34) (fun _ h9 => h9) rfl dX2_penceOf_1 ?_
  refine lv_iconst (v := 3) hx hb dX2_penceOf_4 (by decide) ?_
  refine va_iald hx hb hE.1 hP 2 0 rfl rfl (by unfold vp_in; decide) dX2_penceOf_5 ?_
  refine k_top (z := (g_q 3)) rfl ?_
  refine lv_istore (lv' := [(4, .int (g_q 3)), (0, .ref o), (1, .ref q), (2, .int x0), (3, .int x1)]) hx hb dX2_penceOf_6 hl (by decide) rfl (fun ls hl => ?_)
  refine lv_iconst (v := 0) hx hb dX2_penceOf_8 (by decide) ?_
  refine lv_istore (lv' := [(5, .int 0), (4, .int (g_q 3)), (0, .ref o), (1, .ref q), (2, .int x0), (3, .int x1)]) hx hb dX2_penceOf_9 hl (by decide) rfl (fun ls hl => ?_)
  refine lv_iconst (v := 0) hx hb dX2_penceOf_11 (by decide) ?_
  refine lv_istore (lv' := [(6, .int 0), (5, .int 0), (4, .int (g_q 3)), (0, .ref o), (1, .ref q), (2, .int x0), (3, .int x1)]) hx hb dX2_penceOf_12 hl (by decide) rfl (fun ls hl => ?_)
  have lp14 : ∀ (fu : Nat) (v6_14 : Int32) (v5_14 : Int32) (ls : Array Slot), (0 ≤ v6_14.toInt) → (v6_14.toInt ≤ 6) → 6 - v6_14.toInt < (fu : Int) → lv_has ls 12 [(6, .int v6_14), (5, .int v5_14), (4, .int (g_q 3)), (0, .ref o), (1, .ref q), (2, .int x0), (3, .int x1)] → W p l e (kR 0 0) s m ([.ref o, .ref q, .int x0, .int x1] : List Value).toArray below meth c s.heap [] 0 0 (MQ below (kQ (fun r => True)) ([.ref o, .ref q, .int x0, .int x1] : List Value).toArray s 0 0 (fun _ => False)) (F0 m 14 ls []) := by
    intro fu14
    induction fu14 with
    | zero =>
      intro v6_14 v5_14 ls j0_14 j1_14 hm14 hl
      exact absurd hm14 (by omega)
    | succ fu14 ih14 =>
      intro v6_14 v5_14 ls j0_14 j1_14 hm14 hl
      refine lv_iload hx hb dX2_penceOf_14 (lv_at hl 0 rfl) ?_
      refine lv_iload hx hb dX2_penceOf_16 (lv_at hl 2 rfl) ?_
      refine lv_icmp_ge (tgt := 42) hx hb dX2_penceOf_18 (by decide) (fun c_2 => ?_) (fun c_2 => ?_)
      · have ic_2 : (g_q 3).toInt ≤ v6_14.toInt := k_le c_2 rfl rfl
        refine lv_iload hx hb dX2_penceOf_42 (lv_at hl 1 rfl) ?_
        refine lv_iconst (v := 1) hx hb dX2_penceOf_44 (by decide) ?_
        refine lv_icmp_ge (tgt := 50) hx hb dX2_penceOf_45 (by decide) (fun c_3 => ?_) (fun c_3 => ?_)
        · have ic_3 : 1 ≤ v5_14.toInt := k_le c_3 (by decide) rfl
          refine lv_iload_n hx hb dX2_penceOf_50 rfl (lv_at hl 5 rfl) ?_
          refine lv_aload_n hx hb dX2_penceOf_51 rfl (lv_at hl 4 rfl) ?_
          refine va_get (D := D) (ci := 1) (v := .ref q_c) (C := RX1) (T := TX1) (N := 1) hx hb hG inG_X1 hown hE.1 hP 1 rfl rfl 0 (by decide) (hG _ q_f_X2_34) (fun _ h9 => h9) rfl dX2_penceOf_52 ?_
          refine lv_bipush (v := 32) hx hb dX2_penceOf_55 (by decide) ?_
          refine lv_iload_n hx hb dX2_penceOf_57 rfl (lv_at hl 6 rfl) ?_
          refine lv_iadd hx hb dX2_penceOf_58 ?_
          refine lv_topi (fun z_4 ez_4 => ?_)
          have iz_4 : z_4.toInt = 32 + x1.toInt := k_addI ez_4 (by decide) rfl (by omega)
          refine va_iald hx hb hE.1 hP 2 0 rfl rfl (k_in (by omega)) dX2_penceOf_59 ?_
          refine k_top (z := (g_q (Int32.toNatClampNeg z_4))) rfl ?_
          refine lv_imul hx hb dX2_penceOf_60 ?_
          refine lv_topi (fun z_5 ez_5 => ?_)
          refine lv_iload hx hb dX2_penceOf_61 (lv_at hl 1 rfl) ?_
          refine lv_irem hx hb dX2_penceOf_63 (k_nz (by omega)) ?_
          refine lv_topi (fun z_6 ez_6 => ?_)
          refine lv_istore (lv' := [(6, .int z_6), (5, .int v5_14), (4, .int (g_q 3)), (0, .ref o), (1, .ref q), (2, .int x0), (3, .int x1)]) hx hb dX2_penceOf_64 hl (by decide) rfl (fun ls hl => ?_)
          refine lv_iload_n hx hb dX2_penceOf_66 rfl (lv_at hl 5 rfl) ?_
          refine lv_istore (lv' := [(7, .int x0), (6, .int z_6), (5, .int v5_14), (4, .int (g_q 3)), (0, .ref o), (1, .ref q), (2, .int x0), (3, .int x1)]) hx hb dX2_penceOf_67 hl (by decide) rfl (fun ls hl => ?_)
          refine lv_iconst (v := 0) hx hb dX2_penceOf_69 (by decide) ?_
          refine lv_istore (lv' := [(8, .int 0), (7, .int x0), (6, .int z_6), (5, .int v5_14), (4, .int (g_q 3)), (0, .ref o), (1, .ref q), (2, .int x0), (3, .int x1)]) hx hb dX2_penceOf_70 hl (by decide) rfl (fun ls hl => ?_)
          refine lv_iconst (v := 0) hx hb dX2_penceOf_72 (by decide) ?_
          refine lv_istore (lv' := [(9, .int 0), (8, .int 0), (7, .int x0), (6, .int z_6), (5, .int v5_14), (4, .int (g_q 3)), (0, .ref o), (1, .ref q), (2, .int x0), (3, .int x1)]) hx hb dX2_penceOf_73 hl (by decide) rfl (fun ls hl => ?_)
          have lp75 : ∀ (fu : Nat) (v9_75 : Int32) (v8_75 : Int32) (v7_75 : Int32) (ls : Array Slot), (0 ≤ v9_75.toInt) → (v9_75.toInt ≤ 6) → 6 - v9_75.toInt < (fu : Int) → lv_has ls 12 [(9, .int v9_75), (8, .int v8_75), (7, .int v7_75), (6, .int z_6), (5, .int v5_14), (4, .int (g_q 3)), (0, .ref o), (1, .ref q), (2, .int x0), (3, .int x1)] → W p l e (kR 0 0) s m ([.ref o, .ref q, .int x0, .int x1] : List Value).toArray below meth c s.heap [] 0 0 (MQ below (kQ (fun r => True)) ([.ref o, .ref q, .int x0, .int x1] : List Value).toArray s 0 0 (fun _ => False)) (F0 m 75 ls []) := by
            intro fu75
            induction fu75 with
            | zero =>
              intro v9_75 v8_75 v7_75 ls j0_75 j1_75 hm75 hl
              exact absurd hm75 (by omega)
            | succ fu75 ih75 =>
              intro v9_75 v8_75 v7_75 ls j0_75 j1_75 hm75 hl
              refine lv_iload hx hb dX2_penceOf_75 (lv_at hl 0 rfl) ?_
              refine lv_iload hx hb dX2_penceOf_77 (lv_at hl 5 rfl) ?_
              refine lv_icmp_ge (tgt := 160) hx hb dX2_penceOf_79 (by decide) (fun c_7 => ?_) (fun c_7 => ?_)
              · have ic_7 : (g_q 3).toInt ≤ v9_75.toInt := k_le c_7 rfl rfl
                refine lv_iload_n hx hb dX2_penceOf_160 rfl (lv_at hl 8 rfl) ?_
                refine lv_aload_n hx hb dX2_penceOf_161 rfl (lv_at hl 7 rfl) ?_
                refine va_get (D := D) (ci := 1) (v := .ref q_c) (C := RX1) (T := TX1) (N := 1) hx hb hG inG_X1 hown hE.1 hP 1 rfl rfl 0 (by decide) (hG _ q_f_X2_34) (fun _ h9 => h9) rfl dX2_penceOf_162 ?_
                refine lv_bipush (v := 32) hx hb dX2_penceOf_165 (by decide) ?_
                refine lv_iload_n hx hb dX2_penceOf_167 rfl (lv_at hl 9 rfl) ?_
                refine lv_iadd hx hb dX2_penceOf_168 ?_
                refine lv_topi (fun z_8 ez_8 => ?_)
                have iz_8 : z_8.toInt = 32 + x1.toInt := k_addI ez_8 (by decide) rfl (by omega)
                refine va_iald hx hb hE.1 hP 2 0 rfl rfl (k_in (by omega)) dX2_penceOf_169 ?_
                refine k_top (z := (g_q (Int32.toNatClampNeg z_8))) rfl ?_
                refine lv_imul hx hb dX2_penceOf_170 ?_
                refine lv_topi (fun z_9 ez_9 => ?_)
                refine lv_iload hx hb dX2_penceOf_171 (lv_at hl 4 rfl) ?_
                refine lv_idiv hx hb dX2_penceOf_173 (k_nz (by omega)) ?_
                refine lv_topi (fun z_10 ez_10 => ?_)
                refine lv_iload hx hb dX2_penceOf_174 (lv_at hl 1 rfl) ?_
                refine lv_iload hx hb dX2_penceOf_176 (lv_at hl 2 rfl) ?_
                refine lv_icmp_ge (tgt := 185) hx hb dX2_penceOf_178 (by decide) (fun c_11 => ?_) (fun c_11 => ?_)
                · have ic_11 : v7_75.toInt ≤ v8_75.toInt := k_le c_11 rfl rfl
                  refine lv_iconst (v := 0) hx hb dX2_penceOf_185 (by decide) ?_
                  refine lv_iadd hx hb dX2_penceOf_186 ?_
                  refine lv_topi (fun z_12 ez_12 => ?_)
                  exact KP.rt F rfl trivial dX2_penceOf_187
                · have ic_11 : v8_75.toInt < v7_75.toInt := k_nle c_11 rfl rfl
                  refine lv_iconst (v := 1) hx hb dX2_penceOf_181 (by decide) ?_
                  refine lv_goto (tgt := 186) hx hb dX2_penceOf_182 (by decide) ?_
                  refine lv_iadd hx hb dX2_penceOf_186 ?_
                  refine lv_topi (fun z_13 ez_13 => ?_)
                  exact KP.rt F rfl trivial dX2_penceOf_187
              · have ic_7 : v9_75.toInt < (g_q 3).toInt := k_nle c_7 rfl rfl
                refine lv_iload_n hx hb dX2_penceOf_82 rfl (lv_at hl 8 rfl) ?_
                refine lv_aload_n hx hb dX2_penceOf_83 rfl (lv_at hl 7 rfl) ?_
                refine va_get (D := D) (ci := 1) (v := .ref q_c) (C := RX1) (T := TX1) (N := 1) hx hb hG inG_X1 hown hE.1 hP 1 rfl rfl 0 (by decide) (hG _ q_f_X2_34) (fun _ h9 => h9) rfl dX2_penceOf_84 ?_
                refine lv_bipush (v := 32) hx hb dX2_penceOf_87 (by decide) ?_
                refine lv_iload hx hb dX2_penceOf_89 (lv_at hl 0 rfl) ?_
                refine lv_iadd hx hb dX2_penceOf_91 ?_
                refine lv_topi (fun z_14 ez_14 => ?_)
                have iz_14 : z_14.toInt = 32 + v9_75.toInt := k_addI ez_14 (by decide) rfl (by omega)
                refine va_iald hx hb hE.1 hP 2 0 rfl rfl (k_in (by omega)) dX2_penceOf_92 ?_
                refine k_top (z := (g_q (Int32.toNatClampNeg z_14))) rfl ?_
                refine lv_imul hx hb dX2_penceOf_93 ?_
                refine lv_topi (fun z_15 ez_15 => ?_)
                refine lv_istore (lv' := [(10, .int z_15), (9, .int v9_75), (8, .int v8_75), (7, .int v7_75), (6, .int z_6), (5, .int v5_14), (4, .int (g_q 3)), (0, .ref o), (1, .ref q), (2, .int x0), (3, .int x1)]) hx hb dX2_penceOf_94 hl (by decide) rfl (fun ls hl => ?_)
                refine lv_iload hx hb dX2_penceOf_96 (lv_at hl 3 rfl) ?_
                refine lv_iload hx hb dX2_penceOf_98 (lv_at hl 0 rfl) ?_
                refine lv_iload hx hb dX2_penceOf_100 (lv_at hl 5 rfl) ?_
                refine lv_idiv hx hb dX2_penceOf_102 (k_nz (by omega)) ?_
                refine lv_topi (fun z_16 ez_16 => ?_)
                refine lv_isub hx hb dX2_penceOf_103 ?_
                refine lv_topi (fun z_17 ez_17 => ?_)
                refine lv_istore (lv' := [(7, .int z_17), (10, .int z_15), (9, .int v9_75), (8, .int v8_75), (6, .int z_6), (5, .int v5_14), (4, .int (g_q 3)), (0, .ref o), (1, .ref q), (2, .int x0), (3, .int x1)]) hx hb dX2_penceOf_104 hl (by decide) rfl (fun ls hl => ?_)
                refine lv_iload hx hb dX2_penceOf_106 (lv_at hl 1 rfl) ?_
                refine lv_iload hx hb dX2_penceOf_108 (lv_at hl 5 rfl) ?_
                refine lv_irem hx hb dX2_penceOf_110 (k_nz (by omega)) ?_
                refine lv_topi (fun z_18 ez_18 => ?_)
                refine lv_iload hx hb dX2_penceOf_111 (lv_at hl 4 rfl) ?_
                refine lv_icmp_gt (tgt := 132) hx hb dX2_penceOf_113 (by decide) (fun c_19 => ?_) (fun c_19 => ?_)
                · have ic_19 : z_6.toInt < z_18.toInt := k_lt c_19 rfl rfl
                  refine lv_iconst (v := 1) hx hb dX2_penceOf_132 (by decide) ?_
                  refine lv_goto (tgt := 137) hx hb dX2_penceOf_133 (by decide) ?_
                  refine lv_istore (lv' := [(11, .int 1), (7, .int z_17), (10, .int z_15), (9, .int v9_75), (8, .int v8_75), (6, .int z_6), (5, .int v5_14), (4, .int (g_q 3)), (0, .ref o), (1, .ref q), (2, .int x0), (3, .int x1)]) hx hb dX2_penceOf_137 hl (by decide) rfl (fun ls hl => ?_)
                  refine lv_iload hx hb dX2_penceOf_139 (lv_at hl 4 rfl) ?_
                  refine lv_iload hx hb dX2_penceOf_141 (lv_at hl 0 rfl) ?_
                  refine lv_if_eq (tgt := 150) hx hb dX2_penceOf_143 (by decide) (fun q => absurd q (by decide)) (fun _ => ?_)
                  refine lv_iconst (v := 1) hx hb dX2_penceOf_146 (by decide) ?_
                  refine lv_goto (tgt := 151) hx hb dX2_penceOf_147 (by decide) ?_
                  refine lv_iadd hx hb dX2_penceOf_151 ?_
                  refine lv_topi (fun z_20 ez_20 => ?_)
                  refine lv_istore (lv' := [(8, .int z_20), (11, .int 1), (7, .int z_17), (10, .int z_15), (9, .int v9_75), (6, .int z_6), (5, .int v5_14), (4, .int (g_q 3)), (0, .ref o), (1, .ref q), (2, .int x0), (3, .int x1)]) hx hb dX2_penceOf_152 hl (by decide) rfl (fun ls hl => ?_)
                  obtain ⟨z_21, ez_21⟩ : ∃ y : Int32, y = v9_75 + Int32.ofInt 1 := ⟨_, rfl⟩
                  have iz_21 : z_21.toInt = v9_75.toInt + 1 := k_addI ez_21 rfl (by decide) (by omega)
                  refine lv_iinc (v := z_21) (lv' := [(9, .int z_21), (8, .int z_20), (11, .int 1), (7, .int z_17), (10, .int z_15), (6, .int z_6), (5, .int v5_14), (4, .int (g_q 3)), (0, .ref o), (1, .ref q), (2, .int x0), (3, .int x1)]) hx hb dX2_penceOf_154 hl (k := 4) rfl ez_21.symm (by decide) rfl (fun ls hl => ?_)
                  refine lv_goto (tgt := 75) hx hb dX2_penceOf_157 (by decide) ?_
                  exact ih75 z_21 z_20 z_17 ls (by first | omega | assumption) (by first | omega | assumption) (by omega) (lv_sub hl [0, 1, 3, 5, 6, 7, 8, 9, 10, 11] rfl)
                · have ic_19 : z_18.toInt ≤ z_6.toInt := k_nlt c_19 rfl rfl
                  refine lv_iload hx hb dX2_penceOf_116 (lv_at hl 1 rfl) ?_
                  refine lv_iload hx hb dX2_penceOf_118 (lv_at hl 5 rfl) ?_
                  refine lv_irem hx hb dX2_penceOf_120 (k_nz (by omega)) ?_
                  refine lv_topi (fun z_22 ez_22 => ?_)
                  refine lv_iload hx hb dX2_penceOf_121 (lv_at hl 4 rfl) ?_
                  refine lv_icmp_ne (tgt := 136) hx hb dX2_penceOf_123 (by decide) (fun c_23 => ?_) (fun c_23 => ?_)
                  · have ic_23 : z_22.toInt ≠ z_6.toInt := k_ne c_23 rfl rfl
                    refine lv_iconst (v := 0) hx hb dX2_penceOf_136 (by decide) ?_
                    refine lv_istore (lv' := [(11, .int 0), (7, .int z_17), (10, .int z_15), (9, .int v9_75), (8, .int v8_75), (6, .int z_6), (5, .int v5_14), (4, .int (g_q 3)), (0, .ref o), (1, .ref q), (2, .int x0), (3, .int x1)]) hx hb dX2_penceOf_137 hl (by decide) rfl (fun ls hl => ?_)
                    refine lv_iload hx hb dX2_penceOf_139 (lv_at hl 4 rfl) ?_
                    refine lv_iload hx hb dX2_penceOf_141 (lv_at hl 0 rfl) ?_
                    refine lv_if_eq (tgt := 150) hx hb dX2_penceOf_143 (by decide) (fun _ => ?_) (fun q => absurd q (by decide))
                    refine lv_iconst (v := 0) hx hb dX2_penceOf_150 (by decide) ?_
                    refine lv_iadd hx hb dX2_penceOf_151 ?_
                    refine lv_topi (fun z_24 ez_24 => ?_)
                    refine lv_istore (lv' := [(8, .int z_24), (11, .int 0), (7, .int z_17), (10, .int z_15), (9, .int v9_75), (6, .int z_6), (5, .int v5_14), (4, .int (g_q 3)), (0, .ref o), (1, .ref q), (2, .int x0), (3, .int x1)]) hx hb dX2_penceOf_152 hl (by decide) rfl (fun ls hl => ?_)
                    obtain ⟨z_25, ez_25⟩ : ∃ y : Int32, y = v9_75 + Int32.ofInt 1 := ⟨_, rfl⟩
                    have iz_25 : z_25.toInt = v9_75.toInt + 1 := k_addI ez_25 rfl (by decide) (by omega)
                    refine lv_iinc (v := z_25) (lv' := [(9, .int z_25), (8, .int z_24), (11, .int 0), (7, .int z_17), (10, .int z_15), (6, .int z_6), (5, .int v5_14), (4, .int (g_q 3)), (0, .ref o), (1, .ref q), (2, .int x0), (3, .int x1)]) hx hb dX2_penceOf_154 hl (k := 4) rfl ez_25.symm (by decide) rfl (fun ls hl => ?_)
                    refine lv_goto (tgt := 75) hx hb dX2_penceOf_157 (by decide) ?_
                    exact ih75 z_25 z_24 z_17 ls (by first | omega | assumption) (by first | omega | assumption) (by omega) (lv_sub hl [0, 1, 3, 5, 6, 7, 8, 9, 10, 11] rfl)
                  · have ic_23 : z_22.toInt = z_6.toInt := k_eq c_23 rfl rfl
                    refine lv_iload hx hb dX2_penceOf_126 (lv_at hl 2 rfl) ?_
                    refine lv_iload_n hx hb dX2_penceOf_128 rfl (lv_at hl 10 rfl) ?_
                    refine lv_icmp_ge (tgt := 136) hx hb dX2_penceOf_129 (by decide) (fun c_26 => ?_) (fun c_26 => ?_)
                    · have ic_26 : x1.toInt ≤ v9_75.toInt := k_le c_26 rfl rfl
                      refine lv_iconst (v := 0) hx hb dX2_penceOf_136 (by decide) ?_
                      refine lv_istore (lv' := [(11, .int 0), (7, .int z_17), (10, .int z_15), (9, .int v9_75), (8, .int v8_75), (6, .int z_6), (5, .int v5_14), (4, .int (g_q 3)), (0, .ref o), (1, .ref q), (2, .int x0), (3, .int x1)]) hx hb dX2_penceOf_137 hl (by decide) rfl (fun ls hl => ?_)
                      refine lv_iload hx hb dX2_penceOf_139 (lv_at hl 4 rfl) ?_
                      refine lv_iload hx hb dX2_penceOf_141 (lv_at hl 0 rfl) ?_
                      refine lv_if_eq (tgt := 150) hx hb dX2_penceOf_143 (by decide) (fun _ => ?_) (fun q => absurd q (by decide))
                      refine lv_iconst (v := 0) hx hb dX2_penceOf_150 (by decide) ?_
                      refine lv_iadd hx hb dX2_penceOf_151 ?_
                      refine lv_topi (fun z_27 ez_27 => ?_)
                      refine lv_istore (lv' := [(8, .int z_27), (11, .int 0), (7, .int z_17), (10, .int z_15), (9, .int v9_75), (6, .int z_6), (5, .int v5_14), (4, .int (g_q 3)), (0, .ref o), (1, .ref q), (2, .int x0), (3, .int x1)]) hx hb dX2_penceOf_152 hl (by decide) rfl (fun ls hl => ?_)
                      obtain ⟨z_28, ez_28⟩ : ∃ y : Int32, y = v9_75 + Int32.ofInt 1 := ⟨_, rfl⟩
                      have iz_28 : z_28.toInt = v9_75.toInt + 1 := k_addI ez_28 rfl (by decide) (by omega)
                      refine lv_iinc (v := z_28) (lv' := [(9, .int z_28), (8, .int z_27), (11, .int 0), (7, .int z_17), (10, .int z_15), (6, .int z_6), (5, .int v5_14), (4, .int (g_q 3)), (0, .ref o), (1, .ref q), (2, .int x0), (3, .int x1)]) hx hb dX2_penceOf_154 hl (k := 4) rfl ez_28.symm (by decide) rfl (fun ls hl => ?_)
                      refine lv_goto (tgt := 75) hx hb dX2_penceOf_157 (by decide) ?_
                      exact ih75 z_28 z_27 z_17 ls (by first | omega | assumption) (by first | omega | assumption) (by omega) (lv_sub hl [0, 1, 3, 5, 6, 7, 8, 9, 10, 11] rfl)
                    · have ic_26 : v9_75.toInt < x1.toInt := k_nle c_26 rfl rfl
                      refine lv_iconst (v := 1) hx hb dX2_penceOf_132 (by decide) ?_
                      refine lv_goto (tgt := 137) hx hb dX2_penceOf_133 (by decide) ?_
                      refine lv_istore (lv' := [(11, .int 1), (7, .int z_17), (10, .int z_15), (9, .int v9_75), (8, .int v8_75), (6, .int z_6), (5, .int v5_14), (4, .int (g_q 3)), (0, .ref o), (1, .ref q), (2, .int x0), (3, .int x1)]) hx hb dX2_penceOf_137 hl (by decide) rfl (fun ls hl => ?_)
                      refine lv_iload hx hb dX2_penceOf_139 (lv_at hl 4 rfl) ?_
                      refine lv_iload hx hb dX2_penceOf_141 (lv_at hl 0 rfl) ?_
                      refine lv_if_eq (tgt := 150) hx hb dX2_penceOf_143 (by decide) (fun q => absurd q (by decide)) (fun _ => ?_)
                      refine lv_iconst (v := 1) hx hb dX2_penceOf_146 (by decide) ?_
                      refine lv_goto (tgt := 151) hx hb dX2_penceOf_147 (by decide) ?_
                      refine lv_iadd hx hb dX2_penceOf_151 ?_
                      refine lv_topi (fun z_29 ez_29 => ?_)
                      refine lv_istore (lv' := [(8, .int z_29), (11, .int 1), (7, .int z_17), (10, .int z_15), (9, .int v9_75), (6, .int z_6), (5, .int v5_14), (4, .int (g_q 3)), (0, .ref o), (1, .ref q), (2, .int x0), (3, .int x1)]) hx hb dX2_penceOf_152 hl (by decide) rfl (fun ls hl => ?_)
                      obtain ⟨z_30, ez_30⟩ : ∃ y : Int32, y = v9_75 + Int32.ofInt 1 := ⟨_, rfl⟩
                      have iz_30 : z_30.toInt = v9_75.toInt + 1 := k_addI ez_30 rfl (by decide) (by omega)
                      refine lv_iinc (v := z_30) (lv' := [(9, .int z_30), (8, .int z_29), (11, .int 1), (7, .int z_17), (10, .int z_15), (6, .int z_6), (5, .int v5_14), (4, .int (g_q 3)), (0, .ref o), (1, .ref q), (2, .int x0), (3, .int x1)]) hx hb dX2_penceOf_154 hl (k := 4) rfl ez_30.symm (by decide) rfl (fun ls hl => ?_)
                      refine lv_goto (tgt := 75) hx hb dX2_penceOf_157 (by decide) ?_
                      exact ih75 z_30 z_29 z_17 ls (by first | omega | assumption) (by first | omega | assumption) (by omega) (lv_sub hl [0, 1, 3, 5, 6, 7, 8, 9, 10, 11] rfl)
          have lt_31 : (0 : Int32).toInt = 0 := by decide
          exact lp75 100000 0 0 x0 ls (by first | omega | assumption) (by first | omega | assumption) (by omega) hl
        · have ic_3 : v5_14.toInt < 1 := k_nle c_3 (by decide) rfl
          refine lv_iconst (v := 0) hx hb dX2_penceOf_48 (by decide) ?_
          have lit0 : (0 : Int32).toInt = 0 := by decide
          exact KP.rt F rfl trivial dX2_penceOf_49
      · have ic_2 : v6_14.toInt < (g_q 3).toInt := k_nle c_2 rfl rfl
        refine lv_iload hx hb dX2_penceOf_21 (lv_at hl 1 rfl) ?_
        refine lv_aload_n hx hb dX2_penceOf_23 rfl (lv_at hl 4 rfl) ?_
        refine va_get (D := D) (ci := 1) (v := .ref q_c) (C := RX1) (T := TX1) (N := 1) hx hb hG inG_X1 hown hE.1 hP 1 rfl rfl 0 (by decide) (hG _ q_f_X2_34) (fun _ h9 => h9) rfl dX2_penceOf_24 ?_
        refine lv_bipush (v := 32) hx hb dX2_penceOf_27 (by decide) ?_
        refine lv_iload hx hb dX2_penceOf_29 (lv_at hl 0 rfl) ?_
        refine lv_iadd hx hb dX2_penceOf_31 ?_
        refine lv_topi (fun z_32 ez_32 => ?_)
        have iz_32 : z_32.toInt = 32 + v6_14.toInt := k_addI ez_32 (by decide) rfl (by omega)
        refine va_iald hx hb hE.1 hP 2 0 rfl rfl (k_in (by omega)) dX2_penceOf_32 ?_
        refine k_top (z := (g_q (Int32.toNatClampNeg z_32))) rfl ?_
        refine lv_iadd hx hb dX2_penceOf_33 ?_
        refine lv_topi (fun z_33 ez_33 => ?_)
        refine lv_istore (lv' := [(5, .int z_33), (6, .int v6_14), (4, .int (g_q 3)), (0, .ref o), (1, .ref q), (2, .int x0), (3, .int x1)]) hx hb dX2_penceOf_34 hl (by decide) rfl (fun ls hl => ?_)
        obtain ⟨z_34, ez_34⟩ : ∃ y : Int32, y = v6_14 + Int32.ofInt 1 := ⟨_, rfl⟩
        have iz_34 : z_34.toInt = v6_14.toInt + 1 := k_addI ez_34 rfl (by decide) (by omega)
        refine lv_iinc (v := z_34) (lv' := [(6, .int z_34), (5, .int z_33), (4, .int (g_q 3)), (0, .ref o), (1, .ref q), (2, .int x0), (3, .int x1)]) hx hb dX2_penceOf_36 hl (k := 1) rfl ez_34.symm (by decide) rfl (fun ls hl => ?_)
        refine lv_goto (tgt := 14) hx hb dX2_penceOf_39 (by decide) ?_
        exact ih14 z_34 z_33 ls (by first | omega | assumption) (by first | omega | assumption) (by omega) (lv_sub hl [0, 1, 2, 3, 4, 5, 6] rfl)
  have lt_35 : (0 : Int32).toInt = 0 := by decide
  exact lp14 100000 0 0 ls (by first | omega | assumption) (by first | omega | assumption) (by omega) hl

set_option maxHeartbeats 4000000 in
set_option maxRecDepth 100000 in
theorem cc_X2_drawn (l : Launch) (D : va_G) (cy : Nat → ClassId) (o : Nat) (o_one : Nat) (o_oth : Nat) (o_which : Int32) (o_much : Int32) (o_drawn : Int32)  : KI l yX2_drawn cX2_drawn 1 (some .int) 0 0 D (kTY cy) [.ref o] [(o, .inr (2, [.int o_which, .int o_much, .int o_drawn, .ref o_one, .ref o_oth]))] (S := Int32) (fun r u => True) (fun u => [(o, .inr (2, [.int o_which, .int o_much, .int u, .ref o_one, .ref o_oth]))]) 0 0 := by
  refine KI.of (by decide) (Nat.le_of_ble_eq_true rfl) (fun p e s m below meth c ls A F hE hP hD hA hS hl => ?_)
  have F : kF p s m meth c cX2_drawn 1 (some .int) _ RX2 := F
  obtain ⟨hx, hb, hr, hml, hown, hG, hlk⟩ := id F
  have hl : lv_has ls 1 [(0, .ref o)] := hl
  refine lv_aload_n hx hb dX2_drawn_0 rfl (lv_at hl 0 rfl) ?_
  refine lv_aload_n hx hb dX2_drawn_1 rfl (lv_at hl 0 rfl) ?_
  refine va_get (D := D) (ci := 2) (v := .int o_drawn) (C := RX2) (T := TX2) (N := 5) hx hb hG inG_X2 hown hE.1 hP 0 rfl rfl 2 (by decide) (hG _ q_f_X2_18) (fun _ h9 => h9) rfl dX2_drawn_2 ?_
  refine lv_i2l hx hb dX2_drawn_5 rfl ?_
  refine lv_ldc2 hx hb hown (hG _ q_q_X2_100) dX2_drawn_6 ?_
  refine lv_lmul hx hb dX2_drawn_9 ?_
  refine lv_topl (fun z_1 ez_1 => ?_)
  refine lv_ldc2 hx hb hown (hG _ q_q_X2_102) dX2_drawn_10 ?_
  refine lv_ladd hx hb dX2_drawn_13 ?_
  refine lv_topl (fun z_2 ez_2 => ?_)
  refine lv_ldc2 hx hb hown (hG _ q_q_X2_104) dX2_drawn_14 ?_
  refine lv_land hx hb dX2_drawn_17 ?_
  refine lv_topl (fun z_3 ez_3 => ?_)
  refine lv_l2i hx hb dX2_drawn_18 rfl ?_
  refine lv_topi (fun z_4 ez_4 => ?_)
  refine va_put (D := D) (ci := 2) (v := .int z_4) (ty := .int) (C := RX2) (T := TX2) (N := 5) hx hb hG inG_X2 tyX2 tyX2_ok nmX2 hown hE.1 hP hD hS 0 rfl rfl 2 (by decide) (hG _ q_f_X2_18) (fun _ h9 => h9) rfl (by decide +kernel) rfl rfl (Nat.le_of_ble_eq_true rfl) dX2_drawn_19 (fun H locs hP hD hS => ?_)
  have hP : va_P D vwCl [(o, .inr (2, [.int o_which, .int o_much, .int z_4, .ref o_one, .ref o_oth]))] H := hP
  have hD : va_D A [(o, .inr (2, [.int o_which, .int o_much, .int z_4, .ref o_one, .ref o_oth]))] := hD
  refine lv_aload_n hx hb dX2_drawn_22 rfl (lv_at hl 0 rfl) ?_
  refine va_get (D := D) (ci := 2) (v := .int z_4) (C := RX2) (T := TX2) (N := 5) hx hb hG inG_X2 hown hE.1 hP 0 rfl rfl 2 (by decide) (hG _ q_f_X2_18) (fun _ h9 => h9) rfl dX2_drawn_23 ?_
  refine lv_ldc hx hb hown (hG _ q_q_X2_106) dX2_drawn_26 ?_
  refine lv_idiv hx hb dX2_drawn_28 (by decide) ?_
  refine lv_topi (fun z_5 ez_5 => ?_)
  exact KI.rt z_4 F rfl (hP.sub [0] rfl) (hD.sub [0] (by decide) rfl) hS trivial (Nat.le_of_ble_eq_true rfl) (Nat.le_of_ble_eq_true rfl) dX2_drawn_29

set_option maxHeartbeats 4000000 in
set_option maxRecDepth 100000 in
theorem cc_X2_blowRounds (l : Launch) (D : va_G) (cy : Nat → ClassId) {Z : (Nat → Prop) → State → Heap → Prop} (hz : zOK Z) {TT : va_W} (zt : ∀ (A : Nat → Prop) (U : State) (H : Heap), Z A U H → va_P D vwCl TT H) (o : Nat) (o_one : Nat) (o_oth : Nat) (o_which : Int32) (o_much : Int32) (o_drawn : Int32) (q : Nat) (qf : Nat) (qf_c : Nat) (g_qf : Nat → Int32) (q_ca : Nat) (q_bo : Nat) (q_wd : Nat) (q_sk : Nat) (q_gust : Int32) (q_still : Int32) (q_rv : Value) (g_qca : Nat → Int32) (g_qbo : Nat → Int32) (g_qwd : Nat → Int64) (g_qsk : Nat → Int64) (x0 : Int32) (x1 : Int32) (h_g_qf : FV g_qf) (h_g_qbo : PLV g_qbo) (hrv : RIn TT (cy 0) q_rv) (p0 : 0 ≤ x0.toInt) (p1 : x0.toInt ≤ 100) : JV l yX2_blowRounds cX2_blowRounds 5 5 126 D (kTY cy) [.ref o, .ref q, .int x0, .int x1] [(o, .inr (2, [.int o_which, .int o_much, .int o_drawn, .ref o_one, .ref o_oth])), (q, .inr (6, [.ref qf, .ref q_ca, .ref q_bo, .int q_gust, .int q_still, q_rv, .ref q_wd, .ref q_sk])), (qf, .inr (1, [.ref qf_c])), (qf_c, .inl (cy 0, 63, .inl g_qf)), (q_ca, .inl (cy 0, 5, .inl g_qca)), (q_bo, .inl (cy 0, 5, .inl g_qbo)), (q_wd, .inl (cy 1, 13, .inr (.inl g_qwd))), (q_sk, .inl (cy 1, 64, .inr (.inl g_qsk)))] Z (S := Int32 × (Nat → Int32) × Int32 × Int32 × (Nat → Int32) × (Nat → Int64) × (Nat → Int64)) (fun u => FV (u.2.1)) (fun u => [(o, .inr (2, [.int o_which, .int o_much, .int (u.1), .ref o_one, .ref o_oth])), (q, .inr (6, [.ref qf, .ref q_ca, .ref q_bo, .int (u.2.2.1), .int (u.2.2.2.1), q_rv, .ref q_wd, .ref q_sk])), (qf, .inr (1, [.ref qf_c])), (qf_c, .inl (cy 0, 63, .inl (u.2.1))), (q_ca, .inl (cy 0, 5, .inl (u.2.2.2.2.1))), (q_bo, .inl (cy 0, 5, .inl g_qbo)), (q_wd, .inl (cy 1, 13, .inr (.inl (u.2.2.2.2.2.1)))), (q_sk, .inl (cy 1, 64, .inr (.inl (u.2.2.2.2.2.2))))]) 0 0 := by
  refine JV.of (by decide) (Nat.le_of_ble_eq_true rfl) (fun p e s m below meth c ls A F hin hE hP hD hA hS hl hZ => ?_)
  have F : kF p s m meth c cX2_blowRounds 5 none _ RX2 := F
  obtain ⟨hx, hb, hr, hml, hown, hG, hlk⟩ := id F
  have hl : lv_has ls 5 [(0, .ref o), (1, .ref q), (2, .int x0), (3, .int x1)] := hl
  obtain ⟨⟨b_1a, b_1b⟩, ⟨b_1c, b_1d⟩, ⟨b_1e, b_1f⟩⟩ := FV.bounds h_g_qf
  refine lv_iconst (v := 0) hx hb dX2_blowRounds_0 (by decide) ?_
  refine lv_istore (lv' := [(4, .int 0), (0, .ref o), (1, .ref q), (2, .int x0), (3, .int x1)]) hx hb dX2_blowRounds_1 hl (by decide) rfl (fun ls hl => ?_)
  have lp3 : ∀ (fu : Nat) (v4_3 : Int32) (w2_o_3 : Int32) (w3_q_3 : Int32) (w4_q_3 : Int32) (gqf_c_3 : Nat → Int32) (gq_ca_3 : Nat → Int32) (gq_wd_3 : Nat → Int64) (gq_sk_3 : Nat → Int64) (H : Heap) (locs : List Loc) (ls : Array Slot), FV gqf_c_3 → (0 ≤ v4_3.toInt) → (v4_3.toInt ≤ x0.toInt) → x0.toInt - v4_3.toInt < (fu : Int) → va_P D vwCl [(o, .inr (2, [.int o_which, .int o_much, .int w2_o_3, .ref o_one, .ref o_oth])), (q, .inr (6, [.ref qf, .ref q_ca, .ref q_bo, .int w3_q_3, .int w4_q_3, q_rv, .ref q_wd, .ref q_sk])), (qf, .inr (1, [.ref qf_c])), (qf_c, .inl (cy 0, 63, .inl gqf_c_3)), (q_ca, .inl (cy 0, 5, .inl gq_ca_3)), (q_bo, .inl (cy 0, 5, .inl g_qbo)), (q_wd, .inl (cy 1, 13, .inr (.inl gq_wd_3))), (q_sk, .inl (cy 1, 64, .inr (.inl gq_sk_3)))] H → va_D A [(o, .inr (2, [.int o_which, .int o_much, .int w2_o_3, .ref o_one, .ref o_oth])), (q, .inr (6, [.ref qf, .ref q_ca, .ref q_bo, .int w3_q_3, .int w4_q_3, q_rv, .ref q_wd, .ref q_sk])), (qf, .inr (1, [.ref qf_c])), (qf_c, .inl (cy 0, 63, .inl gqf_c_3)), (q_ca, .inl (cy 0, 5, .inl gq_ca_3)), (q_bo, .inl (cy 0, 5, .inl g_qbo)), (q_wd, .inl (cy 1, 13, .inr (.inl gq_wd_3))), (q_sk, .inl (cy 1, 64, .inr (.inl gq_sk_3)))] → va_S A s.heap H locs → lv_has ls 5 [(4, .int v4_3), (0, .ref o), (1, .ref q), (2, .int x0), (3, .int x1)] → W p l e (kRm 5 126 0 0) s m ([.ref o, .ref q, .int x0, .int x1] : List Value).toArray below meth c H locs 0 0 (MQ below (va_Qv (S := Int32 × (Nat → Int32) × Int32 × Int32 × (Nat → Int32) × (Nat → Int64) × (Nat → Int64)) (fun u => FV (u.2.1)) (kBw D A (fun u => [(o, .inr (2, [.int o_which, .int o_much, .int (u.1), .ref o_one, .ref o_oth])), (q, .inr (6, [.ref qf, .ref q_ca, .ref q_bo, .int (u.2.2.1), .int (u.2.2.2.1), q_rv, .ref q_wd, .ref q_sk])), (qf, .inr (1, [.ref qf_c])), (qf_c, .inl (cy 0, 63, .inl (u.2.1))), (q_ca, .inl (cy 0, 5, .inl (u.2.2.2.2.1))), (q_bo, .inl (cy 0, 5, .inl g_qbo)), (q_wd, .inl (cy 1, 13, .inr (.inl (u.2.2.2.2.2.1)))), (q_sk, .inl (cy 1, 64, .inr (.inl (u.2.2.2.2.2.2))))])) A) ([.ref o, .ref q, .int x0, .int x1] : List Value).toArray s 0 0 A) (F0 m 3 ls []) := by
    intro fu3
    induction fu3 with
    | zero =>
      intro v4_3 w2_o_3 w3_q_3 w4_q_3 gqf_c_3 gq_ca_3 gq_wd_3 gq_sk_3 H locs ls hgqf_c_3 j0_3 j1_3 hm3 hP hD hS hl
      exact absurd hm3 (by omega)
    | succ fu3 ih3 =>
      intro v4_3 w2_o_3 w3_q_3 w4_q_3 gqf_c_3 gq_ca_3 gq_wd_3 gq_sk_3 H locs ls hgqf_c_3 j0_3 j1_3 hm3 hP hD hS hl
      obtain ⟨⟨b_2a, b_2b⟩, ⟨b_2c, b_2d⟩, ⟨b_2e, b_2f⟩⟩ := FV.bounds hgqf_c_3
      refine lv_iload hx hb dX2_blowRounds_3 (lv_at hl 0 rfl) ?_
      refine lv_iload_n hx hb dX2_blowRounds_5 rfl (lv_at hl 3 rfl) ?_
      refine lv_icmp_ge (tgt := 46) hx hb dX2_blowRounds_6 (by decide) (fun c_3 => ?_) (fun c_3 => ?_)
      · have ic_3 : x0.toInt ≤ v4_3.toInt := k_le c_3 rfl rfl
        exact KV.rt ⟨w2_o_3, gqf_c_3, w3_q_3, w4_q_3, gq_ca_3, gq_wd_3, gq_sk_3⟩ F (hP.sub [0, 1, 2, 3, 4, 5, 6, 7] rfl) (hD.sub [0, 1, 2, 3, 4, 5, 6, 7] (by decide) rfl) hS (show FV gqf_c_3 from hgqf_c_3) (Nat.le_of_ble_eq_true rfl) (Nat.le_of_ble_eq_true rfl) dX2_blowRounds_46
      · have ic_3 : v4_3.toInt < x0.toInt := k_nle c_3 rfl rfl
        refine lv_aload_n hx hb dX2_blowRounds_9 rfl (lv_at hl 2 rfl) ?_
        refine lv_aload_n hx hb dX2_blowRounds_10 rfl (lv_at hl 1 rfl) ?_
        refine kwVI (wr := [(q, .inr (6, [.ref qf, .ref q_ca, .ref q_bo, .int w3_q_3, .int w4_q_3, q_rv, .ref q_wd, .ref q_sk])), (qf, .inr (1, [.ref qf_c])), (qf_c, .inl (cy 0, 63, .inl gqf_c_3)), (q_ca, .inl (cy 0, 5, .inl gq_ca_3)), (q_bo, .inl (cy 0, 5, .inl g_qbo)), (q_wd, .inl (cy 1, 13, .inr (.inl gq_wd_3))), (q_sk, .inl (cy 1, 64, .inr (.inl gq_sk_3)))]) (As := []) (rest := [.ref q]) F hE hP hD hS hA hl.1 (cc_X2_drawn l D cy (o := o) (o_which := o_which) (o_much := o_much) (o_drawn := w2_o_3) (o_one := o_one) (o_oth := o_oth)) q_m_X2_94 mv_X2_drawn ⟨(Nat.le_of_ble_eq_true rfl), (Nat.le_of_ble_eq_true rfl)⟩ [0] [1, 2, 3, 4, 5, 6, 7] (by decide) rfl rfl (by decide) (by decide) rfl rfl rfl rfl rfl (Nat.le_of_ble_eq_true rfl) ⟨(Nat.le_of_ble_eq_true rfl), (Nat.le_of_ble_eq_true rfl)⟩ dX2_blowRounds_11 (fun r_5 u_4 H locs eu_4 hP hD hS => ?_)
        have hP : va_P D vwCl [(q, .inr (6, [.ref qf, .ref q_ca, .ref q_bo, .int w3_q_3, .int w4_q_3, q_rv, .ref q_wd, .ref q_sk])), (qf, .inr (1, [.ref qf_c])), (qf_c, .inl (cy 0, 63, .inl gqf_c_3)), (q_ca, .inl (cy 0, 5, .inl gq_ca_3)), (q_bo, .inl (cy 0, 5, .inl g_qbo)), (q_wd, .inl (cy 1, 13, .inr (.inl gq_wd_3))), (q_sk, .inl (cy 1, 64, .inr (.inl gq_sk_3))), (o, .inr (2, [.int o_which, .int o_much, .int u_4, .ref o_one, .ref o_oth]))] H := hP
        have hD : va_D A [(q, .inr (6, [.ref qf, .ref q_ca, .ref q_bo, .int w3_q_3, .int w4_q_3, q_rv, .ref q_wd, .ref q_sk])), (qf, .inr (1, [.ref qf_c])), (qf_c, .inl (cy 0, 63, .inl gqf_c_3)), (q_ca, .inl (cy 0, 5, .inl gq_ca_3)), (q_bo, .inl (cy 0, 5, .inl g_qbo)), (q_wd, .inl (cy 1, 13, .inr (.inl gq_wd_3))), (q_sk, .inl (cy 1, 64, .inr (.inl gq_sk_3))), (o, .inr (2, [.int o_which, .int o_much, .int u_4, .ref o_one, .ref o_oth]))] := hD
        refine lv_bipush (v := 100) hx hb dX2_blowRounds_14 (by decide) ?_
        refine lv_irem hx hb dX2_blowRounds_16 (by decide) ?_
        refine lv_topi (fun z_7 ez_7 => ?_)
        have iz_7 := k_remI (b := 100) ez_7 (by decide) (by omega)
        obtain ⟨iz_7a, iz_7b, iz_7c⟩ := iz_7
        refine lv_iload_n hx hb dX2_blowRounds_17 rfl (lv_at hl 4 rfl) ?_
        refine lv_icmp_ge (tgt := 31) hx hb dX2_blowRounds_18 (by decide) (fun c_8 => ?_) (fun c_8 => ?_)
        · have ic_8 : x1.toInt ≤ z_7.toInt := k_le c_8 rfl rfl
          refine lv_iconst (v := (-1)) hx hb dX2_blowRounds_31 (by decide) ?_
          refine va_put (D := D) (ci := 6) (v := .int (-1)) (ty := .int) (C := RX6) (T := TX6) (N := 8) hx hb hG inG_X6 tyX6 tyX6_ok nmX6 hown hE.1 hP hD hS 0 rfl rfl 3 (by decide) (hG _ q_f_X2_97) (fun _ h9 => h9) rfl (by decide +kernel) rfl rfl (Nat.le_of_ble_eq_true rfl) dX2_blowRounds_32 (fun H locs hP hD hS => ?_)
          have hP : va_P D vwCl [(q, .inr (6, [.ref qf, .ref q_ca, .ref q_bo, .int (-1), .int w4_q_3, q_rv, .ref q_wd, .ref q_sk])), (qf, .inr (1, [.ref qf_c])), (qf_c, .inl (cy 0, 63, .inl gqf_c_3)), (q_ca, .inl (cy 0, 5, .inl gq_ca_3)), (q_bo, .inl (cy 0, 5, .inl g_qbo)), (q_wd, .inl (cy 1, 13, .inr (.inl gq_wd_3))), (q_sk, .inl (cy 1, 64, .inr (.inl gq_sk_3))), (o, .inr (2, [.int o_which, .int o_much, .int u_4, .ref o_one, .ref o_oth]))] H := hP
          have hD : va_D A [(q, .inr (6, [.ref qf, .ref q_ca, .ref q_bo, .int (-1), .int w4_q_3, q_rv, .ref q_wd, .ref q_sk])), (qf, .inr (1, [.ref qf_c])), (qf_c, .inl (cy 0, 63, .inl gqf_c_3)), (q_ca, .inl (cy 0, 5, .inl gq_ca_3)), (q_bo, .inl (cy 0, 5, .inl g_qbo)), (q_wd, .inl (cy 1, 13, .inr (.inl gq_wd_3))), (q_sk, .inl (cy 1, 64, .inr (.inl gq_sk_3))), (o, .inr (2, [.int o_which, .int o_much, .int u_4, .ref o_one, .ref o_oth]))] := hD
          refine lv_aload_n hx hb dX2_blowRounds_35 rfl (lv_at hl 2 rfl) ?_
          refine jwVI (wr := [(o, .inr (2, [.int o_which, .int o_much, .int u_4, .ref o_one, .ref o_oth]))]) (As := []) (rest := []) F hE hP hD hS hA hl.1 hz hZ (cc_X6_playRound l D cy (Z := Z) (hz := hz) (TT := TT) (zt := zt) (o := q) (of := qf) (o_ca := q_ca) (o_bo := q_bo) (o_gust := (-1)) (o_still := w4_q_3) (o_rv := q_rv) (o_wd := q_wd) (o_sk := q_sk) (of_c := qf_c) (g_of := gqf_c_3) (g_oca := gq_ca_3) (g_obo := g_qbo) (g_owd := gq_wd_3) (g_osk := gq_sk_3) (h_g_of := hgqf_c_3) (h_g_obo := h_g_qbo) (hrv := (by first | omega | assumption))) q_m_X2_39 mv_X6_playRound ⟨(Nat.le_of_ble_eq_true rfl), (Nat.le_of_ble_eq_true rfl)⟩ [0, 1, 2, 3, 4, 5, 6] [7] (by decide) rfl rfl (by decide) (by decide) rfl rfl rfl rfl rfl (Nat.le_of_ble_eq_true rfl) ⟨(Nat.le_of_ble_eq_true rfl), (Nat.le_of_ble_eq_true rfl)⟩ dX2_blowRounds_36 (fun r_10 u_9 H locs eu_9 hP hD hS => ?_)
          obtain ⟨g_of_11, o_still_12, g_oca_13, g_owd_14, g_osk_15⟩ := u_9
          have eu_9 : FV g_of_11 := eu_9
          have hP : va_P D vwCl [(o, .inr (2, [.int o_which, .int o_much, .int u_4, .ref o_one, .ref o_oth])), (q, .inr (6, [.ref qf, .ref q_ca, .ref q_bo, .int (-1), .int o_still_12, q_rv, .ref q_wd, .ref q_sk])), (qf, .inr (1, [.ref qf_c])), (qf_c, .inl (cy 0, 63, .inl g_of_11)), (q_ca, .inl (cy 0, 5, .inl g_oca_13)), (q_bo, .inl (cy 0, 5, .inl g_qbo)), (q_wd, .inl (cy 1, 13, .inr (.inl g_owd_14))), (q_sk, .inl (cy 1, 64, .inr (.inl g_osk_15)))] H := hP
          have hD : va_D A [(o, .inr (2, [.int o_which, .int o_much, .int u_4, .ref o_one, .ref o_oth])), (q, .inr (6, [.ref qf, .ref q_ca, .ref q_bo, .int (-1), .int o_still_12, q_rv, .ref q_wd, .ref q_sk])), (qf, .inr (1, [.ref qf_c])), (qf_c, .inl (cy 0, 63, .inl g_of_11)), (q_ca, .inl (cy 0, 5, .inl g_oca_13)), (q_bo, .inl (cy 0, 5, .inl g_qbo)), (q_wd, .inl (cy 1, 13, .inr (.inl g_owd_14))), (q_sk, .inl (cy 1, 64, .inr (.inl g_osk_15)))] := hD
          obtain ⟨⟨b_16a, b_16b⟩, ⟨b_16c, b_16d⟩, ⟨b_16e, b_16f⟩⟩ := FV.bounds eu_9
          refine lv_pop hx hb dX2_blowRounds_39 rfl ?_
          obtain ⟨z_17, ez_17⟩ : ∃ y : Int32, y = v4_3 + Int32.ofInt 1 := ⟨_, rfl⟩
          have iz_17 : z_17.toInt = v4_3.toInt + 1 := k_addI ez_17 rfl (by decide) (by omega)
          refine lv_iinc (v := z_17) (lv' := [(4, .int z_17), (0, .ref o), (1, .ref q), (2, .int x0), (3, .int x1)]) hx hb dX2_blowRounds_40 hl (k := 0) rfl ez_17.symm (by decide) rfl (fun ls hl => ?_)
          refine lv_goto (tgt := 3) hx hb dX2_blowRounds_43 (by decide) ?_
          have lt_18 : ((-1) : Int32).toInt = (-1) := by decide
          exact ih3 z_17 u_4 (-1) o_still_12 g_of_11 g_oca_13 g_owd_14 g_osk_15 _ _ ls eu_9 (by first | omega | assumption) (by first | omega | assumption) (by omega) hP hD hS (lv_sub hl [0, 1, 2, 3, 4] rfl)
        · have ic_8 : z_7.toInt < x1.toInt := k_nle c_8 rfl rfl
          refine lv_aload_n hx hb dX2_blowRounds_21 rfl (lv_at hl 1 rfl) ?_
          refine kwVI (wr := [(q, .inr (6, [.ref qf, .ref q_ca, .ref q_bo, .int w3_q_3, .int w4_q_3, q_rv, .ref q_wd, .ref q_sk])), (qf, .inr (1, [.ref qf_c])), (qf_c, .inl (cy 0, 63, .inl gqf_c_3)), (q_ca, .inl (cy 0, 5, .inl gq_ca_3)), (q_bo, .inl (cy 0, 5, .inl g_qbo)), (q_wd, .inl (cy 1, 13, .inr (.inl gq_wd_3))), (q_sk, .inl (cy 1, 64, .inr (.inl gq_sk_3)))]) (As := []) (rest := [.ref q]) F hE hP hD hS hA hl.1 (cc_X2_drawn l D cy (o := o) (o_which := o_which) (o_much := o_much) (o_drawn := u_4) (o_one := o_one) (o_oth := o_oth)) q_m_X2_94 mv_X2_drawn ⟨(Nat.le_of_ble_eq_true rfl), (Nat.le_of_ble_eq_true rfl)⟩ [7] [0, 1, 2, 3, 4, 5, 6] (by decide) rfl rfl (by decide) (by decide) rfl rfl rfl rfl rfl (Nat.le_of_ble_eq_true rfl) ⟨(Nat.le_of_ble_eq_true rfl), (Nat.le_of_ble_eq_true rfl)⟩ dX2_blowRounds_22 (fun r_20 u_19 H locs eu_19 hP hD hS => ?_)
          have hP : va_P D vwCl [(q, .inr (6, [.ref qf, .ref q_ca, .ref q_bo, .int w3_q_3, .int w4_q_3, q_rv, .ref q_wd, .ref q_sk])), (qf, .inr (1, [.ref qf_c])), (qf_c, .inl (cy 0, 63, .inl gqf_c_3)), (q_ca, .inl (cy 0, 5, .inl gq_ca_3)), (q_bo, .inl (cy 0, 5, .inl g_qbo)), (q_wd, .inl (cy 1, 13, .inr (.inl gq_wd_3))), (q_sk, .inl (cy 1, 64, .inr (.inl gq_sk_3))), (o, .inr (2, [.int o_which, .int o_much, .int u_19, .ref o_one, .ref o_oth]))] H := hP
          have hD : va_D A [(q, .inr (6, [.ref qf, .ref q_ca, .ref q_bo, .int w3_q_3, .int w4_q_3, q_rv, .ref q_wd, .ref q_sk])), (qf, .inr (1, [.ref qf_c])), (qf_c, .inl (cy 0, 63, .inl gqf_c_3)), (q_ca, .inl (cy 0, 5, .inl gq_ca_3)), (q_bo, .inl (cy 0, 5, .inl g_qbo)), (q_wd, .inl (cy 1, 13, .inr (.inl gq_wd_3))), (q_sk, .inl (cy 1, 64, .inr (.inl gq_sk_3))), (o, .inr (2, [.int o_which, .int o_much, .int u_19, .ref o_one, .ref o_oth]))] := hD
          refine lv_bipush (v := 9) hx hb dX2_blowRounds_25 (by decide) ?_
          refine lv_irem hx hb dX2_blowRounds_27 (by decide) ?_
          refine lv_topi (fun z_22 ez_22 => ?_)
          have iz_22 := k_remI (b := 9) ez_22 (by decide) (by omega)
          obtain ⟨iz_22a, iz_22b, iz_22c⟩ := iz_22
          refine lv_goto (tgt := 32) hx hb dX2_blowRounds_28 (by decide) ?_
          refine va_put (D := D) (ci := 6) (v := .int z_22) (ty := .int) (C := RX6) (T := TX6) (N := 8) hx hb hG inG_X6 tyX6 tyX6_ok nmX6 hown hE.1 hP hD hS 0 rfl rfl 3 (by decide) (hG _ q_f_X2_97) (fun _ h9 => h9) rfl (by decide +kernel) rfl rfl (Nat.le_of_ble_eq_true rfl) dX2_blowRounds_32 (fun H locs hP hD hS => ?_)
          have hP : va_P D vwCl [(q, .inr (6, [.ref qf, .ref q_ca, .ref q_bo, .int z_22, .int w4_q_3, q_rv, .ref q_wd, .ref q_sk])), (qf, .inr (1, [.ref qf_c])), (qf_c, .inl (cy 0, 63, .inl gqf_c_3)), (q_ca, .inl (cy 0, 5, .inl gq_ca_3)), (q_bo, .inl (cy 0, 5, .inl g_qbo)), (q_wd, .inl (cy 1, 13, .inr (.inl gq_wd_3))), (q_sk, .inl (cy 1, 64, .inr (.inl gq_sk_3))), (o, .inr (2, [.int o_which, .int o_much, .int u_19, .ref o_one, .ref o_oth]))] H := hP
          have hD : va_D A [(q, .inr (6, [.ref qf, .ref q_ca, .ref q_bo, .int z_22, .int w4_q_3, q_rv, .ref q_wd, .ref q_sk])), (qf, .inr (1, [.ref qf_c])), (qf_c, .inl (cy 0, 63, .inl gqf_c_3)), (q_ca, .inl (cy 0, 5, .inl gq_ca_3)), (q_bo, .inl (cy 0, 5, .inl g_qbo)), (q_wd, .inl (cy 1, 13, .inr (.inl gq_wd_3))), (q_sk, .inl (cy 1, 64, .inr (.inl gq_sk_3))), (o, .inr (2, [.int o_which, .int o_much, .int u_19, .ref o_one, .ref o_oth]))] := hD
          refine lv_aload_n hx hb dX2_blowRounds_35 rfl (lv_at hl 2 rfl) ?_
          refine jwVI (wr := [(o, .inr (2, [.int o_which, .int o_much, .int u_19, .ref o_one, .ref o_oth]))]) (As := []) (rest := []) F hE hP hD hS hA hl.1 hz hZ (cc_X6_playRound l D cy (Z := Z) (hz := hz) (TT := TT) (zt := zt) (o := q) (of := qf) (o_ca := q_ca) (o_bo := q_bo) (o_gust := z_22) (o_still := w4_q_3) (o_rv := q_rv) (o_wd := q_wd) (o_sk := q_sk) (of_c := qf_c) (g_of := gqf_c_3) (g_oca := gq_ca_3) (g_obo := g_qbo) (g_owd := gq_wd_3) (g_osk := gq_sk_3) (h_g_of := hgqf_c_3) (h_g_obo := h_g_qbo) (hrv := (by first | omega | assumption))) q_m_X2_39 mv_X6_playRound ⟨(Nat.le_of_ble_eq_true rfl), (Nat.le_of_ble_eq_true rfl)⟩ [0, 1, 2, 3, 4, 5, 6] [7] (by decide) rfl rfl (by decide) (by decide) rfl rfl rfl rfl rfl (Nat.le_of_ble_eq_true rfl) ⟨(Nat.le_of_ble_eq_true rfl), (Nat.le_of_ble_eq_true rfl)⟩ dX2_blowRounds_36 (fun r_24 u_23 H locs eu_23 hP hD hS => ?_)
          obtain ⟨g_of_25, o_still_26, g_oca_27, g_owd_28, g_osk_29⟩ := u_23
          have eu_23 : FV g_of_25 := eu_23
          have hP : va_P D vwCl [(o, .inr (2, [.int o_which, .int o_much, .int u_19, .ref o_one, .ref o_oth])), (q, .inr (6, [.ref qf, .ref q_ca, .ref q_bo, .int z_22, .int o_still_26, q_rv, .ref q_wd, .ref q_sk])), (qf, .inr (1, [.ref qf_c])), (qf_c, .inl (cy 0, 63, .inl g_of_25)), (q_ca, .inl (cy 0, 5, .inl g_oca_27)), (q_bo, .inl (cy 0, 5, .inl g_qbo)), (q_wd, .inl (cy 1, 13, .inr (.inl g_owd_28))), (q_sk, .inl (cy 1, 64, .inr (.inl g_osk_29)))] H := hP
          have hD : va_D A [(o, .inr (2, [.int o_which, .int o_much, .int u_19, .ref o_one, .ref o_oth])), (q, .inr (6, [.ref qf, .ref q_ca, .ref q_bo, .int z_22, .int o_still_26, q_rv, .ref q_wd, .ref q_sk])), (qf, .inr (1, [.ref qf_c])), (qf_c, .inl (cy 0, 63, .inl g_of_25)), (q_ca, .inl (cy 0, 5, .inl g_oca_27)), (q_bo, .inl (cy 0, 5, .inl g_qbo)), (q_wd, .inl (cy 1, 13, .inr (.inl g_owd_28))), (q_sk, .inl (cy 1, 64, .inr (.inl g_osk_29)))] := hD
          obtain ⟨⟨b_30a, b_30b⟩, ⟨b_30c, b_30d⟩, ⟨b_30e, b_30f⟩⟩ := FV.bounds eu_23
          refine lv_pop hx hb dX2_blowRounds_39 rfl ?_
          obtain ⟨z_31, ez_31⟩ : ∃ y : Int32, y = v4_3 + Int32.ofInt 1 := ⟨_, rfl⟩
          have iz_31 : z_31.toInt = v4_3.toInt + 1 := k_addI ez_31 rfl (by decide) (by omega)
          refine lv_iinc (v := z_31) (lv' := [(4, .int z_31), (0, .ref o), (1, .ref q), (2, .int x0), (3, .int x1)]) hx hb dX2_blowRounds_40 hl (k := 0) rfl ez_31.symm (by decide) rfl (fun ls hl => ?_)
          refine lv_goto (tgt := 3) hx hb dX2_blowRounds_43 (by decide) ?_
          exact ih3 z_31 u_19 z_22 o_still_26 g_of_25 g_oca_27 g_owd_28 g_osk_29 _ _ ls eu_23 (by first | omega | assumption) (by first | omega | assumption) (by omega) hP hD hS (lv_sub hl [0, 1, 2, 3, 4] rfl)
  have lt_32 : (0 : Int32).toInt = 0 := by decide
  exact lp3 100000 0 o_drawn q_gust q_still g_qf g_qca g_qwd g_qsk _ _ ls h_g_qf (by first | omega | assumption) (by first | omega | assumption) (by omega) hP hD hS hl
