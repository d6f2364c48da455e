/-- tokens: numbers and words are small, places on the tape -/
def TKV (ki va pl : Nat → Int32) (t : Int) : Prop := ∀ j : Nat, (j : Int) < t → ((ki j).toInt = 1 ∨ (ki j).toInt = 3 → 0 ≤ (va j).toInt ∧ (va j).toInt ≤ 99999) ∧ 0 ≤ (pl j).toInt ∧ (pl j).toInt ≤ 400
theorem TKV.zero {ki va pl : Nat → Int32} {t : Int} (h : t ≤ 0) : TKV ki va pl t := fun j q => by omega
theorem TKV.at {ki va pl : Nat → Int32} {t : Int} (h : TKV ki va pl t) (z : Int32) (hz : 0 ≤ z.toInt ∧ z.toInt < t) : ((ki z.toNatClampNeg).toInt = 1 ∨ (ki z.toNatClampNeg).toInt = 3 → 0 ≤ (va z.toNatClampNeg).toInt ∧ (va z.toNatClampNeg).toInt ≤ 99999) ∧ 0 ≤ (pl z.toNatClampNeg).toInt ∧ (pl z.toNatClampNeg).toInt ≤ 400 := h _ (by rw [k_cl]; omega)
theorem TKV.push {ki va pl : Nat → Int32} {t t' : Int} (h : TKV ki va pl t) (z a b c : Int32) (hz : z.toInt = t ∧ 0 ≤ t) (ht : t' = t + 1) (hv : a.toInt = 1 ∨ a.toInt = 3 → 0 ≤ b.toInt ∧ b.toInt ≤ 99999) (hc : 0 ≤ c.toInt ∧ c.toInt ≤ 400) : TKV (upd ki z.toNatClampNeg a) (upd va z.toNatClampNeg b) (upd pl z.toNatClampNeg c) t' := fun j q => by
  by_cases e : j = z.toNatClampNeg
  · rw [e, k_upd_eq, k_upd_eq, k_upd_eq]; exact ⟨hv, hc⟩
  · rw [k_upd_ne e, k_upd_ne e, k_upd_ne e]; exact h j (by rw [k_cl] at e; omega)

set_option maxHeartbeats 4000000 in
set_option maxRecDepth 100000 in
theorem cc_X10_hasRoom (l : Launch) (D : va_G) (cy : Nat → ClassId) (o : Nat) (o_by : Nat) (o_ki : Nat) (o_va : Nat) (o_pl : Nat) (o_len : Int32) (o_tok : Int32) (o_at : Int32) (o_kind : Int32) (o_value : Int32) (o_place : Int32) (o_fault : Int32) (x0 : Int32) (p0 : 0 ≤ o_len.toInt) (p1 : o_len.toInt ≤ 400) (p2 : 0 ≤ x0.toInt) (p3 : x0.toInt ≤ 100) : KP l yX10_hasRoom cX10_hasRoom 2 (some .boolean) 0 0 D (kTY cy) [.ref o, .int x0] [(o, .inr (10, [.ref o_by, .int o_len, .ref o_ki, .ref o_va, .ref o_pl, .int o_tok, .int o_at, .int o_kind, .int o_value, .int o_place, .int o_fault]))] (fun r => (r.toInt = 0 ∨ r.toInt = 1)) := by
  refine KP.of (by decide) (Nat.le_of_ble_eq_true rfl) (fun p e s m below meth c ls F hE hP hl => ?_)
  have F : kF p s m meth c cX10_hasRoom 2 (some .boolean) _ RX10 := F
  obtain ⟨hx, hb, hr, hml, hown, hG, hlk⟩ := id F
  have hl : lv_has ls 2 [(0, .ref o), (1, .int x0)] := hl
  refine lv_aload_n hx hb dX10_hasRoom_0 rfl (lv_at hl 0 rfl) ?_
  refine va_get (D := D) (ci := 10) (v := .int o_len) (C := RX10) (T := TX10) (N := 11) hx hb hG inG_X10 hown hE.1 hP 0 rfl rfl 1 (by decide) (hG _ q_f_X10_15) (fun _ h9 => h9) rfl dX10_hasRoom_1 ?_
  refine lv_iload_n hx hb dX10_hasRoom_4 rfl (lv_at hl 1 rfl) ?_
  refine lv_iadd hx hb dX10_hasRoom_5 ?_
  refine lv_topi (fun z_1 ez_1 => ?_)
  have iz_1 : z_1.toInt = o_len.toInt + x0.toInt := k_addI ez_1 rfl rfl (by omega)
  refine lv_sipush (v := 400) hx hb dX10_hasRoom_6 (by decide) ?_
  refine lv_icmp_gt (tgt := 16) hx hb dX10_hasRoom_9 (by decide) (fun c_2 => ?_) (fun c_2 => ?_)
  · have ic_2 : 400 < z_1.toInt := k_lt c_2 (by decide) rfl
    refine lv_iconst (v := 0) hx hb dX10_hasRoom_16 (by decide) ?_
    have lit0 : (0 : Int32).toInt = 0 := by decide
    exact KP.rt F rfl (show ((0 : Int32).toInt = 0 ∨ (0 : Int32).toInt = 1) from (by first | omega | assumption)) dX10_hasRoom_17
  · have ic_2 : z_1.toInt ≤ 400 := k_nlt c_2 (by decide) rfl
    refine lv_iconst (v := 1) hx hb dX10_hasRoom_12 (by decide) ?_
    refine lv_goto (tgt := 17) hx hb dX10_hasRoom_13 (by decide) ?_
    have lit0 : (1 : Int32).toInt = 1 := by decide
    exact KP.rt F rfl (show ((1 : Int32).toInt = 0 ∨ (1 : Int32).toInt = 1) from (by first | omega | assumption)) dX10_hasRoom_17

set_option maxHeartbeats 4000000 in
set_option maxRecDepth 100000 in
theorem cc_X10_addBytes (l : Launch) (D : va_G) (cy : Nat → ClassId) (o : Nat) (o_by : Nat) (o_ki : Nat) (o_va : Nat) (o_pl : Nat) (o_len : Int32) (o_tok : Int32) (o_at : Int32) (o_kind : Int32) (o_value : Int32) (o_place : Int32) (o_fault : Int32) (g_oby : Nat → Int32) (x0 : Int32) (p0 : 0 ≤ o_len.toInt) (p1 : o_len.toInt ≤ 400) : KV l yX10_addBytes cX10_addBytes 3 0 0 D (kTY cy) [.ref o, .int x0] [(o, .inr (10, [.ref o_by, .int o_len, .ref o_ki, .ref o_va, .ref o_pl, .int o_tok, .int o_at, .int o_kind, .int o_value, .int o_place, .int o_fault])), (o_by, .inl (cy 0, 400, .inl g_oby))] (S := Int32 × (Nat → Int32)) (fun u => (0 ≤ (u.1).toInt) ∧ ((u.1).toInt ≤ 400)) (fun u => [(o, .inr (10, [.ref o_by, .int (u.1), .ref o_ki, .ref o_va, .ref o_pl, .int o_tok, .int o_at, .int o_kind, .int o_value, .int o_place, .int o_fault])), (o_by, .inl (cy 0, 400, .inl (u.2)))]) 0 0 := by
  refine KV.of (by decide) (Nat.le_of_ble_eq_true rfl) (fun p e s m below meth c ls A F hin hE hP hD hA hS hl => ?_)
  have F : kF p s m meth c cX10_addBytes 3 none _ RX10 := F
  obtain ⟨hx, hb, hr, hml, hown, hG, hlk⟩ := id F
  have hl : lv_has ls 3 [(0, .ref o), (1, .int x0)] := hl
  refine lv_bipush (v := 24) hx hb dX10_addBytes_0 (by decide) ?_
  refine lv_istore_n (lv' := [(2, .int 24), (0, .ref o), (1, .int x0)]) hx hb dX10_addBytes_2 rfl hl (by decide) rfl (fun ls hl => ?_)
  have lp3 : ∀ (fu : Nat) (v2_3 : Int32) (w1_o_3 : Int32) (go_by_3 : Nat → Int32) (H : Heap) (locs : List Loc) (ls : Array Slot), (-8 ≤ v2_3.toInt) → (v2_3.toInt ≤ 24) → (0 ≤ w1_o_3.toInt) → (w1_o_3.toInt ≤ 400) → v2_3.toInt + 8 < (fu : Int) → va_P D vwCl [(o, .inr (10, [.ref o_by, .int w1_o_3, .ref o_ki, .ref o_va, .ref o_pl, .int o_tok, .int o_at, .int o_kind, .int o_value, .int o_place, .int o_fault])), (o_by, .inl (cy 0, 400, .inl go_by_3))] H → va_D A [(o, .inr (10, [.ref o_by, .int w1_o_3, .ref o_ki, .ref o_va, .ref o_pl, .int o_tok, .int o_at, .int o_kind, .int o_value, .int o_place, .int o_fault])), (o_by, .inl (cy 0, 400, .inl go_by_3))] → va_S A s.heap H locs → lv_has ls 3 [(2, .int v2_3), (0, .ref o), (1, .int x0)] → W p l e (kRm 0 0 0 0) s m ([.ref o, .int x0] : List Value).toArray below meth c H locs 0 0 (MQ below (va_Qv (S := Int32 × (Nat → Int32)) (fun u => (0 ≤ (u.1).toInt) ∧ ((u.1).toInt ≤ 400)) (kBw D A (fun u => [(o, .inr (10, [.ref o_by, .int (u.1), .ref o_ki, .ref o_va, .ref o_pl, .int o_tok, .int o_at, .int o_kind, .int o_value, .int o_place, .int o_fault])), (o_by, .inl (cy 0, 400, .inl (u.2)))])) A) ([.ref o, .int x0] : List Value).toArray s 0 0 A) (F0 m 3 ls []) := by
    intro fu3
    induction fu3 with
    | zero =>
      intro v2_3 w1_o_3 go_by_3 H locs ls j0_3 j1_3 j2_3 j3_3 hm3 hP hD hS hl
      exact absurd hm3 (by omega)
    | succ fu3 ih3 =>
      intro v2_3 w1_o_3 go_by_3 H locs ls j0_3 j1_3 j2_3 j3_3 hm3 hP hD hS hl
      refine lv_iload_n hx hb dX10_addBytes_3 rfl (lv_at hl 0 rfl) ?_
      refine lv_if_lt (tgt := 49) hx hb dX10_addBytes_4 (by decide) (fun c_1 => ?_) (fun c_1 => ?_)
      · have ic_1 : v2_3.toInt < 0 := k_lt c_1 rfl (by decide)
        exact KV.rt ⟨w1_o_3, go_by_3⟩ F (hP.sub [0, 1] rfl) (hD.sub [0, 1] (by decide) rfl) hS (show (0 ≤ w1_o_3.toInt) ∧ (w1_o_3.toInt ≤ 400) from ⟨(by first | omega | assumption), (by first | omega | assumption)⟩) (Nat.le_of_ble_eq_true rfl) (Nat.le_of_ble_eq_true rfl) dX10_addBytes_49
      · have ic_1 : 0 ≤ v2_3.toInt := k_nlt c_1 rfl (by decide)
        refine lv_aload_n hx hb dX10_addBytes_7 rfl (lv_at hl 1 rfl) ?_
        refine va_get (D := D) (ci := 10) (v := .int w1_o_3) (C := RX10) (T := TX10) (N := 11) hx hb hG inG_X10 hown hE.1 hP 0 rfl rfl 1 (by decide) (hG _ q_f_X10_15) (fun _ h9 => h9) rfl dX10_addBytes_8 ?_
        refine lv_sipush (v := 400) hx hb dX10_addBytes_11 (by decide) ?_
        refine lv_icmp_ge (tgt := 49) hx hb dX10_addBytes_14 (by decide) (fun c_2 => ?_) (fun c_2 => ?_)
        · have ic_2 : 400 ≤ w1_o_3.toInt := k_le c_2 (by decide) rfl
          exact KV.rt ⟨w1_o_3, go_by_3⟩ F (hP.sub [0, 1] rfl) (hD.sub [0, 1] (by decide) rfl) hS (show (0 ≤ w1_o_3.toInt) ∧ (w1_o_3.toInt ≤ 400) from ⟨(by first | omega | assumption), (by first | omega | assumption)⟩) (Nat.le_of_ble_eq_true rfl) (Nat.le_of_ble_eq_true rfl) dX10_addBytes_49
        · have ic_2 : w1_o_3.toInt < 400 := k_nle c_2 (by decide) rfl
          refine lv_aload_n hx hb dX10_addBytes_17 rfl (lv_at hl 1 rfl) ?_
          refine va_get (D := D) (ci := 10) (v := .ref o_by) (C := RX10) (T := TX10) (N := 11) hx hb hG inG_X10 hown hE.1 hP 0 rfl rfl 0 (by decide) (hG _ q_f_X10_11) (fun _ h9 => h9) rfl dX10_addBytes_18 ?_
          refine lv_aload_n hx hb dX10_addBytes_21 rfl (lv_at hl 1 rfl) ?_
          refine va_get (D := D) (ci := 10) (v := .int w1_o_3) (C := RX10) (T := TX10) (N := 11) hx hb hG inG_X10 hown hE.1 hP 0 rfl rfl 1 (by decide) (hG _ q_f_X10_15) (fun _ h9 => h9) rfl dX10_addBytes_22 ?_
          refine lv_iload_n hx hb dX10_addBytes_25 rfl (lv_at hl 2 rfl) ?_
          refine lv_iload_n hx hb dX10_addBytes_26 rfl (lv_at hl 0 rfl) ?_
          refine lv_iushr hx hb dX10_addBytes_27 rfl ?_
          refine lv_topi (fun z_3 ez_3 => ?_)
          refine lv_sipush (v := 255) hx hb dX10_addBytes_28 (by decide) ?_
          refine lv_iand hx hb dX10_addBytes_31 ?_
          refine lv_topi (fun z_4 ez_4 => ?_)
          refine va_iast hx hb hE.1 hP hD hS 1 0 rfl rfl (k_in (by omega)) dX10_addBytes_32 (fun H locs hP hD hS => ?_)
          generalize upd go_by_3 (Int32.toNatClampNeg w1_o_3) z_4 = fn_5 at hP hD
          have hP : va_P D vwCl [(o, .inr (10, [.ref o_by, .int w1_o_3, .ref o_ki, .ref o_va, .ref o_pl, .int o_tok, .int o_at, .int o_kind, .int o_value, .int o_place, .int o_fault])), (o_by, .inl (cy 0, 400, .inl fn_5))] H := hP
          have hD : va_D A [(o, .inr (10, [.ref o_by, .int w1_o_3, .ref o_ki, .ref o_va, .ref o_pl, .int o_tok, .int o_at, .int o_kind, .int o_value, .int o_place, .int o_fault])), (o_by, .inl (cy 0, 400, .inl fn_5))] := hD
          refine lv_aload_n hx hb dX10_addBytes_33 rfl (lv_at hl 1 rfl) ?_
          refine lv_dup hx hb dX10_addBytes_34 rfl ?_
          refine va_get (D := D) (ci := 10) (v := .int w1_o_3) (C := RX10) (T := TX10) (N := 11) hx hb hG inG_X10 hown hE.1 hP 0 rfl rfl 1 (by decide) (hG _ q_f_X10_15) (fun _ h9 => h9) rfl dX10_addBytes_35 ?_
          refine lv_iconst (v := 1) hx hb dX10_addBytes_38 (by decide) ?_
          refine lv_iadd hx hb dX10_addBytes_39 ?_
          refine lv_topi (fun z_6 ez_6 => ?_)
          have iz_6 : z_6.toInt = w1_o_3.toInt + 1 := k_addI ez_6 rfl (by decide) (by omega)
          refine va_put (D := D) (ci := 10) (v := .int z_6) (ty := .int) (C := RX10) (T := TX10) (N := 11) hx hb hG inG_X10 tyX10 tyX10_ok nmX10 hown hE.1 hP hD hS 0 rfl rfl 1 (by decide) (hG _ q_f_X10_15) (fun _ h9 => h9) rfl (by decide +kernel) rfl rfl (Nat.le_of_ble_eq_true rfl) dX10_addBytes_40 (fun H locs hP hD hS => ?_)
          have hP : va_P D vwCl [(o, .inr (10, [.ref o_by, .int z_6, .ref o_ki, .ref o_va, .ref o_pl, .int o_tok, .int o_at, .int o_kind, .int o_value, .int o_place, .int o_fault])), (o_by, .inl (cy 0, 400, .inl fn_5))] H := hP
          have hD : va_D A [(o, .inr (10, [.ref o_by, .int z_6, .ref o_ki, .ref o_va, .ref o_pl, .int o_tok, .int o_at, .int o_kind, .int o_value, .int o_place, .int o_fault])), (o_by, .inl (cy 0, 400, .inl fn_5))] := hD
          obtain ⟨z_7, ez_7⟩ : ∃ y : Int32, y = v2_3 + Int32.ofInt (-8) := ⟨_, rfl⟩
          have iz_7 : z_7.toInt = v2_3.toInt + (-8) := k_addI ez_7 rfl (by decide) (by omega)
          refine lv_iinc (v := z_7) (lv' := [(2, .int z_7), (0, .ref o), (1, .int x0)]) hx hb dX10_addBytes_43 hl (k := 0) rfl ez_7.symm (by decide) rfl (fun ls hl => ?_)
          refine lv_goto (tgt := 3) hx hb dX10_addBytes_46 (by decide) ?_
          exact ih3 z_7 z_6 fn_5 _ _ ls (by first | omega | assumption) (by first | omega | assumption) (by first | omega | assumption) (by first | omega | assumption) (by omega) hP hD hS (lv_sub hl [0, 1, 2] rfl)
  have lt_8 : (24 : Int32).toInt = 24 := by decide
  exact lp3 100000 24 o_len g_oby _ _ ls (by first | omega | assumption) (by first | omega | assumption) (by first | omega | assumption) (by first | omega | assumption) (by omega) hP hD hS hl

set_option maxHeartbeats 4000000 in
set_option maxRecDepth 100000 in
theorem cc_X10_isSign (l : Launch) (D : va_G) (cy : Nat → ClassId) (o : Nat) (o_by : Nat) (o_ki : Nat) (o_va : Nat) (o_pl : Nat) (o_len : Int32) (o_tok : Int32) (o_at : Int32) (o_kind : Int32) (o_value : Int32) (o_place : Int32) (o_fault : Int32) (x0 : Int32)  : KP l yX10_isSign cX10_isSign 2 (some .boolean) 0 0 D (kTY cy) [.ref o, .int x0] [(o, .inr (10, [.ref o_by, .int o_len, .ref o_ki, .ref o_va, .ref o_pl, .int o_tok, .int o_at, .int o_kind, .int o_value, .int o_place, .int o_fault]))] (fun r => (r.toInt = 0 ∨ r.toInt = 1) ∧ ((r.toInt ≠ 0 → o_kind.toInt = 4 ∧ o_value.toInt = x0.toInt))) := by
  refine KP.of (by decide) (Nat.le_of_ble_eq_true rfl) (fun p e s m below meth c ls F hE hP hl => ?_)
  have F : kF p s m meth c cX10_isSign 2 (some .boolean) _ RX10 := F
  obtain ⟨hx, hb, hr, hml, hown, hG, hlk⟩ := id F
  have hl : lv_has ls 2 [(0, .ref o), (1, .int x0)] := hl
  refine lv_aload_n hx hb dX10_isSign_0 rfl (lv_at hl 0 rfl) ?_
  refine va_get (D := D) (ci := 10) (v := .int o_kind) (C := RX10) (T := TX10) (N := 11) hx hb hG inG_X10 hown hE.1 hP 0 rfl rfl 7 (by decide) (hG _ q_f_X10_34) (fun _ h9 => h9) rfl dX10_isSign_1 ?_
  refine lv_iconst (v := 4) hx hb dX10_isSign_4 (by decide) ?_
  refine lv_icmp_ne (tgt := 20) hx hb dX10_isSign_5 (by decide) (fun c_1 => ?_) (fun c_1 => ?_)
  · have ic_1 : o_kind.toInt ≠ 4 := k_ne c_1 rfl (by decide)
    refine lv_iconst (v := 0) hx hb dX10_isSign_20 (by decide) ?_
    have lit0 : (0 : Int32).toInt = 0 := by decide
    exact KP.rt F rfl (show ((0 : Int32).toInt = 0 ∨ (0 : Int32).toInt = 1) ∧ (((0 : Int32).toInt ≠ 0 → o_kind.toInt = 4 ∧ o_value.toInt = x0.toInt)) from ⟨(by first | omega | assumption), (by first | omega | (intro lq; refine ⟨?_, ?_⟩ <;> (first | omega | assumption | rfl | (exfalso; omega))))⟩) dX10_isSign_21
  · have ic_1 : o_kind.toInt = 4 := k_eq c_1 rfl (by decide)
    refine lv_aload_n hx hb dX10_isSign_8 rfl (lv_at hl 0 rfl) ?_
    refine va_get (D := D) (ci := 10) (v := .int o_value) (C := RX10) (T := TX10) (N := 11) hx hb hG inG_X10 hown hE.1 hP 0 rfl rfl 8 (by decide) (hG _ q_f_X10_37) (fun _ h9 => h9) rfl dX10_isSign_9 ?_
    refine lv_iload_n hx hb dX10_isSign_12 rfl (lv_at hl 1 rfl) ?_
    refine lv_icmp_ne (tgt := 20) hx hb dX10_isSign_13 (by decide) (fun c_2 => ?_) (fun c_2 => ?_)
    · have ic_2 : o_value.toInt ≠ x0.toInt := k_ne c_2 rfl rfl
      refine lv_iconst (v := 0) hx hb dX10_isSign_20 (by decide) ?_
      have lit0 : (0 : Int32).toInt = 0 := by decide
      exact KP.rt F rfl (show ((0 : Int32).toInt = 0 ∨ (0 : Int32).toInt = 1) ∧ (((0 : Int32).toInt ≠ 0 → o_kind.toInt = 4 ∧ o_value.toInt = x0.toInt)) from ⟨(by first | omega | assumption), (by first | omega | (intro lq; refine ⟨?_, ?_⟩ <;> (first | omega | assumption | rfl | (exfalso; omega))))⟩) dX10_isSign_21
    · have ic_2 : o_value.toInt = x0.toInt := k_eq c_2 rfl rfl
      refine lv_iconst (v := 1) hx hb dX10_isSign_16 (by decide) ?_
      refine lv_goto (tgt := 21) hx hb dX10_isSign_17 (by decide) ?_
      have lit0 : (1 : Int32).toInt = 1 := by decide
      exact KP.rt F rfl (show ((1 : Int32).toInt = 0 ∨ (1 : Int32).toInt = 1) ∧ (((1 : Int32).toInt ≠ 0 → o_kind.toInt = 4 ∧ o_value.toInt = x0.toInt)) from ⟨(by first | omega | assumption), (by first | omega | (intro lq; refine ⟨?_, ?_⟩ <;> (first | omega | assumption | rfl | (exfalso; omega))))⟩) dX10_isSign_21

set_option maxHeartbeats 4000000 in
set_option maxRecDepth 100000 in
theorem cc_X10_isWord (l : Launch) (D : va_G) (cy : Nat → ClassId) (o : Nat) (o_by : Nat) (o_ki : Nat) (o_va : Nat) (o_pl : Nat) (o_len : Int32) (o_tok : Int32) (o_at : Int32) (o_kind : Int32) (o_value : Int32) (o_place : Int32) (o_fault : Int32) (x0 : Int32)  : KP l yX10_isWord cX10_isWord 2 (some .boolean) 0 0 D (kTY cy) [.ref o, .int x0] [(o, .inr (10, [.ref o_by, .int o_len, .ref o_ki, .ref o_va, .ref o_pl, .int o_tok, .int o_at, .int o_kind, .int o_value, .int o_place, .int o_fault]))] (fun r => (r.toInt = 0 ∨ r.toInt = 1) ∧ ((r.toInt ≠ 0 → o_kind.toInt = 3 ∧ o_value.toInt = x0.toInt))) := by
  refine KP.of (by decide) (Nat.le_of_ble_eq_true rfl) (fun p e s m below meth c ls F hE hP hl => ?_)
  have F : kF p s m meth c cX10_isWord 2 (some .boolean) _ RX10 := F
  obtain ⟨hx, hb, hr, hml, hown, hG, hlk⟩ := id F
  have hl : lv_has ls 2 [(0, .ref o), (1, .int x0)] := hl
  refine lv_aload_n hx hb dX10_isWord_0 rfl (lv_at hl 0 rfl) ?_
  refine va_get (D := D) (ci := 10) (v := .int o_kind) (C := RX10) (T := TX10) (N := 11) hx hb hG inG_X10 hown hE.1 hP 0 rfl rfl 7 (by decide) (hG _ q_f_X10_34) (fun _ h9 => h9) rfl dX10_isWord_1 ?_
  refine lv_iconst (v := 3) hx hb dX10_isWord_4 (by decide) ?_
  refine lv_icmp_ne (tgt := 20) hx hb dX10_isWord_5 (by decide) (fun c_1 => ?_) (fun c_1 => ?_)
  · have ic_1 : o_kind.toInt ≠ 3 := k_ne c_1 rfl (by decide)
    refine lv_iconst (v := 0) hx hb dX10_isWord_20 (by decide) ?_
    have lit0 : (0 : Int32).toInt = 0 := by decide
    exact KP.rt F rfl (show ((0 : Int32).toInt = 0 ∨ (0 : Int32).toInt = 1) ∧ (((0 : Int32).toInt ≠ 0 → o_kind.toInt = 3 ∧ o_value.toInt = x0.toInt)) from ⟨(by first | omega | assumption), (by first | omega | (intro lq; refine ⟨?_, ?_⟩ <;> (first | omega | assumption | rfl | (exfalso; omega))))⟩) dX10_isWord_21
  · have ic_1 : o_kind.toInt = 3 := k_eq c_1 rfl (by decide)
    refine lv_aload_n hx hb dX10_isWord_8 rfl (lv_at hl 0 rfl) ?_
    refine va_get (D := D) (ci := 10) (v := .int o_value) (C := RX10) (T := TX10) (N := 11) hx hb hG inG_X10 hown hE.1 hP 0 rfl rfl 8 (by decide) (hG _ q_f_X10_37) (fun _ h9 => h9) rfl dX10_isWord_9 ?_
    refine lv_iload_n hx hb dX10_isWord_12 rfl (lv_at hl 1 rfl) ?_
    refine lv_icmp_ne (tgt := 20) hx hb dX10_isWord_13 (by decide) (fun c_2 => ?_) (fun c_2 => ?_)
    · have ic_2 : o_value.toInt ≠ x0.toInt := k_ne c_2 rfl rfl
      refine lv_iconst (v := 0) hx hb dX10_isWord_20 (by decide) ?_
      have lit0 : (0 : Int32).toInt = 0 := by decide
      exact KP.rt F rfl (show ((0 : Int32).toInt = 0 ∨ (0 : Int32).toInt = 1) ∧ (((0 : Int32).toInt ≠ 0 → o_kind.toInt = 3 ∧ o_value.toInt = x0.toInt)) from ⟨(by first | omega | assumption), (by first | omega | (intro lq; refine ⟨?_, ?_⟩ <;> (first | omega | assumption | rfl | (exfalso; omega))))⟩) dX10_isWord_21
    · have ic_2 : o_value.toInt = x0.toInt := k_eq c_2 rfl rfl
      refine lv_iconst (v := 1) hx hb dX10_isWord_16 (by decide) ?_
      refine lv_goto (tgt := 21) hx hb dX10_isWord_17 (by decide) ?_
      have lit0 : (1 : Int32).toInt = 1 := by decide
      exact KP.rt F rfl (show ((1 : Int32).toInt = 0 ∨ (1 : Int32).toInt = 1) ∧ (((1 : Int32).toInt ≠ 0 → o_kind.toInt = 3 ∧ o_value.toInt = x0.toInt)) from ⟨(by first | omega | assumption), (by first | omega | (intro lq; refine ⟨?_, ?_⟩ <;> (first | omega | assumption | rfl | (exfalso; omega))))⟩) dX10_isWord_21

set_option maxHeartbeats 4000000 in
set_option maxRecDepth 100000 in
theorem cc_X10_failAt (l : Launch) (D : va_G) (cy : Nat → ClassId) (o : Nat) (o_by : Nat) (o_ki : Nat) (o_va : Nat) (o_pl : Nat) (o_len : Int32) (o_tok : Int32) (o_at : Int32) (o_kind : Int32) (o_value : Int32) (o_place : Int32) (o_fault : Int32) (x0 : Int32) (x1 : Int32) (p0 : 0 ≤ x0.toInt) (p1 : x0.toInt ≤ 400) (p2 : 0 ≤ x1.toInt) (p3 : x1.toInt ≤ 4) : KV l yX10_failAt cX10_failAt 3 0 0 D (kTY cy) [.ref o, .int x0, .int x1] [(o, .inr (10, [.ref o_by, .int o_len, .ref o_ki, .ref o_va, .ref o_pl, .int o_tok, .int o_at, .int o_kind, .int o_value, .int o_place, .int o_fault]))] (S := Int32) (fun u => (u.toInt ≠ 0)) (fun u => [(o, .inr (10, [.ref o_by, .int o_len, .ref o_ki, .ref o_va, .ref o_pl, .int o_tok, .int o_at, .int o_kind, .int o_value, .int o_place, .int u]))]) 0 0 := by
  refine KV.of (by decide) (Nat.le_of_ble_eq_true rfl) (fun p e s m below meth c ls A F hin hE hP hD hA hS hl => ?_)
  have F : kF p s m meth c cX10_failAt 3 none _ RX10 := F
  obtain ⟨hx, hb, hr, hml, hown, hG, hlk⟩ := id F
  have hl : lv_has ls 3 [(0, .ref o), (1, .int x0), (2, .int x1)] := hl
  refine lv_aload_n hx hb dX10_failAt_0 rfl (lv_at hl 0 rfl) ?_
  refine va_get (D := D) (ci := 10) (v := .int o_fault) (C := RX10) (T := TX10) (N := 11) hx hb hG inG_X10 hown hE.1 hP 0 rfl rfl 10 (by decide) (hG _ q_f_X10_43) (fun _ h9 => h9) rfl dX10_failAt_1 ?_
  refine lv_if_ne (tgt := 19) hx hb dX10_failAt_4 (by decide) (fun c_1 => ?_) (fun c_1 => ?_)
  · have ic_1 : o_fault.toInt ≠ 0 := k_ne c_1 rfl (by decide)
    exact KV.rt o_fault F (hP.sub [0] rfl) (hD.sub [0] (by decide) rfl) hS (show (o_fault.toInt ≠ 0) from (by first | omega | assumption)) (Nat.le_of_ble_eq_true rfl) (Nat.le_of_ble_eq_true rfl) dX10_failAt_19
  · have ic_1 : o_fault.toInt = 0 := k_eq c_1 rfl (by decide)
    refine lv_aload_n hx hb dX10_failAt_7 rfl (lv_at hl 0 rfl) ?_
    refine lv_iconst (v := 1) hx hb dX10_failAt_8 (by decide) ?_
    refine lv_bipush (v := 8) hx hb dX10_failAt_9 (by decide) ?_
    refine lv_iload_n hx hb dX10_failAt_11 rfl (lv_at hl 1 rfl) ?_
    refine lv_imul hx hb dX10_failAt_12 ?_
    refine lv_topi (fun z_2 ez_2 => ?_)
    have iz_2 : z_2.toInt = 8 * x0.toInt := k_mulI ez_2 (by decide) rfl (by omega)
    refine lv_iadd hx hb dX10_failAt_13 ?_
    refine lv_topi (fun z_3 ez_3 => ?_)
    have iz_3 : z_3.toInt = 1 + z_2.toInt := k_addI ez_3 (by decide) rfl (by omega)
    refine lv_iload_n hx hb dX10_failAt_14 rfl (lv_at hl 2 rfl) ?_
    refine lv_iadd hx hb dX10_failAt_15 ?_
    refine lv_topi (fun z_4 ez_4 => ?_)
    have iz_4 : z_4.toInt = z_3.toInt + x1.toInt := k_addI ez_4 rfl rfl (by omega)
    refine va_put (D := D) (ci := 10) (v := .int z_4) (ty := .int) (C := RX10) (T := TX10) (N := 11) hx hb hG inG_X10 tyX10 tyX10_ok nmX10 hown hE.1 hP hD hS 0 rfl rfl 10 (by decide) (hG _ q_f_X10_43) (fun _ h9 => h9) rfl (by decide +kernel) rfl rfl (Nat.le_of_ble_eq_true rfl) dX10_failAt_16 (fun H locs hP hD hS => ?_)
    have hP : va_P D vwCl [(o, .inr (10, [.ref o_by, .int o_len, .ref o_ki, .ref o_va, .ref o_pl, .int o_tok, .int o_at, .int o_kind, .int o_value, .int o_place, .int z_4]))] H := hP
    have hD : va_D A [(o, .inr (10, [.ref o_by, .int o_len, .ref o_ki, .ref o_va, .ref o_pl, .int o_tok, .int o_at, .int o_kind, .int o_value, .int o_place, .int z_4]))] := hD
    exact KV.rt z_4 F (hP.sub [0] rfl) (hD.sub [0] (by decide) rfl) hS (show (z_4.toInt ≠ 0) from (by first | omega | assumption)) (Nat.le_of_ble_eq_true rfl) (Nat.le_of_ble_eq_true rfl) dX10_failAt_19

set_option maxHeartbeats 4000000 in
set_option maxRecDepth 100000 in
theorem cc_X10_isDigit (l : Launch) (D : va_G) (cy : Nat → ClassId) (o : Nat) (o_by : Nat) (o_ki : Nat) (o_va : Nat) (o_pl : Nat) (o_len : Int32) (o_tok : Int32) (o_at : Int32) (o_kind : Int32) (o_value : Int32) (o_place : Int32) (o_fault : Int32) (g_oby : Nat → Int32) (x0 : Int32) (p0 : 0 ≤ x0.toInt) (p1 : x0.toInt < 400) : KP l yX10_isDigit cX10_isDigit 2 (some .boolean) 0 0 D (kTY cy) [.ref o, .int x0] [(o, .inr (10, [.ref o_by, .int o_len, .ref o_ki, .ref o_va, .ref o_pl, .int o_tok, .int o_at, .int o_kind, .int o_value, .int o_place, .int o_fault])), (o_by, .inl (cy 0, 400, .inl g_oby))] (fun r => (r.toInt = 0 ∨ r.toInt = 1) ∧ ((r.toInt ≠ 0 → 48 ≤ (g_oby (Int32.toNatClampNeg x0)).toInt ∧ (g_oby (Int32.toNatClampNeg x0)).toInt ≤ 57))) := by
  refine KP.of (by decide) (Nat.le_of_ble_eq_true rfl) (fun p e s m below meth c ls F hE hP hl => ?_)
  have F : kF p s m meth c cX10_isDigit 2 (some .boolean) _ RX10 := F
  obtain ⟨hx, hb, hr, hml, hown, hG, hlk⟩ := id F
  have hl : lv_has ls 2 [(0, .ref o), (1, .int x0)] := hl
  refine lv_aload_n hx hb dX10_isDigit_0 rfl (lv_at hl 0 rfl) ?_
  refine va_get (D := D) (ci := 10) (v := .ref o_by) (C := RX10) (T := TX10) (N := 11) hx hb hG inG_X10 hown hE.1 hP 0 rfl rfl 0 (by decide) (hG _ q_f_X10_11) (fun _ h9 => h9) rfl dX10_isDigit_1 ?_
  refine lv_iload_n hx hb dX10_isDigit_4 rfl (lv_at hl 1 rfl) ?_
  refine va_iald hx hb hE.1 hP 1 0 rfl rfl (k_in (by omega)) dX10_isDigit_5 ?_
  refine k_top (z := (g_oby (Int32.toNatClampNeg x0))) rfl ?_
  refine lv_bipush (v := 48) hx hb dX10_isDigit_6 (by decide) ?_
  refine lv_icmp_lt (tgt := 26) hx hb dX10_isDigit_8 (by decide) (fun c_1 => ?_) (fun c_1 => ?_)
  · have ic_1 : (g_oby (Int32.toNatClampNeg x0)).toInt < 48 := k_lt c_1 rfl (by decide)
    refine lv_iconst (v := 0) hx hb dX10_isDigit_26 (by decide) ?_
    have lit0 : (0 : Int32).toInt = 0 := by decide
    exact KP.rt F rfl (show ((0 : Int32).toInt = 0 ∨ (0 : Int32).toInt = 1) ∧ (((0 : Int32).toInt ≠ 0 → 48 ≤ (g_oby (Int32.toNatClampNeg x0)).toInt ∧ (g_oby (Int32.toNatClampNeg x0)).toInt ≤ 57)) from ⟨(by first | omega | assumption), (by first | omega | (intro lq; refine ⟨?_, ?_⟩ <;> (first | omega | assumption | rfl | (exfalso; omega))))⟩) dX10_isDigit_27
  · have ic_1 : 48 ≤ (g_oby (Int32.toNatClampNeg x0)).toInt := k_nlt c_1 rfl (by decide)
    refine lv_aload_n hx hb dX10_isDigit_11 rfl (lv_at hl 0 rfl) ?_
    refine va_get (D := D) (ci := 10) (v := .ref o_by) (C := RX10) (T := TX10) (N := 11) hx hb hG inG_X10 hown hE.1 hP 0 rfl rfl 0 (by decide) (hG _ q_f_X10_11) (fun _ h9 => h9) rfl dX10_isDigit_12 ?_
    refine lv_iload_n hx hb dX10_isDigit_15 rfl (lv_at hl 1 rfl) ?_
    refine va_iald hx hb hE.1 hP 1 0 rfl rfl (k_in (by omega)) dX10_isDigit_16 ?_
    refine k_top (z := (g_oby (Int32.toNatClampNeg x0))) rfl ?_
    refine lv_bipush (v := 57) hx hb dX10_isDigit_17 (by decide) ?_
    refine lv_icmp_gt (tgt := 26) hx hb dX10_isDigit_19 (by decide) (fun c_2 => ?_) (fun c_2 => ?_)
    · have ic_2 : 57 < (g_oby (Int32.toNatClampNeg x0)).toInt := k_lt c_2 (by decide) rfl
      refine lv_iconst (v := 0) hx hb dX10_isDigit_26 (by decide) ?_
      have lit0 : (0 : Int32).toInt = 0 := by decide
      exact KP.rt F rfl (show ((0 : Int32).toInt = 0 ∨ (0 : Int32).toInt = 1) ∧ (((0 : Int32).toInt ≠ 0 → 48 ≤ (g_oby (Int32.toNatClampNeg x0)).toInt ∧ (g_oby (Int32.toNatClampNeg x0)).toInt ≤ 57)) from ⟨(by first | omega | assumption), (by first | omega | (intro lq; refine ⟨?_, ?_⟩ <;> (first | omega | assumption | rfl | (exfalso; omega))))⟩) dX10_isDigit_27
    · have ic_2 : (g_oby (Int32.toNatClampNeg x0)).toInt ≤ 57 := k_nlt c_2 (by decide) rfl
      refine lv_iconst (v := 1) hx hb dX10_isDigit_22 (by decide) ?_
      refine lv_goto (tgt := 27) hx hb dX10_isDigit_23 (by decide) ?_
      have lit0 : (1 : Int32).toInt = 1 := by decide
      exact KP.rt F rfl (show ((1 : Int32).toInt = 0 ∨ (1 : Int32).toInt = 1) ∧ (((1 : Int32).toInt ≠ 0 → 48 ≤ (g_oby (Int32.toNatClampNeg x0)).toInt ∧ (g_oby (Int32.toNatClampNeg x0)).toInt ≤ 57)) from ⟨(by first | omega | assumption), (by first | omega | (intro lq; refine ⟨?_, ?_⟩ <;> (first | omega | assumption | rfl | (exfalso; omega))))⟩) dX10_isDigit_27

set_option maxHeartbeats 4000000 in
set_option maxRecDepth 100000 in
theorem cc_X10_isLetter (l : Launch) (D : va_G) (cy : Nat → ClassId) (o : Nat) (o_by : Nat) (o_ki : Nat) (o_va : Nat) (o_pl : Nat) (o_len : Int32) (o_tok : Int32) (o_at : Int32) (o_kind : Int32) (o_value : Int32) (o_place : Int32) (o_fault : Int32) (g_oby : Nat → Int32) (x0 : Int32) (p0 : 0 ≤ x0.toInt) (p1 : x0.toInt < 400) : KP l yX10_isLetter cX10_isLetter 2 (some .boolean) 0 0 D (kTY cy) [.ref o, .int x0] [(o, .inr (10, [.ref o_by, .int o_len, .ref o_ki, .ref o_va, .ref o_pl, .int o_tok, .int o_at, .int o_kind, .int o_value, .int o_place, .int o_fault])), (o_by, .inl (cy 0, 400, .inl g_oby))] (fun r => (r.toInt = 0 ∨ r.toInt = 1)) := by
  refine KP.of (by decide) (Nat.le_of_ble_eq_true rfl) (fun p e s m below meth c ls F hE hP hl => ?_)
  have F : kF p s m meth c cX10_isLetter 2 (some .boolean) _ RX10 := F
  obtain ⟨hx, hb, hr, hml, hown, hG, hlk⟩ := id F
  have hl : lv_has ls 2 [(0, .ref o), (1, .int x0)] := hl
  refine lv_aload_n hx hb dX10_isLetter_0 rfl (lv_at hl 0 rfl) ?_
  refine va_get (D := D) (ci := 10) (v := .ref o_by) (C := RX10) (T := TX10) (N := 11) hx hb hG inG_X10 hown hE.1 hP 0 rfl rfl 0 (by decide) (hG _ q_f_X10_11) (fun _ h9 => h9) rfl dX10_isLetter_1 ?_
  refine lv_iload_n hx hb dX10_isLetter_4 rfl (lv_at hl 1 rfl) ?_
  refine va_iald hx hb hE.1 hP 1 0 rfl rfl (k_in (by omega)) dX10_isLetter_5 ?_
  refine k_top (z := (g_oby (Int32.toNatClampNeg x0))) rfl ?_
  refine lv_bipush (v := 97) hx hb dX10_isLetter_6 (by decide) ?_
  refine lv_icmp_lt (tgt := 26) hx hb dX10_isLetter_8 (by decide) (fun c_1 => ?_) (fun c_1 => ?_)
  · have ic_1 : (g_oby (Int32.toNatClampNeg x0)).toInt < 97 := k_lt c_1 rfl (by decide)
    refine lv_iconst (v := 0) hx hb dX10_isLetter_26 (by decide) ?_
    have lit0 : (0 : Int32).toInt = 0 := by decide
    exact KP.rt F rfl (show ((0 : Int32).toInt = 0 ∨ (0 : Int32).toInt = 1) from (by first | omega | assumption)) dX10_isLetter_27
  · have ic_1 : 97 ≤ (g_oby (Int32.toNatClampNeg x0)).toInt := k_nlt c_1 rfl (by decide)
    refine lv_aload_n hx hb dX10_isLetter_11 rfl (lv_at hl 0 rfl) ?_
    refine va_get (D := D) (ci := 10) (v := .ref o_by) (C := RX10) (T := TX10) (N := 11) hx hb hG inG_X10 hown hE.1 hP 0 rfl rfl 0 (by decide) (hG _ q_f_X10_11) (fun _ h9 => h9) rfl dX10_isLetter_12 ?_
    refine lv_iload_n hx hb dX10_isLetter_15 rfl (lv_at hl 1 rfl) ?_
    refine va_iald hx hb hE.1 hP 1 0 rfl rfl (k_in (by omega)) dX10_isLetter_16 ?_
    refine k_top (z := (g_oby (Int32.toNatClampNeg x0))) rfl ?_
    refine lv_bipush (v := 122) hx hb dX10_isLetter_17 (by decide) ?_
    refine lv_icmp_gt (tgt := 26) hx hb dX10_isLetter_19 (by decide) (fun c_2 => ?_) (fun c_2 => ?_)
    · have ic_2 : 122 < (g_oby (Int32.toNatClampNeg x0)).toInt := k_lt c_2 (by decide) rfl
      refine lv_iconst (v := 0) hx hb dX10_isLetter_26 (by decide) ?_
      have lit0 : (0 : Int32).toInt = 0 := by decide
      exact KP.rt F rfl (show ((0 : Int32).toInt = 0 ∨ (0 : Int32).toInt = 1) from (by first | omega | assumption)) dX10_isLetter_27
    · have ic_2 : (g_oby (Int32.toNatClampNeg x0)).toInt ≤ 122 := k_nlt c_2 (by decide) rfl
      refine lv_iconst (v := 1) hx hb dX10_isLetter_22 (by decide) ?_
      refine lv_goto (tgt := 27) hx hb dX10_isLetter_23 (by decide) ?_
      have lit0 : (1 : Int32).toInt = 1 := by decide
      exact KP.rt F rfl (show ((1 : Int32).toInt = 0 ∨ (1 : Int32).toInt = 1) from (by first | omega | assumption)) dX10_isLetter_27

set_option maxHeartbeats 4000000 in
set_option maxRecDepth 100000 in
theorem cc_X10_advance (l : Launch) (D : va_G) (cy : Nat → ClassId) (o : Nat) (o_by : Nat) (o_ki : Nat) (o_va : Nat) (o_pl : Nat) (o_len : Int32) (o_tok : Int32) (o_at : Int32) (o_kind : Int32) (o_value : Int32) (o_place : Int32) (o_fault : Int32) (g_oby : Nat → Int32) (g_oki : Nat → Int32) (g_ova : Nat → Int32) (g_opl : Nat → Int32) (p0 : 0 ≤ o_tok.toInt) (p1 : o_tok.toInt ≤ 401) (p2 : -1 ≤ o_at.toInt) (p3 : o_at.toInt ≤ 400) (p4 : TKV g_oki g_ova g_opl o_tok.toInt) (p5 : o_kind.toInt = 1 ∨ o_kind.toInt = 3 → 0 ≤ o_value.toInt ∧ o_value.toInt ≤ 99999) (p6 : 0 ≤ o_place.toInt) (p7 : o_place.toInt ≤ 400) : KV l yX10_advance cX10_advance 1 0 0 D (kTY cy) [.ref o] [(o, .inr (10, [.ref o_by, .int o_len, .ref o_ki, .ref o_va, .ref o_pl, .int o_tok, .int o_at, .int o_kind, .int o_value, .int o_place, .int o_fault])), (o_by, .inl (cy 0, 400, .inl g_oby)), (o_ki, .inl (cy 0, 401, .inl g_oki)), (o_va, .inl (cy 0, 401, .inl g_ova)), (o_pl, .inl (cy 0, 401, .inl g_opl))] (S := Int32 × Int32 × Int32 × Int32) (fun u => (-1 ≤ (u.1).toInt) ∧ ((u.1).toInt ≤ 400) ∧ ((u.2.1).toInt = 1 ∨ (u.2.1).toInt = 3 → 0 ≤ (u.2.2.1).toInt ∧ (u.2.2.1).toInt ≤ 99999) ∧ (0 ≤ (u.2.2.2).toInt) ∧ ((u.2.2.2).toInt ≤ 400)) (fun u => [(o, .inr (10, [.ref o_by, .int o_len, .ref o_ki, .ref o_va, .ref o_pl, .int o_tok, .int (u.1), .int (u.2.1), .int (u.2.2.1), .int (u.2.2.2), .int o_fault])), (o_by, .inl (cy 0, 400, .inl g_oby)), (o_ki, .inl (cy 0, 401, .inl g_oki)), (o_va, .inl (cy 0, 401, .inl g_ova)), (o_pl, .inl (cy 0, 401, .inl g_opl))]) 0 0 := by
  refine KV.of (by decide) (Nat.le_of_ble_eq_true rfl) (fun p e s m below meth c ls A F hin hE hP hD hA hS hl => ?_)
  have F : kF p s m meth c cX10_advance 1 none _ RX10 := F
  obtain ⟨hx, hb, hr, hml, hown, hG, hlk⟩ := id F
  have hl : lv_has ls 1 [(0, .ref o)] := hl
  refine lv_aload_n hx hb dX10_advance_0 rfl (lv_at hl 0 rfl) ?_
  refine va_get (D := D) (ci := 10) (v := .int o_at) (C := RX10) (T := TX10) (N := 11) hx hb hG inG_X10 hown hE.1 hP 0 rfl rfl 6 (by decide) (hG _ q_f_X10_31) (fun _ h9 => h9) rfl dX10_advance_1 ?_
  refine lv_iconst (v := 1) hx hb dX10_advance_4 (by decide) ?_
  refine lv_iadd hx hb dX10_advance_5 ?_
  refine lv_topi (fun z_1 ez_1 => ?_)
  have iz_1 : z_1.toInt = o_at.toInt + 1 := k_addI ez_1 rfl (by decide) (by omega)
  refine lv_aload_n hx hb dX10_advance_6 rfl (lv_at hl 0 rfl) ?_
  refine va_get (D := D) (ci := 10) (v := .int o_tok) (C := RX10) (T := TX10) (N := 11) hx hb hG inG_X10 hown hE.1 hP 0 rfl rfl 5 (by decide) (hG _ q_f_X10_28) (fun _ h9 => h9) rfl dX10_advance_7 ?_
  refine lv_icmp_ge (tgt := 62) hx hb dX10_advance_10 (by decide) (fun c_2 => ?_) (fun c_2 => ?_)
  · have ic_2 : o_tok.toInt ≤ z_1.toInt := k_le c_2 rfl rfl
    exact KV.rt ⟨o_at, o_kind, o_value, o_place⟩ F (hP.sub [0, 1, 2, 3, 4] rfl) (hD.sub [0, 1, 2, 3, 4] (by decide) rfl) hS (show (-1 ≤ o_at.toInt) ∧ (o_at.toInt ≤ 400) ∧ (o_kind.toInt = 1 ∨ o_kind.toInt = 3 → 0 ≤ o_value.toInt ∧ o_value.toInt ≤ 99999) ∧ (0 ≤ o_place.toInt) ∧ (o_place.toInt ≤ 400) from ⟨(by first | omega | assumption), (by first | omega | assumption), (by first | omega | assumption), (by first | omega | assumption), (by first | omega | assumption)⟩) (Nat.le_of_ble_eq_true rfl) (Nat.le_of_ble_eq_true rfl) dX10_advance_62
  · have ic_2 : z_1.toInt < o_tok.toInt := k_nle c_2 rfl rfl
    refine lv_aload_n hx hb dX10_advance_13 rfl (lv_at hl 0 rfl) ?_
    refine lv_dup hx hb dX10_advance_14 rfl ?_
    refine va_get (D := D) (ci := 10) (v := .int o_at) (C := RX10) (T := TX10) (N := 11) hx hb hG inG_X10 hown hE.1 hP 0 rfl rfl 6 (by decide) (hG _ q_f_X10_31) (fun _ h9 => h9) rfl dX10_advance_15 ?_
    refine lv_iconst (v := 1) hx hb dX10_advance_18 (by decide) ?_
    refine lv_iadd hx hb dX10_advance_19 ?_
    refine lv_topi (fun z_3 ez_3 => ?_)
    have iz_3 : z_3.toInt = o_at.toInt + 1 := k_addI ez_3 rfl (by decide) (by omega)
    refine va_put (D := D) (ci := 10) (v := .int z_3) (ty := .int) (C := RX10) (T := TX10) (N := 11) hx hb hG inG_X10 tyX10 tyX10_ok nmX10 hown hE.1 hP hD hS 0 rfl rfl 6 (by decide) (hG _ q_f_X10_31) (fun _ h9 => h9) rfl (by decide +kernel) rfl rfl (Nat.le_of_ble_eq_true rfl) dX10_advance_20 (fun H locs hP hD hS => ?_)
    have hP : va_P D vwCl [(o, .inr (10, [.ref o_by, .int o_len, .ref o_ki, .ref o_va, .ref o_pl, .int o_tok, .int z_3, .int o_kind, .int o_value, .int o_place, .int o_fault])), (o_by, .inl (cy 0, 400, .inl g_oby)), (o_ki, .inl (cy 0, 401, .inl g_oki)), (o_va, .inl (cy 0, 401, .inl g_ova)), (o_pl, .inl (cy 0, 401, .inl g_opl))] H := hP
    have hD : va_D A [(o, .inr (10, [.ref o_by, .int o_len, .ref o_ki, .ref o_va, .ref o_pl, .int o_tok, .int z_3, .int o_kind, .int o_value, .int o_place, .int o_fault])), (o_by, .inl (cy 0, 400, .inl g_oby)), (o_ki, .inl (cy 0, 401, .inl g_oki)), (o_va, .inl (cy 0, 401, .inl g_ova)), (o_pl, .inl (cy 0, 401, .inl g_opl))] := hD
    obtain ⟨tk1, tk2, tk3⟩ := TKV.at p4 z_3 (by omega)
    refine lv_aload_n hx hb dX10_advance_23 rfl (lv_at hl 0 rfl) ?_
    refine lv_aload_n hx hb dX10_advance_24 rfl (lv_at hl 0 rfl) ?_
    refine va_get (D := D) (ci := 10) (v := .ref o_ki) (C := RX10) (T := TX10) (N := 11) hx hb hG inG_X10 hown hE.1 hP 0 rfl rfl 2 (by decide) (hG _ q_f_X10_19) (fun _ h9 => h9) rfl dX10_advance_25 ?_
    refine lv_aload_n hx hb dX10_advance_28 rfl (lv_at hl 0 rfl) ?_
    refine va_get (D := D) (ci := 10) (v := .int z_3) (C := RX10) (T := TX10) (N := 11) hx hb hG inG_X10 hown hE.1 hP 0 rfl rfl 6 (by decide) (hG _ q_f_X10_31) (fun _ h9 => h9) rfl dX10_advance_29 ?_
    refine va_iald hx hb hE.1 hP 2 0 rfl rfl (k_in (by omega)) dX10_advance_32 ?_
    refine k_top (z := (g_oki (Int32.toNatClampNeg z_3))) rfl ?_
    refine va_put (D := D) (ci := 10) (v := .int (g_oki (Int32.toNatClampNeg z_3))) (ty := .int) (C := RX10) (T := TX10) (N := 11) hx hb hG inG_X10 tyX10 tyX10_ok nmX10 hown hE.1 hP hD hS 0 rfl rfl 7 (by decide) (hG _ q_f_X10_34) (fun _ h9 => h9) rfl (by decide +kernel) rfl rfl (Nat.le_of_ble_eq_true rfl) dX10_advance_33 (fun H locs hP hD hS => ?_)
    have hP : va_P D vwCl [(o, .inr (10, [.ref o_by, .int o_len, .ref o_ki, .ref o_va, .ref o_pl, .int o_tok, .int z_3, .int (g_oki (Int32.toNatClampNeg z_3)), .int o_value, .int o_place, .int o_fault])), (o_by, .inl (cy 0, 400, .inl g_oby)), (o_ki, .inl (cy 0, 401, .inl g_oki)), (o_va, .inl (cy 0, 401, .inl g_ova)), (o_pl, .inl (cy 0, 401, .inl g_opl))] H := hP
    have hD : va_D A [(o, .inr (10, [.ref o_by, .int o_len, .ref o_ki, .ref o_va, .ref o_pl, .int o_tok, .int z_3, .int (g_oki (Int32.toNatClampNeg z_3)), .int o_value, .int o_place, .int o_fault])), (o_by, .inl (cy 0, 400, .inl g_oby)), (o_ki, .inl (cy 0, 401, .inl g_oki)), (o_va, .inl (cy 0, 401, .inl g_ova)), (o_pl, .inl (cy 0, 401, .inl g_opl))] := hD
    refine lv_aload_n hx hb dX10_advance_36 rfl (lv_at hl 0 rfl) ?_
    refine lv_aload_n hx hb dX10_advance_37 rfl (lv_at hl 0 rfl) ?_
    refine va_get (D := D) (ci := 10) (v := .ref o_va) (C := RX10) (T := TX10) (N := 11) hx hb hG inG_X10 hown hE.1 hP 0 rfl rfl 3 (by decide) (hG _ q_f_X10_22) (fun _ h9 => h9) rfl dX10_advance_38 ?_
    refine lv_aload_n hx hb dX10_advance_41 rfl (lv_at hl 0 rfl) ?_
    refine va_get (D := D) (ci := 10) (v := .int z_3) (C := RX10) (T := TX10) (N := 11) hx hb hG inG_X10 hown hE.1 hP 0 rfl rfl 6 (by decide) (hG _ q_f_X10_31) (fun _ h9 => h9) rfl dX10_advance_42 ?_
    refine va_iald hx hb hE.1 hP 3 0 rfl rfl (k_in (by omega)) dX10_advance_45 ?_
    refine k_top (z := (g_ova (Int32.toNatClampNeg z_3))) rfl ?_
    refine va_put (D := D) (ci := 10) (v := .int (g_ova (Int32.toNatClampNeg z_3))) (ty := .int) (C := RX10) (T := TX10) (N := 11) hx hb hG inG_X10 tyX10 tyX10_ok nmX10 hown hE.1 hP hD hS 0 rfl rfl 8 (by decide) (hG _ q_f_X10_37) (fun _ h9 => h9) rfl (by decide +kernel) rfl rfl (Nat.le_of_ble_eq_true rfl) dX10_advance_46 (fun H locs hP hD hS => ?_)
    have hP : va_P D vwCl [(o, .inr (10, [.ref o_by, .int o_len, .ref o_ki, .ref o_va, .ref o_pl, .int o_tok, .int z_3, .int (g_oki (Int32.toNatClampNeg z_3)), .int (g_ova (Int32.toNatClampNeg z_3)), .int o_place, .int o_fault])), (o_by, .inl (cy 0, 400, .inl g_oby)), (o_ki, .inl (cy 0, 401, .inl g_oki)), (o_va, .inl (cy 0, 401, .inl g_ova)), (o_pl, .inl (cy 0, 401, .inl g_opl))] H := hP
    have hD : va_D A [(o, .inr (10, [.ref o_by, .int o_len, .ref o_ki, .ref o_va, .ref o_pl, .int o_tok, .int z_3, .int (g_oki (Int32.toNatClampNeg z_3)), .int (g_ova (Int32.toNatClampNeg z_3)), .int o_place, .int o_fault])), (o_by, .inl (cy 0, 400, .inl g_oby)), (o_ki, .inl (cy 0, 401, .inl g_oki)), (o_va, .inl (cy 0, 401, .inl g_ova)), (o_pl, .inl (cy 0, 401, .inl g_opl))] := hD
    refine lv_aload_n hx hb dX10_advance_49 rfl (lv_at hl 0 rfl) ?_
    refine lv_aload_n hx hb dX10_advance_50 rfl (lv_at hl 0 rfl) ?_
    refine va_get (D := D) (ci := 10) (v := .ref o_pl) (C := RX10) (T := TX10) (N := 11) hx hb hG inG_X10 hown hE.1 hP 0 rfl rfl 4 (by decide) (hG _ q_f_X10_25) (fun _ h9 => h9) rfl dX10_advance_51 ?_
    refine lv_aload_n hx hb dX10_advance_54 rfl (lv_at hl 0 rfl) ?_
    refine va_get (D := D) (ci := 10) (v := .int z_3) (C := RX10) (T := TX10) (N := 11) hx hb hG inG_X10 hown hE.1 hP 0 rfl rfl 6 (by decide) (hG _ q_f_X10_31) (fun _ h9 => h9) rfl dX10_advance_55 ?_
    refine va_iald hx hb hE.1 hP 4 0 rfl rfl (k_in (by omega)) dX10_advance_58 ?_
    refine k_top (z := (g_opl (Int32.toNatClampNeg z_3))) rfl ?_
    refine va_put (D := D) (ci := 10) (v := .int (g_opl (Int32.toNatClampNeg z_3))) (ty := .int) (C := RX10) (T := TX10) (N := 11) hx hb hG inG_X10 tyX10 tyX10_ok nmX10 hown hE.1 hP hD hS 0 rfl rfl 9 (by decide) (hG _ q_f_X10_40) (fun _ h9 => h9) rfl (by decide +kernel) rfl rfl (Nat.le_of_ble_eq_true rfl) dX10_advance_59 (fun H locs hP hD hS => ?_)
    have hP : va_P D vwCl [(o, .inr (10, [.ref o_by, .int o_len, .ref o_ki, .ref o_va, .ref o_pl, .int o_tok, .int z_3, .int (g_oki (Int32.toNatClampNeg z_3)), .int (g_ova (Int32.toNatClampNeg z_3)), .int (g_opl (Int32.toNatClampNeg z_3)), .int o_fault])), (o_by, .inl (cy 0, 400, .inl g_oby)), (o_ki, .inl (cy 0, 401, .inl g_oki)), (o_va, .inl (cy 0, 401, .inl g_ova)), (o_pl, .inl (cy 0, 401, .inl g_opl))] H := hP
    have hD : va_D A [(o, .inr (10, [.ref o_by, .int o_len, .ref o_ki, .ref o_va, .ref o_pl, .int o_tok, .int z_3, .int (g_oki (Int32.toNatClampNeg z_3)), .int (g_ova (Int32.toNatClampNeg z_3)), .int (g_opl (Int32.toNatClampNeg z_3)), .int o_fault])), (o_by, .inl (cy 0, 400, .inl g_oby)), (o_ki, .inl (cy 0, 401, .inl g_oki)), (o_va, .inl (cy 0, 401, .inl g_ova)), (o_pl, .inl (cy 0, 401, .inl g_opl))] := hD
    exact KV.rt ⟨z_3, (g_oki (Int32.toNatClampNeg z_3)), (g_ova (Int32.toNatClampNeg z_3)), (g_opl (Int32.toNatClampNeg z_3))⟩ F (hP.sub [0, 1, 2, 3, 4] rfl) (hD.sub [0, 1, 2, 3, 4] (by decide) rfl) hS (show (-1 ≤ z_3.toInt) ∧ (z_3.toInt ≤ 400) ∧ ((g_oki (Int32.toNatClampNeg z_3)).toInt = 1 ∨ (g_oki (Int32.toNatClampNeg z_3)).toInt = 3 → 0 ≤ (g_ova (Int32.toNatClampNeg z_3)).toInt ∧ (g_ova (Int32.toNatClampNeg z_3)).toInt ≤ 99999) ∧ (0 ≤ (g_opl (Int32.toNatClampNeg z_3)).toInt) ∧ ((g_opl (Int32.toNatClampNeg z_3)).toInt ≤ 400) from ⟨(by first | omega | assumption), (by first | omega | assumption), (by first | omega | assumption), (by first | omega | assumption), (by first | omega | assumption)⟩) (Nat.le_of_ble_eq_true rfl) (Nat.le_of_ble_eq_true rfl) dX10_advance_62

set_option maxHeartbeats 4000000 in
set_option maxRecDepth 100000 in
theorem cc_X10_addToken (l : Launch) (D : va_G) (cy : Nat → ClassId) (o : Nat) (o_by : Nat) (o_ki : Nat) (o_va : Nat) (o_pl : Nat) (o_len : Int32) (o_tok : Int32) (o_at : Int32) (o_kind : Int32) (o_value : Int32) (o_place : Int32) (o_fault : Int32) (g_oby : Nat → Int32) (g_oki : Nat → Int32) (g_ova : Nat → Int32) (g_opl : Nat → Int32) (x0 : Int32) (x1 : Int32) (x2 : Int32) (p0 : 0 ≤ o_tok.toInt) (p1 : o_tok.toInt ≤ 401) (p2 : -1 ≤ o_at.toInt) (p3 : o_at.toInt ≤ 400) (p4 : TKV g_oki g_ova g_opl o_tok.toInt) (p5 : x0.toInt = 1 ∨ x0.toInt = 3 → 0 ≤ x1.toInt ∧ x1.toInt ≤ 99999) (p6 : 0 ≤ x2.toInt) (p7 : x2.toInt ≤ 400) : KV l yX10_addToken cX10_addToken 4 0 0 D (kTY cy) [.ref o, .int x0, .int x1, .int x2] [(o, .inr (10, [.ref o_by, .int o_len, .ref o_ki, .ref o_va, .ref o_pl, .int o_tok, .int o_at, .int o_kind, .int o_value, .int o_place, .int o_fault])), (o_by, .inl (cy 0, 400, .inl g_oby)), (o_ki, .inl (cy 0, 401, .inl g_oki)), (o_va, .inl (cy 0, 401, .inl g_ova)), (o_pl, .inl (cy 0, 401, .inl g_opl))] (S := Int32 × (Nat → Int32) × (Nat → Int32) × (Nat → Int32)) (fun u => (0 ≤ (u.1).toInt) ∧ ((u.1).toInt ≤ 401) ∧ (TKV (u.2.1) (u.2.2.1) (u.2.2.2) (u.1).toInt)) (fun u => [(o, .inr (10, [.ref o_by, .int o_len, .ref o_ki, .ref o_va, .ref o_pl, .int (u.1), .int o_at, .int o_kind, .int o_value, .int o_place, .int o_fault])), (o_by, .inl (cy 0, 400, .inl g_oby)), (o_ki, .inl (cy 0, 401, .inl (u.2.1))), (o_va, .inl (cy 0, 401, .inl (u.2.2.1))), (o_pl, .inl (cy 0, 401, .inl (u.2.2.2)))]) 0 0 := by
  refine KV.of (by decide) (Nat.le_of_ble_eq_true rfl) (fun p e s m below meth c ls A F hin hE hP hD hA hS hl => ?_)
  have F : kF p s m meth c cX10_addToken 4 none _ RX10 := F
  obtain ⟨hx, hb, hr, hml, hown, hG, hlk⟩ := id F
  have hl : lv_has ls 4 [(0, .ref o), (1, .int x0), (2, .int x1), (3, .int x2)] := hl
  refine lv_aload_n hx hb dX10_addToken_0 rfl (lv_at hl 0 rfl) ?_
  refine va_get (D := D) (ci := 10) (v := .int o_tok) (C := RX10) (T := TX10) (N := 11) hx hb hG inG_X10 hown hE.1 hP 0 rfl rfl 5 (by decide) (hG _ q_f_X10_28) (fun _ h9 => h9) rfl dX10_addToken_1 ?_
  refine lv_sipush (v := 400) hx hb dX10_addToken_4 (by decide) ?_
  refine lv_icmp_gt (tgt := 50) hx hb dX10_addToken_7 (by decide) (fun c_1 => ?_) (fun c_1 => ?_)
  · have ic_1 : 400 < o_tok.toInt := k_lt c_1 (by decide) rfl
    exact KV.rt ⟨o_tok, g_oki, g_ova, g_opl⟩ F (hP.sub [0, 1, 2, 3, 4] rfl) (hD.sub [0, 1, 2, 3, 4] (by decide) rfl) hS (show (0 ≤ o_tok.toInt) ∧ (o_tok.toInt ≤ 401) ∧ (TKV g_oki g_ova g_opl o_tok.toInt) from ⟨(by first | omega | assumption), (by first | omega | assumption), (by first | exact p4 | exact TKV.push p4 o_tok x0 x1 x2 (by omega) (by omega) (by omega) (by omega))⟩) (Nat.le_of_ble_eq_true rfl) (Nat.le_of_ble_eq_true rfl) dX10_addToken_50
  · have ic_1 : o_tok.toInt ≤ 400 := k_nlt c_1 (by decide) rfl
    refine lv_aload_n hx hb dX10_addToken_10 rfl (lv_at hl 0 rfl) ?_
    refine va_get (D := D) (ci := 10) (v := .ref o_ki) (C := RX10) (T := TX10) (N := 11) hx hb hG inG_X10 hown hE.1 hP 0 rfl rfl 2 (by decide) (hG _ q_f_X10_19) (fun _ h9 => h9) rfl dX10_addToken_11 ?_
    refine lv_aload_n hx hb dX10_addToken_14 rfl (lv_at hl 0 rfl) ?_
    refine va_get (D := D) (ci := 10) (v := .int o_tok) (C := RX10) (T := TX10) (N := 11) hx hb hG inG_X10 hown hE.1 hP 0 rfl rfl 5 (by decide) (hG _ q_f_X10_28) (fun _ h9 => h9) rfl dX10_addToken_15 ?_
    refine lv_iload_n hx hb dX10_addToken_18 rfl (lv_at hl 1 rfl) ?_
    refine va_iast hx hb hE.1 hP hD hS 2 0 rfl rfl (k_in (by omega)) dX10_addToken_19 (fun H locs hP hD hS => ?_)
    have hP : va_P D vwCl [(o, .inr (10, [.ref o_by, .int o_len, .ref o_ki, .ref o_va, .ref o_pl, .int o_tok, .int o_at, .int o_kind, .int o_value, .int o_place, .int o_fault])), (o_by, .inl (cy 0, 400, .inl g_oby)), (o_ki, .inl (cy 0, 401, .inl (upd g_oki (Int32.toNatClampNeg o_tok) x0))), (o_va, .inl (cy 0, 401, .inl g_ova)), (o_pl, .inl (cy 0, 401, .inl g_opl))] H := hP
    have hD : va_D A [(o, .inr (10, [.ref o_by, .int o_len, .ref o_ki, .ref o_va, .ref o_pl, .int o_tok, .int o_at, .int o_kind, .int o_value, .int o_place, .int o_fault])), (o_by, .inl (cy 0, 400, .inl g_oby)), (o_ki, .inl (cy 0, 401, .inl (upd g_oki (Int32.toNatClampNeg o_tok) x0))), (o_va, .inl (cy 0, 401, .inl g_ova)), (o_pl, .inl (cy 0, 401, .inl g_opl))] := hD
    refine lv_aload_n hx hb dX10_addToken_20 rfl (lv_at hl 0 rfl) ?_
    refine va_get (D := D) (ci := 10) (v := .ref o_va) (C := RX10) (T := TX10) (N := 11) hx hb hG inG_X10 hown hE.1 hP 0 rfl rfl 3 (by decide) (hG _ q_f_X10_22) (fun _ h9 => h9) rfl dX10_addToken_21 ?_
    refine lv_aload_n hx hb dX10_addToken_24 rfl (lv_at hl 0 rfl) ?_
    refine va_get (D := D) (ci := 10) (v := .int o_tok) (C := RX10) (T := TX10) (N := 11) hx hb hG inG_X10 hown hE.1 hP 0 rfl rfl 5 (by decide) (hG _ q_f_X10_28) (fun _ h9 => h9) rfl dX10_addToken_25 ?_
    refine lv_iload_n hx hb dX10_addToken_28 rfl (lv_at hl 2 rfl) ?_
    refine va_iast hx hb hE.1 hP hD hS 3 0 rfl rfl (k_in (by omega)) dX10_addToken_29 (fun H locs hP hD hS => ?_)
    have hP : va_P D vwCl [(o, .inr (10, [.ref o_by, .int o_len, .ref o_ki, .ref o_va, .ref o_pl, .int o_tok, .int o_at, .int o_kind, .int o_value, .int o_place, .int o_fault])), (o_by, .inl (cy 0, 400, .inl g_oby)), (o_ki, .inl (cy 0, 401, .inl (upd g_oki (Int32.toNatClampNeg o_tok) x0))), (o_va, .inl (cy 0, 401, .inl (upd g_ova (Int32.toNatClampNeg o_tok) x1))), (o_pl, .inl (cy 0, 401, .inl g_opl))] H := hP
    have hD : va_D A [(o, .inr (10, [.ref o_by, .int o_len, .ref o_ki, .ref o_va, .ref o_pl, .int o_tok, .int o_at, .int o_kind, .int o_value, .int o_place, .int o_fault])), (o_by, .inl (cy 0, 400, .inl g_oby)), (o_ki, .inl (cy 0, 401, .inl (upd g_oki (Int32.toNatClampNeg o_tok) x0))), (o_va, .inl (cy 0, 401, .inl (upd g_ova (Int32.toNatClampNeg o_tok) x1))), (o_pl, .inl (cy 0, 401, .inl g_opl))] := hD
    refine lv_aload_n hx hb dX10_addToken_30 rfl (lv_at hl 0 rfl) ?_
    refine va_get (D := D) (ci := 10) (v := .ref o_pl) (C := RX10) (T := TX10) (N := 11) hx hb hG inG_X10 hown hE.1 hP 0 rfl rfl 4 (by decide) (hG _ q_f_X10_25) (fun _ h9 => h9) rfl dX10_addToken_31 ?_
    refine lv_aload_n hx hb dX10_addToken_34 rfl (lv_at hl 0 rfl) ?_
    refine va_get (D := D) (ci := 10) (v := .int o_tok) (C := RX10) (T := TX10) (N := 11) hx hb hG inG_X10 hown hE.1 hP 0 rfl rfl 5 (by decide) (hG _ q_f_X10_28) (fun _ h9 => h9) rfl dX10_addToken_35 ?_
    refine lv_iload_n hx hb dX10_addToken_38 rfl (lv_at hl 3 rfl) ?_
    refine va_iast hx hb hE.1 hP hD hS 4 0 rfl rfl (k_in (by omega)) dX10_addToken_39 (fun H locs hP hD hS => ?_)
    have hP : va_P D vwCl [(o, .inr (10, [.ref o_by, .int o_len, .ref o_ki, .ref o_va, .ref o_pl, .int o_tok, .int o_at, .int o_kind, .int o_value, .int o_place, .int o_fault])), (o_by, .inl (cy 0, 400, .inl g_oby)), (o_ki, .inl (cy 0, 401, .inl (upd g_oki (Int32.toNatClampNeg o_tok) x0))), (o_va, .inl (cy 0, 401, .inl (upd g_ova (Int32.toNatClampNeg o_tok) x1))), (o_pl, .inl (cy 0, 401, .inl (upd g_opl (Int32.toNatClampNeg o_tok) x2)))] H := hP
    have hD : va_D A [(o, .inr (10, [.ref o_by, .int o_len, .ref o_ki, .ref o_va, .ref o_pl, .int o_tok, .int o_at, .int o_kind, .int o_value, .int o_place, .int o_fault])), (o_by, .inl (cy 0, 400, .inl g_oby)), (o_ki, .inl (cy 0, 401, .inl (upd g_oki (Int32.toNatClampNeg o_tok) x0))), (o_va, .inl (cy 0, 401, .inl (upd g_ova (Int32.toNatClampNeg o_tok) x1))), (o_pl, .inl (cy 0, 401, .inl (upd g_opl (Int32.toNatClampNeg o_tok) x2)))] := hD
    refine lv_aload_n hx hb dX10_addToken_40 rfl (lv_at hl 0 rfl) ?_
    refine lv_dup hx hb dX10_addToken_41 rfl ?_
    refine va_get (D := D) (ci := 10) (v := .int o_tok) (C := RX10) (T := TX10) (N := 11) hx hb hG inG_X10 hown hE.1 hP 0 rfl rfl 5 (by decide) (hG _ q_f_X10_28) (fun _ h9 => h9) rfl dX10_addToken_42 ?_
    refine lv_iconst (v := 1) hx hb dX10_addToken_45 (by decide) ?_
    refine lv_iadd hx hb dX10_addToken_46 ?_
    refine lv_topi (fun z_5 ez_5 => ?_)
    have iz_5 : z_5.toInt = o_tok.toInt + 1 := k_addI ez_5 rfl (by decide) (by omega)
    refine va_put (D := D) (ci := 10) (v := .int z_5) (ty := .int) (C := RX10) (T := TX10) (N := 11) hx hb hG inG_X10 tyX10 tyX10_ok nmX10 hown hE.1 hP hD hS 0 rfl rfl 5 (by decide) (hG _ q_f_X10_28) (fun _ h9 => h9) rfl (by decide +kernel) rfl rfl (Nat.le_of_ble_eq_true rfl) dX10_addToken_47 (fun H locs hP hD hS => ?_)
    have hP : va_P D vwCl [(o, .inr (10, [.ref o_by, .int o_len, .ref o_ki, .ref o_va, .ref o_pl, .int z_5, .int o_at, .int o_kind, .int o_value, .int o_place, .int o_fault])), (o_by, .inl (cy 0, 400, .inl g_oby)), (o_ki, .inl (cy 0, 401, .inl (upd g_oki (Int32.toNatClampNeg o_tok) x0))), (o_va, .inl (cy 0, 401, .inl (upd g_ova (Int32.toNatClampNeg o_tok) x1))), (o_pl, .inl (cy 0, 401, .inl (upd g_opl (Int32.toNatClampNeg o_tok) x2)))] H := hP
    have hD : va_D A [(o, .inr (10, [.ref o_by, .int o_len, .ref o_ki, .ref o_va, .ref o_pl, .int z_5, .int o_at, .int o_kind, .int o_value, .int o_place, .int o_fault])), (o_by, .inl (cy 0, 400, .inl g_oby)), (o_ki, .inl (cy 0, 401, .inl (upd g_oki (Int32.toNatClampNeg o_tok) x0))), (o_va, .inl (cy 0, 401, .inl (upd g_ova (Int32.toNatClampNeg o_tok) x1))), (o_pl, .inl (cy 0, 401, .inl (upd g_opl (Int32.toNatClampNeg o_tok) x2)))] := hD
    exact KV.rt ⟨z_5, (upd g_oki (Int32.toNatClampNeg o_tok) x0), (upd g_ova (Int32.toNatClampNeg o_tok) x1), (upd g_opl (Int32.toNatClampNeg o_tok) x2)⟩ F (hP.sub [0, 1, 2, 3, 4] rfl) (hD.sub [0, 1, 2, 3, 4] (by decide) rfl) hS (show (0 ≤ z_5.toInt) ∧ (z_5.toInt ≤ 401) ∧ (TKV (upd g_oki (Int32.toNatClampNeg o_tok) x0) (upd g_ova (Int32.toNatClampNeg o_tok) x1) (upd g_opl (Int32.toNatClampNeg o_tok) x2) z_5.toInt) from ⟨(by first | omega | assumption), (by first | omega | assumption), (by first | exact p4 | exact TKV.push p4 o_tok x0 x1 x2 (by omega) (by omega) (by omega) (by omega))⟩) (Nat.le_of_ble_eq_true rfl) (Nat.le_of_ble_eq_true rfl) dX10_addToken_50

set_option maxHeartbeats 4000000 in
set_option maxRecDepth 100000 in
theorem cc_X10_hasNextClause (l : Launch) (D : va_G) (cy : Nat → ClassId) (o : Nat) (o_by : Nat) (o_ki : Nat) (o_va : Nat) (o_pl : Nat) (o_len : Int32) (o_tok : Int32) (o_at : Int32) (o_kind : Int32) (o_value : Int32) (o_place : Int32) (o_fault : Int32) (g_oby : Nat → Int32) (g_oki : Nat → Int32) (g_ova : Nat → Int32) (g_opl : Nat → Int32) (p0 : 0 ≤ o_tok.toInt) (p1 : o_tok.toInt ≤ 401) (p2 : -1 ≤ o_at.toInt) (p3 : o_at.toInt ≤ 400) (p4 : TKV g_oki g_ova g_opl o_tok.toInt) (p5 : o_kind.toInt = 1 ∨ o_kind.toInt = 3 → 0 ≤ o_value.toInt ∧ o_value.toInt ≤ 99999) (p6 : 0 ≤ o_place.toInt) (p7 : o_place.toInt ≤ 400) : KI l yX10_hasNextClause cX10_hasNextClause 2 (some .boolean) 1 22 D (kTY cy) [.ref o] [(o, .inr (10, [.ref o_by, .int o_len, .ref o_ki, .ref o_va, .ref o_pl, .int o_tok, .int o_at, .int o_kind, .int o_value, .int o_place, .int o_fault])), (o_by, .inl (cy 0, 400, .inl g_oby)), (o_ki, .inl (cy 0, 401, .inl g_oki)), (o_va, .inl (cy 0, 401, .inl g_ova)), (o_pl, .inl (cy 0, 401, .inl g_opl))] (S := Int32 × Int32 × Int32 × Int32 × Int32) (fun r u => (-1 ≤ (u.1).toInt) ∧ ((u.1).toInt ≤ 400) ∧ ((u.2.1).toInt = 1 ∨ (u.2.1).toInt = 3 → 0 ≤ (u.2.2.1).toInt ∧ (u.2.2.1).toInt ≤ 99999) ∧ (0 ≤ (u.2.2.2.1).toInt) ∧ ((u.2.2.2.1).toInt ≤ 400) ∧ ((u.2.2.2.2).toInt = 0 → o_fault.toInt = 0) ∧ (r.toInt = 0 ∨ r.toInt = 1) ∧ ((r.toInt ≠ 0 → (u.2.2.2.2).toInt = 0))) (fun u => [(o, .inr (10, [.ref o_by, .int o_len, .ref o_ki, .ref o_va, .ref o_pl, .int o_tok, .int (u.1), .int (u.2.1), .int (u.2.2.1), .int (u.2.2.2.1), .int (u.2.2.2.2)])), (o_by, .inl (cy 0, 400, .inl g_oby)), (o_ki, .inl (cy 0, 401, .inl g_oki)), (o_va, .inl (cy 0, 401, .inl g_ova)), (o_pl, .inl (cy 0, 401, .inl g_opl))]) 0 0 := by
  refine KI.of (by decide) (Nat.le_of_ble_eq_true rfl) (fun p e s m below meth c ls A F hE hP hD hA hS hl => ?_)
  have F : kF p s m meth c cX10_hasNextClause 2 (some .boolean) _ RX10 := F
  obtain ⟨hx, hb, hr, hml, hown, hG, hlk⟩ := id F
  have hl : lv_has ls 2 [(0, .ref o)] := hl
  refine lv_aload_n hx hb dX10_hasNextClause_0 rfl (lv_at hl 0 rfl) ?_
  refine lv_bipush (v := 59) hx hb dX10_hasNextClause_1 (by decide) ?_
  have lt32_0 : (59 : Int32).toInt = 59 := by decide
  refine kcV (As := [.int 59]) (rest := []) F hE hP hl.1 (cc_X10_isSign l D cy (o := o) (x0 := 59) (o_by := o_by) (o_len := o_len) (o_ki := o_ki) (o_va := o_va) (o_pl := o_pl) (o_tok := o_tok) (o_at := o_at) (o_kind := o_kind) (o_value := o_value) (o_place := o_place) (o_fault := o_fault)) q_m_X10_57 mv_X10_isSign ⟨(Nat.le_of_ble_eq_true rfl), (Nat.le_of_ble_eq_true rfl)⟩ [0] rfl rfl rfl rfl rfl rfl (Nat.le_of_ble_eq_true rfl) ⟨(Nat.le_of_ble_eq_true rfl), (Nat.le_of_ble_eq_true rfl)⟩ dX10_hasNextClause_3 (fun r_2 er_2 => ?_)
  have er_2 : (r_2.toInt = 0 ∨ r_2.toInt = 1) ∧ ((r_2.toInt ≠ 0 → o_kind.toInt = 4 ∧ o_value.toInt = (59 : Int32).toInt)) := er_2
  obtain ⟨er_2a, er_2b⟩ := er_2
  refine lv_istore_n (lv' := [(1, .int r_2), (0, .ref o)]) hx hb dX10_hasNextClause_6 rfl hl (by decide) rfl (fun ls hl => ?_)
  refine lv_iload_n hx hb dX10_hasNextClause_7 rfl (lv_at hl 0 rfl) ?_
  refine lv_if_eq (tgt := 18) hx hb dX10_hasNextClause_8 (by decide) (fun c_3 => ?_) (fun c_3 => ?_)
  · have ic_3 : r_2.toInt = 0 := k_eq c_3 rfl (by decide)
    clear er_2b er_2a
    refine lv_aload_n hx hb dX10_hasNextClause_18 rfl (lv_at hl 1 rfl) ?_
    refine va_get (D := D) (ci := 10) (v := .int o_kind) (C := RX10) (T := TX10) (N := 11) hx hb hG inG_X10 hown hE.1 hP 0 rfl rfl 7 (by decide) (hG _ q_f_X10_34) (fun _ h9 => h9) rfl dX10_hasNextClause_19 ?_
    refine lv_if_eq (tgt := 34) hx hb dX10_hasNextClause_22 (by decide) (fun c_4 => ?_) (fun c_4 => ?_)
    · have ic_4 : o_kind.toInt = 0 := k_eq c_4 rfl (by decide)
      refine lv_iload_n hx hb dX10_hasNextClause_34 rfl (lv_at hl 0 rfl) ?_
      refine lv_if_eq (tgt := 49) hx hb dX10_hasNextClause_35 (by decide) (fun c_5 => ?_) (fun c_5 => ?_)
      · have ic_5 : r_2.toInt = 0 := k_eq c_5 rfl (by decide)
        refine lv_iconst (v := 0) hx hb dX10_hasNextClause_49 (by decide) ?_
        have lit0 : (0 : Int32).toInt = 0 := by decide
        exact KI.rt ⟨o_at, o_kind, o_value, o_place, o_fault⟩ F rfl (hP.sub [0, 1, 2, 3, 4] rfl) (hD.sub [0, 1, 2, 3, 4] (by decide) rfl) hS (show (-1 ≤ o_at.toInt) ∧ (o_at.toInt ≤ 400) ∧ (o_kind.toInt = 1 ∨ o_kind.toInt = 3 → 0 ≤ o_value.toInt ∧ o_value.toInt ≤ 99999) ∧ (0 ≤ o_place.toInt) ∧ (o_place.toInt ≤ 400) ∧ (o_fault.toInt = 0 → o_fault.toInt = 0) ∧ ((0 : Int32).toInt = 0 ∨ (0 : Int32).toInt = 1) ∧ (((0 : Int32).toInt ≠ 0 → o_fault.toInt = 0)) from ⟨(by first | omega | assumption), (by first | omega | assumption), (by first | omega | assumption), (by first | omega | assumption), (by first | omega | assumption), (by first | omega | assumption), (by first | omega | assumption), (by first | omega | (intro lq; (first | omega | assumption | rfl | (exfalso; omega))))⟩) (Nat.le_of_ble_eq_true rfl) (Nat.le_of_ble_eq_true rfl) dX10_hasNextClause_50
      · have ic_5 : r_2.toInt ≠ 0 := k_ne c_5 rfl (by decide)
        refine lv_aload_n hx hb dX10_hasNextClause_38 rfl (lv_at hl 1 rfl) ?_
        refine va_get (D := D) (ci := 10) (v := .int o_fault) (C := RX10) (T := TX10) (N := 11) hx hb hG inG_X10 hown hE.1 hP 0 rfl rfl 10 (by decide) (hG _ q_f_X10_43) (fun _ h9 => h9) rfl dX10_hasNextClause_39 ?_
        refine lv_if_ne (tgt := 49) hx hb dX10_hasNextClause_42 (by decide) (fun c_6 => ?_) (fun c_6 => ?_)
        · have ic_6 : o_fault.toInt ≠ 0 := k_ne c_6 rfl (by decide)
          refine lv_iconst (v := 0) hx hb dX10_hasNextClause_49 (by decide) ?_
          have lit0 : (0 : Int32).toInt = 0 := by decide
          exact KI.rt ⟨o_at, o_kind, o_value, o_place, o_fault⟩ F rfl (hP.sub [0, 1, 2, 3, 4] rfl) (hD.sub [0, 1, 2, 3, 4] (by decide) rfl) hS (show (-1 ≤ o_at.toInt) ∧ (o_at.toInt ≤ 400) ∧ (o_kind.toInt = 1 ∨ o_kind.toInt = 3 → 0 ≤ o_value.toInt ∧ o_value.toInt ≤ 99999) ∧ (0 ≤ o_place.toInt) ∧ (o_place.toInt ≤ 400) ∧ (o_fault.toInt = 0 → o_fault.toInt = 0) ∧ ((0 : Int32).toInt = 0 ∨ (0 : Int32).toInt = 1) ∧ (((0 : Int32).toInt ≠ 0 → o_fault.toInt = 0)) from ⟨(by first | omega | assumption), (by first | omega | assumption), (by first | omega | assumption), (by first | omega | assumption), (by first | omega | assumption), (by first | omega | assumption), (by first | omega | assumption), (by first | omega | (intro lq; (first | omega | assumption | rfl | (exfalso; omega))))⟩) (Nat.le_of_ble_eq_true rfl) (Nat.le_of_ble_eq_true rfl) dX10_hasNextClause_50
        · have ic_6 : o_fault.toInt = 0 := k_eq c_6 rfl (by decide)
          refine lv_iconst (v := 1) hx hb dX10_hasNextClause_45 (by decide) ?_
          refine lv_goto (tgt := 50) hx hb dX10_hasNextClause_46 (by decide) ?_
          have lit0 : (1 : Int32).toInt = 1 := by decide
          exact KI.rt ⟨o_at, o_kind, o_value, o_place, o_fault⟩ F rfl (hP.sub [0, 1, 2, 3, 4] rfl) (hD.sub [0, 1, 2, 3, 4] (by decide) rfl) hS (show (-1 ≤ o_at.toInt) ∧ (o_at.toInt ≤ 400) ∧ (o_kind.toInt = 1 ∨ o_kind.toInt = 3 → 0 ≤ o_value.toInt ∧ o_value.toInt ≤ 99999) ∧ (0 ≤ o_place.toInt) ∧ (o_place.toInt ≤ 400) ∧ (o_fault.toInt = 0 → o_fault.toInt = 0) ∧ ((1 : Int32).toInt = 0 ∨ (1 : Int32).toInt = 1) ∧ (((1 : Int32).toInt ≠ 0 → o_fault.toInt = 0)) from ⟨(by first | omega | assumption), (by first | omega | assumption), (by first | omega | assumption), (by first | omega | assumption), (by first | omega | assumption), (by first | omega | assumption), (by first | omega | assumption), (by first | omega | (intro lq; (first | omega | assumption | rfl | (exfalso; omega))))⟩) (Nat.le_of_ble_eq_true rfl) (Nat.le_of_ble_eq_true rfl) dX10_hasNextClause_50
    · have ic_4 : o_kind.toInt ≠ 0 := k_ne c_4 rfl (by decide)
      refine lv_aload_n hx hb dX10_hasNextClause_25 rfl (lv_at hl 1 rfl) ?_
      refine lv_aload_n hx hb dX10_hasNextClause_26 rfl (lv_at hl 1 rfl) ?_
      refine va_get (D := D) (ci := 10) (v := .int o_place) (C := RX10) (T := TX10) (N := 11) hx hb hG inG_X10 hown hE.1 hP 0 rfl rfl 9 (by decide) (hG _ q_f_X10_40) (fun _ h9 => h9) rfl dX10_hasNextClause_27 ?_
      refine lv_iconst (v := 0) hx hb dX10_hasNextClause_30 (by decide) ?_
      have lt32_6 : (0 : Int32).toInt = 0 := by decide
      refine kwVV (wr := [(o_by, .inl (cy 0, 400, .inl g_oby)), (o_ki, .inl (cy 0, 401, .inl g_oki)), (o_va, .inl (cy 0, 401, .inl g_ova)), (o_pl, .inl (cy 0, 401, .inl g_opl))]) (As := [.int o_place, .int 0]) (rest := []) F hE hP hD hS hA hl.1 (cc_X10_failAt l D cy (o := o) (x0 := o_place) (x1 := 0) (o_by := o_by) (o_len := o_len) (o_ki := o_ki) (o_va := o_va) (o_pl := o_pl) (o_tok := o_tok) (o_at := o_at) (o_kind := o_kind) (o_value := o_value) (o_place := o_place) (o_fault := o_fault) (p0 := (by first | omega | assumption)) (p1 := (by first | omega | assumption)) (p2 := (by first | omega | assumption)) (p3 := (by first | omega | assumption))) q_m_X10_61 mv_X10_failAt ⟨(Nat.le_of_ble_eq_true rfl), (Nat.le_of_ble_eq_true rfl)⟩ [0] [1, 2, 3, 4] (by decide) rfl rfl (by decide) (by decide) rfl rfl rfl rfl rfl (Nat.le_of_ble_eq_true rfl) ⟨(Nat.le_of_ble_eq_true rfl), (Nat.le_of_ble_eq_true rfl)⟩ dX10_hasNextClause_31 (fun u_8 H locs eu_8 hP hD hS => ?_)
      have eu_8 : (u_8.toInt ≠ 0) := eu_8
      have hP : va_P D vwCl [(o_by, .inl (cy 0, 400, .inl g_oby)), (o_ki, .inl (cy 0, 401, .inl g_oki)), (o_va, .inl (cy 0, 401, .inl g_ova)), (o_pl, .inl (cy 0, 401, .inl g_opl)), (o, .inr (10, [.ref o_by, .int o_len, .ref o_ki, .ref o_va, .ref o_pl, .int o_tok, .int o_at, .int o_kind, .int o_value, .int o_place, .int u_8]))] H := hP
      have hD : va_D A [(o_by, .inl (cy 0, 400, .inl g_oby)), (o_ki, .inl (cy 0, 401, .inl g_oki)), (o_va, .inl (cy 0, 401, .inl g_ova)), (o_pl, .inl (cy 0, 401, .inl g_opl)), (o, .inr (10, [.ref o_by, .int o_len, .ref o_ki, .ref o_va, .ref o_pl, .int o_tok, .int o_at, .int o_kind, .int o_value, .int o_place, .int u_8]))] := hD
      refine lv_iload_n hx hb dX10_hasNextClause_34 rfl (lv_at hl 0 rfl) ?_
      refine lv_if_eq (tgt := 49) hx hb dX10_hasNextClause_35 (by decide) (fun c_10 => ?_) (fun c_10 => ?_)
      · have ic_10 : r_2.toInt = 0 := k_eq c_10 rfl (by decide)
        refine lv_iconst (v := 0) hx hb dX10_hasNextClause_49 (by decide) ?_
        have lit0 : (0 : Int32).toInt = 0 := by decide
        exact KI.rt ⟨o_at, o_kind, o_value, o_place, u_8⟩ F rfl (hP.sub [4, 0, 1, 2, 3] rfl) (hD.sub [4, 0, 1, 2, 3] (by decide) rfl) hS (show (-1 ≤ o_at.toInt) ∧ (o_at.toInt ≤ 400) ∧ (o_kind.toInt = 1 ∨ o_kind.toInt = 3 → 0 ≤ o_value.toInt ∧ o_value.toInt ≤ 99999) ∧ (0 ≤ o_place.toInt) ∧ (o_place.toInt ≤ 400) ∧ (u_8.toInt = 0 → o_fault.toInt = 0) ∧ ((0 : Int32).toInt = 0 ∨ (0 : Int32).toInt = 1) ∧ (((0 : Int32).toInt ≠ 0 → u_8.toInt = 0)) from ⟨(by first | omega | assumption), (by first | omega | assumption), (by first | omega | assumption), (by first | omega | assumption), (by first | omega | assumption), (by first | omega | assumption), (by first | omega | assumption), (by first | omega | (intro lq; (first | omega | assumption | rfl | (exfalso; omega))))⟩) (Nat.le_of_ble_eq_true rfl) (Nat.le_of_ble_eq_true rfl) dX10_hasNextClause_50
      · have ic_10 : r_2.toInt ≠ 0 := k_ne c_10 rfl (by decide)
        refine lv_aload_n hx hb dX10_hasNextClause_38 rfl (lv_at hl 1 rfl) ?_
        refine va_get (D := D) (ci := 10) (v := .int u_8) (C := RX10) (T := TX10) (N := 11) hx hb hG inG_X10 hown hE.1 hP 4 rfl rfl 10 (by decide) (hG _ q_f_X10_43) (fun _ h9 => h9) rfl dX10_hasNextClause_39 ?_
        refine lv_if_ne (tgt := 49) hx hb dX10_hasNextClause_42 (by decide) (fun c_11 => ?_) (fun c_11 => ?_)
        · have ic_11 : u_8.toInt ≠ 0 := k_ne c_11 rfl (by decide)
          refine lv_iconst (v := 0) hx hb dX10_hasNextClause_49 (by decide) ?_
          have lit0 : (0 : Int32).toInt = 0 := by decide
          exact KI.rt ⟨o_at, o_kind, o_value, o_place, u_8⟩ F rfl (hP.sub [4, 0, 1, 2, 3] rfl) (hD.sub [4, 0, 1, 2, 3] (by decide) rfl) hS (show (-1 ≤ o_at.toInt) ∧ (o_at.toInt ≤ 400) ∧ (o_kind.toInt = 1 ∨ o_kind.toInt = 3 → 0 ≤ o_value.toInt ∧ o_value.toInt ≤ 99999) ∧ (0 ≤ o_place.toInt) ∧ (o_place.toInt ≤ 400) ∧ (u_8.toInt = 0 → o_fault.toInt = 0) ∧ ((0 : Int32).toInt = 0 ∨ (0 : Int32).toInt = 1) ∧ (((0 : Int32).toInt ≠ 0 → u_8.toInt = 0)) from ⟨(by first | omega | assumption), (by first | omega | assumption), (by first | omega | assumption), (by first | omega | assumption), (by first | omega | assumption), (by first | omega | assumption), (by first | omega | assumption), (by first | omega | (intro lq; (first | omega | assumption | rfl | (exfalso; omega))))⟩) (Nat.le_of_ble_eq_true rfl) (Nat.le_of_ble_eq_true rfl) dX10_hasNextClause_50
        · have ic_11 : u_8.toInt = 0 := k_eq c_11 rfl (by decide)
          refine lv_iconst (v := 1) hx hb dX10_hasNextClause_45 (by decide) ?_
          refine lv_goto (tgt := 50) hx hb dX10_hasNextClause_46 (by decide) ?_
          have lit0 : (1 : Int32).toInt = 1 := by decide
          exact KI.rt ⟨o_at, o_kind, o_value, o_place, u_8⟩ F rfl (hP.sub [4, 0, 1, 2, 3] rfl) (hD.sub [4, 0, 1, 2, 3] (by decide) rfl) hS (show (-1 ≤ o_at.toInt) ∧ (o_at.toInt ≤ 400) ∧ (o_kind.toInt = 1 ∨ o_kind.toInt = 3 → 0 ≤ o_value.toInt ∧ o_value.toInt ≤ 99999) ∧ (0 ≤ o_place.toInt) ∧ (o_place.toInt ≤ 400) ∧ (u_8.toInt = 0 → o_fault.toInt = 0) ∧ ((1 : Int32).toInt = 0 ∨ (1 : Int32).toInt = 1) ∧ (((1 : Int32).toInt ≠ 0 → u_8.toInt = 0)) from ⟨(by first | omega | assumption), (by first | omega | assumption), (by first | omega | assumption), (by first | omega | assumption), (by first | omega | assumption), (by first | omega | assumption), (by first | omega | assumption), (by first | omega | (intro lq; (first | omega | assumption | rfl | (exfalso; omega))))⟩) (Nat.le_of_ble_eq_true rfl) (Nat.le_of_ble_eq_true rfl) dX10_hasNextClause_50
  · have ic_3 : r_2.toInt ≠ 0 := k_ne c_3 rfl (by decide)
    have fc_3 := er_2b ic_3
    clear er_2b er_2a
    obtain ⟨fc_3a, fc_3b⟩ := fc_3
    refine lv_aload_n hx hb dX10_hasNextClause_11 rfl (lv_at hl 1 rfl) ?_
    refine kwVV (wr := []) (As := []) (rest := []) F hE hP hD hS hA hl.1 (cc_X10_advance l D cy (o := o) (o_by := o_by) (o_len := o_len) (o_ki := o_ki) (o_va := o_va) (o_pl := o_pl) (o_tok := o_tok) (o_at := o_at) (o_kind := o_kind) (o_value := o_value) (o_place := o_place) (o_fault := o_fault) (g_oby := g_oby) (g_oki := g_oki) (g_ova := g_ova) (g_opl := g_opl) (p0 := (by first | omega | assumption)) (p1 := (by first | omega | assumption)) (p2 := (by first | omega | assumption)) (p3 := (by first | omega | assumption)) (p4 := (by first | omega | assumption)) (p5 := (by first | omega | assumption)) (p6 := (by first | omega | assumption)) (p7 := (by first | omega | assumption))) q_m_X10_54 mv_X10_advance ⟨(Nat.le_of_ble_eq_true rfl), (Nat.le_of_ble_eq_true rfl)⟩ [0, 1, 2, 3, 4] [] (by decide) rfl rfl (by decide) (by decide) rfl rfl rfl rfl rfl (Nat.le_of_ble_eq_true rfl) ⟨(Nat.le_of_ble_eq_true rfl), (Nat.le_of_ble_eq_true rfl)⟩ dX10_hasNextClause_12 (fun u_12 H locs eu_12 hP hD hS => ?_)
    obtain ⟨o_at_13, o_kind_14, o_value_15, o_place_16⟩ := u_12
    have eu_12 : (-1 ≤ o_at_13.toInt) ∧ (o_at_13.toInt ≤ 400) ∧ (o_kind_14.toInt = 1 ∨ o_kind_14.toInt = 3 → 0 ≤ o_value_15.toInt ∧ o_value_15.toInt ≤ 99999) ∧ (0 ≤ o_place_16.toInt) ∧ (o_place_16.toInt ≤ 400) := eu_12
    obtain ⟨eu_12a, eu_12b, eu_12c, eu_12d, eu_12e⟩ := eu_12
    have hP : va_P D vwCl [(o, .inr (10, [.ref o_by, .int o_len, .ref o_ki, .ref o_va, .ref o_pl, .int o_tok, .int o_at_13, .int o_kind_14, .int o_value_15, .int o_place_16, .int o_fault])), (o_by, .inl (cy 0, 400, .inl g_oby)), (o_ki, .inl (cy 0, 401, .inl g_oki)), (o_va, .inl (cy 0, 401, .inl g_ova)), (o_pl, .inl (cy 0, 401, .inl g_opl))] H := hP
    have hD : va_D A [(o, .inr (10, [.ref o_by, .int o_len, .ref o_ki, .ref o_va, .ref o_pl, .int o_tok, .int o_at_13, .int o_kind_14, .int o_value_15, .int o_place_16, .int o_fault])), (o_by, .inl (cy 0, 400, .inl g_oby)), (o_ki, .inl (cy 0, 401, .inl g_oki)), (o_va, .inl (cy 0, 401, .inl g_ova)), (o_pl, .inl (cy 0, 401, .inl g_opl))] := hD
    refine lv_goto (tgt := 34) hx hb dX10_hasNextClause_15 (by decide) ?_
    refine lv_iload_n hx hb dX10_hasNextClause_34 rfl (lv_at hl 0 rfl) ?_
    refine lv_if_eq (tgt := 49) hx hb dX10_hasNextClause_35 (by decide) (fun c_17 => ?_) (fun c_17 => ?_)
    · have ic_17 : r_2.toInt = 0 := k_eq c_17 rfl (by decide)
      refine lv_iconst (v := 0) hx hb dX10_hasNextClause_49 (by decide) ?_
      have lit0 : (0 : Int32).toInt = 0 := by decide
      exact KI.rt ⟨o_at_13, o_kind_14, o_value_15, o_place_16, o_fault⟩ F rfl (hP.sub [0, 1, 2, 3, 4] rfl) (hD.sub [0, 1, 2, 3, 4] (by decide) rfl) hS (show (-1 ≤ o_at_13.toInt) ∧ (o_at_13.toInt ≤ 400) ∧ (o_kind_14.toInt = 1 ∨ o_kind_14.toInt = 3 → 0 ≤ o_value_15.toInt ∧ o_value_15.toInt ≤ 99999) ∧ (0 ≤ o_place_16.toInt) ∧ (o_place_16.toInt ≤ 400) ∧ (o_fault.toInt = 0 → o_fault.toInt = 0) ∧ ((0 : Int32).toInt = 0 ∨ (0 : Int32).toInt = 1) ∧ (((0 : Int32).toInt ≠ 0 → o_fault.toInt = 0)) from ⟨(by first | omega | assumption), (by first | omega | assumption), (by first | omega | assumption), (by first | omega | assumption), (by first | omega | assumption), (by first | omega | assumption), (by first | omega | assumption), (by first | omega | (intro lq; (first | omega | assumption | rfl | (exfalso; omega))))⟩) (Nat.le_of_ble_eq_true rfl) (Nat.le_of_ble_eq_true rfl) dX10_hasNextClause_50
    · have ic_17 : r_2.toInt ≠ 0 := k_ne c_17 rfl (by decide)
      refine lv_aload_n hx hb dX10_hasNextClause_38 rfl (lv_at hl 1 rfl) ?_
      refine va_get (D := D) (ci := 10) (v := .int o_fault) (C := RX10) (T := TX10) (N := 11) hx hb hG inG_X10 hown hE.1 hP 0 rfl rfl 10 (by decide) (hG _ q_f_X10_43) (fun _ h9 => h9) rfl dX10_hasNextClause_39 ?_
      refine lv_if_ne (tgt := 49) hx hb dX10_hasNextClause_42 (by decide) (fun c_18 => ?_) (fun c_18 => ?_)
      · have ic_18 : o_fault.toInt ≠ 0 := k_ne c_18 rfl (by decide)
        refine lv_iconst (v := 0) hx hb dX10_hasNextClause_49 (by decide) ?_
        have lit0 : (0 : Int32).toInt = 0 := by decide
        exact KI.rt ⟨o_at_13, o_kind_14, o_value_15, o_place_16, o_fault⟩ F rfl (hP.sub [0, 1, 2, 3, 4] rfl) (hD.sub [0, 1, 2, 3, 4] (by decide) rfl) hS (show (-1 ≤ o_at_13.toInt) ∧ (o_at_13.toInt ≤ 400) ∧ (o_kind_14.toInt = 1 ∨ o_kind_14.toInt = 3 → 0 ≤ o_value_15.toInt ∧ o_value_15.toInt ≤ 99999) ∧ (0 ≤ o_place_16.toInt) ∧ (o_place_16.toInt ≤ 400) ∧ (o_fault.toInt = 0 → o_fault.toInt = 0) ∧ ((0 : Int32).toInt = 0 ∨ (0 : Int32).toInt = 1) ∧ (((0 : Int32).toInt ≠ 0 → o_fault.toInt = 0)) from ⟨(by first | omega | assumption), (by first | omega | assumption), (by first | omega | assumption), (by first | omega | assumption), (by first | omega | assumption), (by first | omega | assumption), (by first | omega | assumption), (by first | omega | (intro lq; (first | omega | assumption | rfl | (exfalso; omega))))⟩) (Nat.le_of_ble_eq_true rfl) (Nat.le_of_ble_eq_true rfl) dX10_hasNextClause_50
      · have ic_18 : o_fault.toInt = 0 := k_eq c_18 rfl (by decide)
        refine lv_iconst (v := 1) hx hb dX10_hasNextClause_45 (by decide) ?_
        refine lv_goto (tgt := 50) hx hb dX10_hasNextClause_46 (by decide) ?_
        have lit0 : (1 : Int32).toInt = 1 := by decide
        exact KI.rt ⟨o_at_13, o_kind_14, o_value_15, o_place_16, o_fault⟩ F rfl (hP.sub [0, 1, 2, 3, 4] rfl) (hD.sub [0, 1, 2, 3, 4] (by decide) rfl) hS (show (-1 ≤ o_at_13.toInt) ∧ (o_at_13.toInt ≤ 400) ∧ (o_kind_14.toInt = 1 ∨ o_kind_14.toInt = 3 → 0 ≤ o_value_15.toInt ∧ o_value_15.toInt ≤ 99999) ∧ (0 ≤ o_place_16.toInt) ∧ (o_place_16.toInt ≤ 400) ∧ (o_fault.toInt = 0 → o_fault.toInt = 0) ∧ ((1 : Int32).toInt = 0 ∨ (1 : Int32).toInt = 1) ∧ (((1 : Int32).toInt ≠ 0 → o_fault.toInt = 0)) from ⟨(by first | omega | assumption), (by first | omega | assumption), (by first | omega | assumption), (by first | omega | assumption), (by first | omega | assumption), (by first | omega | assumption), (by first | omega | assumption), (by first | omega | (intro lq; (first | omega | assumption | rfl | (exfalso; omega))))⟩) (Nat.le_of_ble_eq_true rfl) (Nat.le_of_ble_eq_true rfl) dX10_hasNextClause_50
