/-- the steps so far are good, and so is what is asked beside -/
def SPS (G : Prop) (g : Nat → Int32) (k : Int) : Prop := G ∧ ∀ j : Nat, (j : Int) < k → 0 ≤ (g j).toInt
theorem SPS.zero {G : Prop} {g : Nat → Int32} {k : Int} (hG : G) (h : k ≤ 0) : SPS G g k := ⟨hG, fun j q => by omega⟩
theorem SPS.put {G : Prop} {g : Nat → Int32} {k k' : Int} (h : SPS G g k) (z v : Int32) (hz : z.toInt = k ∧ 0 ≤ k) (hk : k' = k + 1) (hv : 0 ≤ v.toInt) : SPS G (upd g z.toNatClampNeg v) k' := ⟨h.1, fun j q => by
  by_cases e : j = z.toNatClampNeg
  · rw [e, k_upd_eq]; exact hv
  · rw [k_upd_ne e]; exact h.2 j (by rw [k_cl] at e; omega)⟩
theorem SPS.weak {G P : Prop} {g : Nat → Int32} {k : Int} (h : SPS (G ∧ P) g k) : SPS G g k := ⟨h.1.1, h.2⟩
theorem SPS.more {G P : Prop} {g : Nat → Int32} {k : Int} (h : SPS G g k) (hp : P) : SPS (G ∧ P) g k := ⟨⟨h.1, hp⟩, h.2⟩

set_option maxHeartbeats 4000000 in
set_option maxRecDepth 100000 in
theorem cc_X8_addStep (l : Launch) (D : va_G) (cy : Nat → ClassId) (o : Nat) (o_st : Nat) (o_size : Int32) (o_parts : Int32) (g_ost : Nat → Int32) (x0 : Int32) (x1 : Int32) (G : Prop) (p0 : 0 ≤ o_size.toInt) (p1 : o_size.toInt ≤ 412) (p2 : -1 ≤ x0.toInt) (p3 : x0.toInt ≤ 16) (p4 : 0 ≤ x1.toInt) (p5 : x1.toInt ≤ 99999) : KV l yX8_addStep cX8_addStep 3 0 0 D (kTY cy) [.ref o, .int x0, .int x1] [(o, .inr (8, [.ref o_st, .int o_size, .int o_parts])), (o_st, .inl (cy 0, 412, .inl g_ost))] (S := Int32 × (Nat → Int32)) (fun u => (0 ≤ (u.1).toInt) ∧ ((u.1).toInt ≤ 412) ∧ (0 ≤ x0.toInt → SPS G g_ost o_size.toInt → SPS G (u.2) (u.1).toInt)) (fun u => [(o, .inr (8, [.ref o_st, .int (u.1), .int o_parts])), (o_st, .inl (cy 0, 412, .inl (u.2)))]) 0 0 := by
  refine KV.of (by decide) (Nat.le_of_ble_eq_true rfl) (fun p e s m below meth c ls A F hin hE hP hD hA hS hl => ?_)
  have F : kF p s m meth c cX8_addStep 3 none _ RX8 := F
  obtain ⟨hx, hb, hr, hml, hown, hG, hlk⟩ := id F
  have hl : lv_has ls 3 [(0, .ref o), (1, .int x0), (2, .int x1)] := hl
  refine lv_aload_n hx hb dX8_addStep_0 rfl (lv_at hl 0 rfl) ?_
  refine va_get (D := D) (ci := 8) (v := .int o_size) (C := RX8) (T := TX8) (N := 3) hx hb hG inG_X8 hown hE.1 hP 0 rfl rfl 1 (by decide) (hG _ q_f_X8_17) (fun _ h9 => h9) rfl dX8_addStep_1 ?_
  refine lv_sipush (v := 412) hx hb dX8_addStep_4 (by decide) ?_
  refine lv_icmp_ge (tgt := 35) hx hb dX8_addStep_7 (by decide) (fun c_1 => ?_) (fun c_1 => ?_)
  · have ic_1 : 412 ≤ o_size.toInt := k_le c_1 (by decide) rfl
    exact KV.rt ⟨o_size, g_ost⟩ F (hP.sub [0, 1] rfl) (hD.sub [0, 1] (by decide) rfl) hS (show (0 ≤ o_size.toInt) ∧ (o_size.toInt ≤ 412) ∧ (0 ≤ x0.toInt → SPS G g_ost o_size.toInt → SPS G g_ost o_size.toInt) from ⟨(by first | omega | assumption), (by first | omega | assumption), (by first | exact fun _ h => h | exact fun q h => SPS.put h o_size _ (by omega) (by omega) (by omega))⟩) (Nat.le_of_ble_eq_true rfl) (Nat.le_of_ble_eq_true rfl) dX8_addStep_35
  · have ic_1 : o_size.toInt < 412 := k_nle c_1 (by decide) rfl
    refine lv_aload_n hx hb dX8_addStep_10 rfl (lv_at hl 0 rfl) ?_
    refine va_get (D := D) (ci := 8) (v := .ref o_st) (C := RX8) (T := TX8) (N := 3) hx hb hG inG_X8 hown hE.1 hP 0 rfl rfl 0 (by decide) (hG _ q_f_X8_13) (fun _ h9 => h9) rfl dX8_addStep_11 ?_
    refine lv_aload_n hx hb dX8_addStep_14 rfl (lv_at hl 0 rfl) ?_
    refine va_get (D := D) (ci := 8) (v := .int o_size) (C := RX8) (T := TX8) (N := 3) hx hb hG inG_X8 hown hE.1 hP 0 rfl rfl 1 (by decide) (hG _ q_f_X8_17) (fun _ h9 => h9) rfl dX8_addStep_15 ?_
    refine lv_iload_n hx hb dX8_addStep_18 rfl (lv_at hl 1 rfl) ?_
    refine lv_bipush (v := 32) hx hb dX8_addStep_19 (by decide) ?_
    refine lv_iload_n hx hb dX8_addStep_21 rfl (lv_at hl 2 rfl) ?_
    refine lv_imul hx hb dX8_addStep_22 ?_
    refine lv_topi (fun z_2 ez_2 => ?_)
    have iz_2 : z_2.toInt = 32 * x1.toInt := k_mulI ez_2 (by decide) rfl (by omega)
    refine lv_iadd hx hb dX8_addStep_23 ?_
    refine lv_topi (fun z_3 ez_3 => ?_)
    have iz_3 : z_3.toInt = x0.toInt + z_2.toInt := k_addI ez_3 rfl rfl (by omega)
    refine va_iast hx hb hE.1 hP hD hS 1 0 rfl rfl (k_in (by omega)) dX8_addStep_24 (fun H locs hP hD hS => ?_)
    have hP : va_P D vwCl [(o, .inr (8, [.ref o_st, .int o_size, .int o_parts])), (o_st, .inl (cy 0, 412, .inl (upd g_ost (Int32.toNatClampNeg o_size) z_3)))] H := hP
    have hD : va_D A [(o, .inr (8, [.ref o_st, .int o_size, .int o_parts])), (o_st, .inl (cy 0, 412, .inl (upd g_ost (Int32.toNatClampNeg o_size) z_3)))] := hD
    refine lv_aload_n hx hb dX8_addStep_25 rfl (lv_at hl 0 rfl) ?_
    refine lv_dup hx hb dX8_addStep_26 rfl ?_
    refine va_get (D := D) (ci := 8) (v := .int o_size) (C := RX8) (T := TX8) (N := 3) hx hb hG inG_X8 hown hE.1 hP 0 rfl rfl 1 (by decide) (hG _ q_f_X8_17) (fun _ h9 => h9) rfl dX8_addStep_27 ?_
    refine lv_iconst (v := 1) hx hb dX8_addStep_30 (by decide) ?_
    refine lv_iadd hx hb dX8_addStep_31 ?_
    refine lv_topi (fun z_5 ez_5 => ?_)
    have iz_5 : z_5.toInt = o_size.toInt + 1 := k_addI ez_5 rfl (by decide) (by omega)
    refine va_put (D := D) (ci := 8) (v := .int z_5) (ty := .int) (C := RX8) (T := TX8) (N := 3) hx hb hG inG_X8 tyX8 tyX8_ok nmX8 hown hE.1 hP hD hS 0 rfl rfl 1 (by decide) (hG _ q_f_X8_17) (fun _ h9 => h9) rfl (by decide +kernel) rfl rfl (Nat.le_of_ble_eq_true rfl) dX8_addStep_32 (fun H locs hP hD hS => ?_)
    have hP : va_P D vwCl [(o, .inr (8, [.ref o_st, .int z_5, .int o_parts])), (o_st, .inl (cy 0, 412, .inl (upd g_ost (Int32.toNatClampNeg o_size) z_3)))] H := hP
    have hD : va_D A [(o, .inr (8, [.ref o_st, .int z_5, .int o_parts])), (o_st, .inl (cy 0, 412, .inl (upd g_ost (Int32.toNatClampNeg o_size) z_3)))] := hD
    exact KV.rt ⟨z_5, (upd g_ost (Int32.toNatClampNeg o_size) z_3)⟩ F (hP.sub [0, 1] rfl) (hD.sub [0, 1] (by decide) rfl) hS (show (0 ≤ z_5.toInt) ∧ (z_5.toInt ≤ 412) ∧ (0 ≤ x0.toInt → SPS G g_ost o_size.toInt → SPS G (upd g_ost (Int32.toNatClampNeg o_size) z_3) z_5.toInt) from ⟨(by first | omega | assumption), (by first | omega | assumption), (by first | exact fun _ h => h | exact fun q h => SPS.put h o_size _ (by omega) (by omega) (by omega))⟩) (Nat.le_of_ble_eq_true rfl) (Nat.le_of_ble_eq_true rfl) dX8_addStep_35
