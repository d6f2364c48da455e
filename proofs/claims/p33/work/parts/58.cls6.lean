section KAR
variable {p : Program} {l : Launch} {e : Env} {R : Room} {s : State} {m : MethodId} {args : Array Value} {below : List Frame} {meth : Method} {c : Code} {H : Heap} {locs : List Loc} {cells slots : Nat} {Q : State → Prop}
variable {cc : ByteArray} {pc : Nat} {ls : Array Slot} {rest : List Value} {D : va_G} {cl : List vw_C} {a : Nat} {tys : List (ClassId × FieldType)} {ws : va_W}
theorem k_aldr (hexec : p.tables.exec = Jvm.exec) (hb : c.code = cc) (hK : va_K D cl tys s) (hP : va_P D cl ws H) (q0 t0 : Nat) {cA : ClassId} {t : FieldType} {n : Nat} {f : Nat → Option Nat} (ha : ws[q0]? = some (a, .inl (cA, n, .inr (.inr (.inr (.inr f)))))) (ht : tys[t0]? = some (cA, .array t)) {i : Int32} (hin : vp_in i n) (hdg : decode cc pc = .ok (.aaload, 1))
    (kk : W p l e R s m args below meth c H locs cells slots Q (F0 m (pc + 1) ls (va_rf (f i.toNatClampNeg) :: rest))) : W p l e R s m args below meth c H locs cells slots Q (F0 m pc ls (.int i :: .ref a :: rest)) := by
  have hlt : i.toNatClampNeg < n := Nat.not_le.mp fun q => hin (Or.inr q)
  exact W.aald (v := va_rf (f i.toNatClampNeg)) (ty := .array t) hexec hb (hP q0 _ ha) ((hK.2 t0 _ ht).1 n (fun j => va_rf (f j))) rfl (fun q => by cases q) (by show ¬ (i < 0 ∨ (arrV _ _ _).slots.size ≤ _); rw [arrV_size]; exact hin) (by show (arrV _ _ _).slots[_]? = _; rw [arrV_read _ _ hlt]) rfl rfl hdg kk
end KAR
def RAll (T : va_W) (cA : ClassId) (f : Nat → Option Nat) : Prop := ∀ i : Nat, i < 6 → RIn T cA (va_rf (f i))

set_option maxHeartbeats 4000000 in
set_option maxRecDepth 100000 in
theorem cc_X9_fits (l : Launch) (D : va_G) (cy : Nat → ClassId) {Z : (Nat → Prop) → State → Heap → Prop} (hz : zOK Z) {TT : va_W} (zt : ∀ (A : Nat → Prop) (U : State) (H : Heap), Z A U H → va_P D vwCl TT H) (q : Nat) (qf : Nat) (qf_c : Nat) (g_qf : Nat → Int32) (q_ca : Nat) (q_bo : Nat) (q_wd : Nat) (q_sk : Nat) (q_gust : Int32) (q_still : Int32) (q_rv : Value) (g_qca : Nat → Int32) (g_qbo : Nat → Int32) (g_qwd : Nat → Int64) (g_qsk : Nat → Int64) (v : Nat) (v_r : Nat) (v_a : Nat) (v_p : Nat) (v_size : Int32) (g_vr : Nat → Int32) (g_va : Nat → Int32) (g_vp : Nat → Int32) (w : Nat) (g_w : Nat → Int32) (x0 : Int32) (h_g_qf : FV g_qf) (h_g_qbo : PLV g_qbo) (h_g_vr : NRV g_vr) (h_g_va : NV g_va) (hrv : RIn TT (cy 0) q_rv) (p0 : 0 ≤ v_size.toInt) (p1 : v_size.toInt ≤ 10) (p2 : x0.toInt ≤ 100) : JI l yX9_fits cX9_fits 6 (some .boolean) 5 126 D (kTY cy) [.ref q, .ref v, .int x0, .ref w] [(q, .inr (6, [.ref qf, .ref q_ca, .ref q_bo, .int q_gust, .int q_still, q_rv, .ref q_wd, .ref q_sk])), (qf, .inr (1, [.ref qf_c])), (qf_c, .inl (cy 0, 63, .inl g_qf)), (q_ca, .inl (cy 0, 5, .inl g_qca)), (q_bo, .inl (cy 0, 5, .inl g_qbo)), (q_wd, .inl (cy 1, 13, .inr (.inl g_qwd))), (q_sk, .inl (cy 1, 64, .inr (.inl g_qsk))), (v, .inr (5, [.ref v_r, .ref v_a, .ref v_p, .int v_size])), (v_r, .inl (cy 0, 10, .inl g_vr)), (v_a, .inl (cy 0, 10, .inl g_va)), (v_p, .inl (cy 0, 10, .inl g_vp)), (w, .inl (cy 0, 5, .inl g_w))] Z (S := (Nat → Int32) × Int32 × (Nat → Int32) × (Nat → Int64) × (Nat → Int64) × (Nat → Int32)) (fun r u => FV (u.1) ∧ (r.toInt = 0 ∨ r.toInt = 1)) (fun u => [(q, .inr (6, [.ref qf, .ref q_ca, .ref q_bo, .int q_gust, .int (u.2.1), q_rv, .ref q_wd, .ref q_sk])), (qf, .inr (1, [.ref qf_c])), (qf_c, .inl (cy 0, 63, .inl (u.1))), (q_ca, .inl (cy 0, 5, .inl (u.2.2.1))), (q_bo, .inl (cy 0, 5, .inl g_qbo)), (q_wd, .inl (cy 1, 13, .inr (.inl (u.2.2.2.1)))), (q_sk, .inl (cy 1, 64, .inr (.inl (u.2.2.2.2.1)))), (v, .inr (5, [.ref v_r, .ref v_a, .ref v_p, .int v_size])), (v_r, .inl (cy 0, 10, .inl g_vr)), (v_a, .inl (cy 0, 10, .inl g_va)), (v_p, .inl (cy 0, 10, .inl g_vp)), (w, .inl (cy 0, 5, .inl (u.2.2.2.2.2)))]) 0 0 := by
  refine JI.of (by decide) (Nat.le_of_ble_eq_true rfl) (fun p e s m below meth c ls A F hE hP hD hA hS hl hZ => ?_)
  have F : kF p s m meth c cX9_fits 6 (some .boolean) _ RX9 := F
  obtain ⟨hx, hb, hr, hml, hown, hG, hlk⟩ := id F
  have hl : lv_has ls 6 [(0, .ref q), (1, .ref v), (2, .int x0), (3, .ref w)] := hl
  obtain ⟨⟨b_1a, b_1b⟩, ⟨b_1c, b_1d⟩, ⟨b_1e, b_1f⟩⟩ := FV.bounds h_g_qf
  refine lv_iload_n hx hb dX9_fits_0 rfl (lv_at hl 2 rfl) ?_
  refine lv_aload_n hx hb dX9_fits_1 rfl (lv_at hl 1 rfl) ?_
  refine kcV (As := []) (rest := [.int x0]) F hE hP hl.1 (cc_X5_lastRound l D cy (o := v) (o_r := v_r) (o_a := v_a) (o_p := v_p) (o_size := v_size) (g_or := g_vr) (g_oa := g_va) (g_op := g_vp) (h_g_or := h_g_vr) (h_g_oa := h_g_va) (p0 := (by first | omega | assumption)) (p1 := (by first | omega | assumption))) q_m_X9_56 mv_X5_lastRound ⟨(Nat.le_of_ble_eq_true rfl), (Nat.le_of_ble_eq_true rfl)⟩ [7, 8, 9, 10] rfl rfl rfl rfl rfl rfl (Nat.le_of_ble_eq_true rfl) ⟨(Nat.le_of_ble_eq_true rfl), (Nat.le_of_ble_eq_true rfl)⟩ dX9_fits_2 (fun r_2 er_2 => ?_)
  have er_2 : (-1 ≤ r_2.toInt) ∧ (r_2.toInt ≤ 40) := er_2
  obtain ⟨er_2a, er_2b⟩ := er_2
  refine va_mmax hx hb (by rw [hml]; exact hl.1.symm) hown (hG _ q_m_X9_62) (hG _ q_s_J9_max_7cf53) (hG _ q_z_J9) (hG _ q_c_J9_max_7cf53) (Nat.le_of_ble_eq_true rfl) (Nat.le_of_ble_eq_true rfl) (Nat.le_of_ble_eq_true rfl) (Nat.le_of_ble_eq_true rfl) dX9_fits_5 ?_
  refine lv_topi (fun z_3 ez_3 => ?_)
  obtain ⟨iz_3a, iz_3b, iz_3c⟩ := k_maxI (a := x0.toInt) (b := r_2.toInt) ez_3 rfl rfl
  refine lv_istore (lv' := [(4, .int z_3), (0, .ref q), (1, .ref v), (2, .int x0), (3, .ref w)]) hx hb dX9_fits_8 hl (by decide) rfl (fun ls hl => ?_)
  refine lv_iconst (v := 0) hx hb dX9_fits_10 (by decide) ?_
  refine lv_istore (lv' := [(5, .int 0), (4, .int z_3), (0, .ref q), (1, .ref v), (2, .int x0), (3, .ref w)]) hx hb dX9_fits_11 hl (by decide) rfl (fun ls hl => ?_)
  have lp13 : ∀ (fu : Nat) (v5_13 : Int32) (w4_q_13 : Int32) (gqf_c_13 : Nat → Int32) (gq_ca_13 : Nat → Int32) (gq_wd_13 : Nat → Int64) (gq_sk_13 : Nat → Int64) (gw_13 : Nat → Int32) (H : Heap) (locs : List Loc) (ls : Array Slot), FV gqf_c_13 → (0 ≤ v5_13.toInt) → (v5_13.toInt ≤ 101) → 101 - v5_13.toInt < (fu : Int) → va_P D vwCl [(q, .inr (6, [.ref qf, .ref q_ca, .ref q_bo, .int q_gust, .int w4_q_13, q_rv, .ref q_wd, .ref q_sk])), (qf, .inr (1, [.ref qf_c])), (qf_c, .inl (cy 0, 63, .inl gqf_c_13)), (q_ca, .inl (cy 0, 5, .inl gq_ca_13)), (q_bo, .inl (cy 0, 5, .inl g_qbo)), (q_wd, .inl (cy 1, 13, .inr (.inl gq_wd_13))), (q_sk, .inl (cy 1, 64, .inr (.inl gq_sk_13))), (v, .inr (5, [.ref v_r, .ref v_a, .ref v_p, .int v_size])), (v_r, .inl (cy 0, 10, .inl g_vr)), (v_a, .inl (cy 0, 10, .inl g_va)), (v_p, .inl (cy 0, 10, .inl g_vp)), (w, .inl (cy 0, 5, .inl gw_13))] H → va_D A [(q, .inr (6, [.ref qf, .ref q_ca, .ref q_bo, .int q_gust, .int w4_q_13, q_rv, .ref q_wd, .ref q_sk])), (qf, .inr (1, [.ref qf_c])), (qf_c, .inl (cy 0, 63, .inl gqf_c_13)), (q_ca, .inl (cy 0, 5, .inl gq_ca_13)), (q_bo, .inl (cy 0, 5, .inl g_qbo)), (q_wd, .inl (cy 1, 13, .inr (.inl gq_wd_13))), (q_sk, .inl (cy 1, 64, .inr (.inl gq_sk_13))), (v, .inr (5, [.ref v_r, .ref v_a, .ref v_p, .int v_size])), (v_r, .inl (cy 0, 10, .inl g_vr)), (v_a, .inl (cy 0, 10, .inl g_va)), (v_p, .inl (cy 0, 10, .inl g_vp)), (w, .inl (cy 0, 5, .inl gw_13))] → va_S A s.heap H locs → lv_has ls 6 [(5, .int v5_13), (4, .int z_3), (0, .ref q), (1, .ref v), (2, .int x0), (3, .ref w)] → W p l e (kRm 5 126 0 0) s m ([.ref q, .ref v, .int x0, .ref w] : List Value).toArray below meth c H locs 0 0 (MQ below (va_Qi (S := (Nat → Int32) × Int32 × (Nat → Int32) × (Nat → Int64) × (Nat → Int64) × (Nat → Int32)) (fun r u => FV (u.1) ∧ (r.toInt = 0 ∨ r.toInt = 1)) (kBw D A (fun u => [(q, .inr (6, [.ref qf, .ref q_ca, .ref q_bo, .int q_gust, .int (u.2.1), q_rv, .ref q_wd, .ref q_sk])), (qf, .inr (1, [.ref qf_c])), (qf_c, .inl (cy 0, 63, .inl (u.1))), (q_ca, .inl (cy 0, 5, .inl (u.2.2.1))), (q_bo, .inl (cy 0, 5, .inl g_qbo)), (q_wd, .inl (cy 1, 13, .inr (.inl (u.2.2.2.1)))), (q_sk, .inl (cy 1, 64, .inr (.inl (u.2.2.2.2.1)))), (v, .inr (5, [.ref v_r, .ref v_a, .ref v_p, .int v_size])), (v_r, .inl (cy 0, 10, .inl g_vr)), (v_a, .inl (cy 0, 10, .inl g_va)), (v_p, .inl (cy 0, 10, .inl g_vp)), (w, .inl (cy 0, 5, .inl (u.2.2.2.2.2)))])) A) ([.ref q, .ref v, .int x0, .ref w] : List Value).toArray s 0 0 A) (F0 m 13 ls []) := by
    intro fu13
    induction fu13 with
    | zero =>
      intro v5_13 w4_q_13 gqf_c_13 gq_ca_13 gq_wd_13 gq_sk_13 gw_13 H locs ls hgqf_c_13 j0_13 j1_13 hm13 hP hD hS hl
      exact absurd hm13 (by omega)
    | succ fu13 ih13 =>
      intro v5_13 w4_q_13 gqf_c_13 gq_ca_13 gq_wd_13 gq_sk_13 gw_13 H locs ls hgqf_c_13 j0_13 j1_13 hm13 hP hD hS hl
      obtain ⟨⟨b_4a, b_4b⟩, ⟨b_4c, b_4d⟩, ⟨b_4e, b_4f⟩⟩ := FV.bounds hgqf_c_13
      refine lv_iload hx hb dX9_fits_13 (lv_at hl 0 rfl) ?_
      refine lv_iload hx hb dX9_fits_15 (lv_at hl 1 rfl) ?_
      refine lv_icmp_gt (tgt := 70) hx hb dX9_fits_17 (by decide) (fun c_5 => ?_) (fun c_5 => ?_)
      · have ic_5 : z_3.toInt < v5_13.toInt := k_lt c_5 rfl rfl
        refine lv_iconst (v := 1) hx hb dX9_fits_70 (by decide) ?_
        have lit0 : (1 : Int32).toInt = 1 := by decide
        exact KI.rt ⟨gqf_c_13, w4_q_13, gq_ca_13, gq_wd_13, gq_sk_13, gw_13⟩ F rfl (hP.sub [0, 1, 2, 3, 4, 5, 6, 7, 8, 9, 10, 11] rfl) (hD.sub [0, 1, 2, 3, 4, 5, 6, 7, 8, 9, 10, 11] (by decide) rfl) hS (show FV gqf_c_13 ∧ ((1 : Int32).toInt = 0 ∨ (1 : Int32).toInt = 1) from ⟨hgqf_c_13, (by first | omega | assumption)⟩) (Nat.le_of_ble_eq_true rfl) (Nat.le_of_ble_eq_true rfl) dX9_fits_71
      · have ic_5 : v5_13.toInt ≤ z_3.toInt := k_nlt c_5 rfl rfl
        refine lv_aload_n hx hb dX9_fits_20 rfl (lv_at hl 2 rfl) ?_
        refine va_get (D := D) (ci := 6) (v := .int w4_q_13) (C := RX6) (T := TX6) (N := 8) hx hb hG inG_X6 hown hE.1 hP 0 rfl rfl 4 (by decide) (hG _ q_f_X9_68) (fun _ h9 => h9) rfl dX9_fits_21 ?_
        refine lv_if_ne (tgt := 32) hx hb dX9_fits_24 (by decide) (fun c_6 => ?_) (fun c_6 => ?_)
        · have ic_6 : w4_q_13.toInt ≠ 0 := k_ne c_6 rfl (by decide)
          refine lv_aload_n hx hb dX9_fits_32 rfl (lv_at hl 3 rfl) ?_
          refine lv_iload hx hb dX9_fits_33 (lv_at hl 0 rfl) ?_
          refine lv_aload_n hx hb dX9_fits_35 rfl (lv_at hl 2 rfl) ?_
          refine va_get (D := D) (ci := 6) (v := .ref q_ca) (C := RX6) (T := TX6) (N := 8) hx hb hG inG_X6 hown hE.1 hP 0 rfl rfl 1 (by decide) (hG _ q_f_X9_75) (fun _ h9 => h9) rfl dX9_fits_36 ?_
          refine kcV (As := [.int v5_13, .ref q_ca]) (rest := []) F hE hP hl.1 (cc_X5_agree l D cy (o := v) (x0 := v5_13) (ca := q_ca) (o_r := v_r) (o_a := v_a) (o_p := v_p) (o_size := v_size) (g_or := g_vr) (g_oa := g_va) (g_op := g_vp) (g_ca := gq_ca_13) (h_g_or := h_g_vr) (h_g_oa := h_g_va) (p0 := (by first | omega | assumption)) (p1 := (by first | omega | assumption))) q_m_X9_77 mv_X5_agree ⟨(Nat.le_of_ble_eq_true rfl), (Nat.le_of_ble_eq_true rfl)⟩ [7, 8, 9, 10, 3] rfl rfl rfl rfl rfl rfl (Nat.le_of_ble_eq_true rfl) ⟨(Nat.le_of_ble_eq_true rfl), (Nat.le_of_ble_eq_true rfl)⟩ dX9_fits_39 (fun r_7 er_7 => ?_)
          have er_7 : (r_7.toInt = 0 ∨ r_7.toInt = 1) := er_7
          refine lv_if_ne (tgt := 47) hx hb dX9_fits_42 (by decide) (fun c_8 => ?_) (fun c_8 => ?_)
          · have ic_8 : r_7.toInt ≠ 0 := k_ne c_8 rfl (by decide)
            clear er_7
            refine lv_iload hx hb dX9_fits_47 (lv_at hl 0 rfl) ?_
            refine lv_iload_n hx hb dX9_fits_49 rfl (lv_at hl 4 rfl) ?_
            refine lv_icmp_ne (tgt := 64) hx hb dX9_fits_50 (by decide) (fun c_9 => ?_) (fun c_9 => ?_)
            · have ic_9 : v5_13.toInt ≠ x0.toInt := k_ne c_9 rfl rfl
              obtain ⟨z_10, ez_10⟩ : ∃ y : Int32, y = v5_13 + Int32.ofInt 1 := ⟨_, rfl⟩
              have iz_10 : z_10.toInt = v5_13.toInt + 1 := k_addI ez_10 rfl (by decide) (by omega)
              refine lv_iinc (v := z_10) (lv' := [(5, .int z_10), (4, .int z_3), (0, .ref q), (1, .ref v), (2, .int x0), (3, .ref w)]) hx hb dX9_fits_64 hl (k := 0) rfl ez_10.symm (by decide) rfl (fun ls hl => ?_)
              refine lv_goto (tgt := 13) hx hb dX9_fits_67 (by decide) ?_
              exact ih13 z_10 w4_q_13 gqf_c_13 gq_ca_13 gq_wd_13 gq_sk_13 gw_13 _ _ ls hgqf_c_13 (by first | omega | assumption) (by first | omega | assumption) (by omega) hP hD hS (lv_sub hl [0, 1, 2, 3, 4, 5] rfl)
            · have ic_9 : v5_13.toInt = x0.toInt := k_eq c_9 rfl rfl
              refine lv_aload_n hx hb dX9_fits_53 rfl (lv_at hl 2 rfl) ?_
              refine va_get (D := D) (ci := 6) (v := .ref q_ca) (C := RX6) (T := TX6) (N := 8) hx hb hG inG_X6 hown hE.1 hP 0 rfl rfl 1 (by decide) (hG _ q_f_X9_75) (fun _ h9 => h9) rfl dX9_fits_54 ?_
              refine lv_iconst (v := 0) hx hb dX9_fits_57 (by decide) ?_
              refine lv_aload_n hx hb dX9_fits_58 rfl (lv_at hl 5 rfl) ?_
              refine lv_iconst (v := 0) hx hb dX9_fits_59 (by decide) ?_
              refine lv_iconst (v := 5) hx hb dX9_fits_60 (by decide) ?_
              refine va_copyi (ty := .int) hx hb (by rw [hml]; exact hl.1.symm) hown (hG _ q_m_X9_81) (hG _ q_n_arraycopyName) (hG _ q_s_arraycopyName) (hG _ q_z_J10) hE.1 hP hD hS 3 11 0 0 rfl rfl rfl rfl rfl (by decide) (by decide) (by decide) (Nat.le_of_ble_eq_true rfl) (Nat.le_of_ble_eq_true rfl) (fun _ _ => rfl) (Nat.le_of_ble_eq_true rfl) (Nat.le_of_ble_eq_true rfl) dX9_fits_61 (fun H locs hP hD hS => ?_)
              generalize va_cpy gq_ca_13 gw_13 (Int32.toNatClampNeg 0) (Int32.toNatClampNeg 0) (Int32.toNatClampNeg 5) = fn_11 at hP hD
              have hP : va_P D vwCl [(q, .inr (6, [.ref qf, .ref q_ca, .ref q_bo, .int q_gust, .int w4_q_13, q_rv, .ref q_wd, .ref q_sk])), (qf, .inr (1, [.ref qf_c])), (qf_c, .inl (cy 0, 63, .inl gqf_c_13)), (q_ca, .inl (cy 0, 5, .inl gq_ca_13)), (q_bo, .inl (cy 0, 5, .inl g_qbo)), (q_wd, .inl (cy 1, 13, .inr (.inl gq_wd_13))), (q_sk, .inl (cy 1, 64, .inr (.inl gq_sk_13))), (v, .inr (5, [.ref v_r, .ref v_a, .ref v_p, .int v_size])), (v_r, .inl (cy 0, 10, .inl g_vr)), (v_a, .inl (cy 0, 10, .inl g_va)), (v_p, .inl (cy 0, 10, .inl g_vp)), (w, .inl (cy 0, 5, .inl fn_11))] H := hP
              have hD : va_D A [(q, .inr (6, [.ref qf, .ref q_ca, .ref q_bo, .int q_gust, .int w4_q_13, q_rv, .ref q_wd, .ref q_sk])), (qf, .inr (1, [.ref qf_c])), (qf_c, .inl (cy 0, 63, .inl gqf_c_13)), (q_ca, .inl (cy 0, 5, .inl gq_ca_13)), (q_bo, .inl (cy 0, 5, .inl g_qbo)), (q_wd, .inl (cy 1, 13, .inr (.inl gq_wd_13))), (q_sk, .inl (cy 1, 64, .inr (.inl gq_sk_13))), (v, .inr (5, [.ref v_r, .ref v_a, .ref v_p, .int v_size])), (v_r, .inl (cy 0, 10, .inl g_vr)), (v_a, .inl (cy 0, 10, .inl g_va)), (v_p, .inl (cy 0, 10, .inl g_vp)), (w, .inl (cy 0, 5, .inl fn_11))] := hD
              obtain ⟨z_12, ez_12⟩ : ∃ y : Int32, y = v5_13 + Int32.ofInt 1 := ⟨_, rfl⟩
              have iz_12 : z_12.toInt = v5_13.toInt + 1 := k_addI ez_12 rfl (by decide) (by omega)
              refine lv_iinc (v := z_12) (lv' := [(5, .int z_12), (4, .int z_3), (0, .ref q), (1, .ref v), (2, .int x0), (3, .ref w)]) hx hb dX9_fits_64 hl (k := 0) rfl ez_12.symm (by decide) rfl (fun ls hl => ?_)
              refine lv_goto (tgt := 13) hx hb dX9_fits_67 (by decide) ?_
              exact ih13 z_12 w4_q_13 gqf_c_13 gq_ca_13 gq_wd_13 gq_sk_13 fn_11 _ _ ls hgqf_c_13 (by first | omega | assumption) (by first | omega | assumption) (by omega) hP hD hS (lv_sub hl [0, 1, 2, 3, 4, 5] rfl)
          · have ic_8 : r_7.toInt = 0 := k_eq c_8 rfl (by decide)
            clear er_7
            refine lv_iconst (v := 0) hx hb dX9_fits_45 (by decide) ?_
            have lit0 : (0 : Int32).toInt = 0 := by decide
            exact KI.rt ⟨gqf_c_13, w4_q_13, gq_ca_13, gq_wd_13, gq_sk_13, gw_13⟩ F rfl (hP.sub [0, 1, 2, 3, 4, 5, 6, 7, 8, 9, 10, 11] rfl) (hD.sub [0, 1, 2, 3, 4, 5, 6, 7, 8, 9, 10, 11] (by decide) rfl) hS (show FV gqf_c_13 ∧ ((0 : Int32).toInt = 0 ∨ (0 : Int32).toInt = 1) from ⟨hgqf_c_13, (by first | omega | assumption)⟩) (Nat.le_of_ble_eq_true rfl) (Nat.le_of_ble_eq_true rfl) dX9_fits_46
        · have ic_6 : w4_q_13.toInt = 0 := k_eq c_6 rfl (by decide)
          refine lv_aload_n hx hb dX9_fits_27 rfl (lv_at hl 2 rfl) ?_
          refine jwVI (wr := [(v, .inr (5, [.ref v_r, .ref v_a, .ref v_p, .int v_size])), (v_r, .inl (cy 0, 10, .inl g_vr)), (v_a, .inl (cy 0, 10, .inl g_va)), (v_p, .inl (cy 0, 10, .inl g_vp)), (w, .inl (cy 0, 5, .inl gw_13))]) (As := []) (rest := []) F hE hP hD hS hA hl.1 hz hZ (cc_X6_playRound l D cy (Z := Z) (hz := hz) (TT := TT) (zt := zt) (o := q) (of := qf) (o_ca := q_ca) (o_bo := q_bo) (o_gust := q_gust) (o_still := w4_q_13) (o_rv := q_rv) (o_wd := q_wd) (o_sk := q_sk) (of_c := qf_c) (g_of := gqf_c_13) (g_oca := gq_ca_13) (g_obo := g_qbo) (g_owd := gq_wd_13) (g_osk := gq_sk_13) (h_g_of := hgqf_c_13) (h_g_obo := h_g_qbo) (hrv := (by first | omega | assumption))) q_m_X9_72 mv_X6_playRound ⟨(Nat.le_of_ble_eq_true rfl), (Nat.le_of_ble_eq_true rfl)⟩ [0, 1, 2, 3, 4, 5, 6] [7, 8, 9, 10, 11] (by decide) rfl rfl (by decide) (by decide) rfl rfl rfl rfl rfl (Nat.le_of_ble_eq_true rfl) ⟨(Nat.le_of_ble_eq_true rfl), (Nat.le_of_ble_eq_true rfl)⟩ dX9_fits_28 (fun r_14 u_13 H locs eu_13 hP hD hS => ?_)
          obtain ⟨g_of_15, o_still_16, g_oca_17, g_owd_18, g_osk_19⟩ := u_13
          have eu_13 : FV g_of_15 := eu_13
          have hP : va_P D vwCl [(v, .inr (5, [.ref v_r, .ref v_a, .ref v_p, .int v_size])), (v_r, .inl (cy 0, 10, .inl g_vr)), (v_a, .inl (cy 0, 10, .inl g_va)), (v_p, .inl (cy 0, 10, .inl g_vp)), (w, .inl (cy 0, 5, .inl gw_13)), (q, .inr (6, [.ref qf, .ref q_ca, .ref q_bo, .int q_gust, .int o_still_16, q_rv, .ref q_wd, .ref q_sk])), (qf, .inr (1, [.ref qf_c])), (qf_c, .inl (cy 0, 63, .inl g_of_15)), (q_ca, .inl (cy 0, 5, .inl g_oca_17)), (q_bo, .inl (cy 0, 5, .inl g_qbo)), (q_wd, .inl (cy 1, 13, .inr (.inl g_owd_18))), (q_sk, .inl (cy 1, 64, .inr (.inl g_osk_19)))] H := hP
          have hD : va_D A [(v, .inr (5, [.ref v_r, .ref v_a, .ref v_p, .int v_size])), (v_r, .inl (cy 0, 10, .inl g_vr)), (v_a, .inl (cy 0, 10, .inl g_va)), (v_p, .inl (cy 0, 10, .inl g_vp)), (w, .inl (cy 0, 5, .inl gw_13)), (q, .inr (6, [.ref qf, .ref q_ca, .ref q_bo, .int q_gust, .int o_still_16, q_rv, .ref q_wd, .ref q_sk])), (qf, .inr (1, [.ref qf_c])), (qf_c, .inl (cy 0, 63, .inl g_of_15)), (q_ca, .inl (cy 0, 5, .inl g_oca_17)), (q_bo, .inl (cy 0, 5, .inl g_qbo)), (q_wd, .inl (cy 1, 13, .inr (.inl g_owd_18))), (q_sk, .inl (cy 1, 64, .inr (.inl g_osk_19)))] := hD
          obtain ⟨⟨b_20a, b_20b⟩, ⟨b_20c, b_20d⟩, ⟨b_20e, b_20f⟩⟩ := FV.bounds eu_13
          refine lv_pop hx hb dX9_fits_31 rfl ?_
          refine lv_aload_n hx hb dX9_fits_32 rfl (lv_at hl 3 rfl) ?_
          refine lv_iload hx hb dX9_fits_33 (lv_at hl 0 rfl) ?_
          refine lv_aload_n hx hb dX9_fits_35 rfl (lv_at hl 2 rfl) ?_
          refine va_get (D := D) (ci := 6) (v := .ref q_ca) (C := RX6) (T := TX6) (N := 8) hx hb hG inG_X6 hown hE.1 hP 5 rfl rfl 1 (by decide) (hG _ q_f_X9_75) (fun _ h9 => h9) rfl dX9_fits_36 ?_
          refine kcV (As := [.int v5_13, .ref q_ca]) (rest := []) F hE hP hl.1 (cc_X5_agree l D cy (o := v) (x0 := v5_13) (ca := q_ca) (o_r := v_r) (o_a := v_a) (o_p := v_p) (o_size := v_size) (g_or := g_vr) (g_oa := g_va) (g_op := g_vp) (g_ca := g_oca_17) (h_g_or := h_g_vr) (h_g_oa := h_g_va) (p0 := (by first | omega | assumption)) (p1 := (by first | omega | assumption))) q_m_X9_77 mv_X5_agree ⟨(Nat.le_of_ble_eq_true rfl), (Nat.le_of_ble_eq_true rfl)⟩ [0, 1, 2, 3, 8] rfl rfl rfl rfl rfl rfl (Nat.le_of_ble_eq_true rfl) ⟨(Nat.le_of_ble_eq_true rfl), (Nat.le_of_ble_eq_true rfl)⟩ dX9_fits_39 (fun r_21 er_21 => ?_)
          have er_21 : (r_21.toInt = 0 ∨ r_21.toInt = 1) := er_21
          refine lv_if_ne (tgt := 47) hx hb dX9_fits_42 (by decide) (fun c_22 => ?_) (fun c_22 => ?_)
          · have ic_22 : r_21.toInt ≠ 0 := k_ne c_22 rfl (by decide)
            clear er_21
            refine lv_iload hx hb dX9_fits_47 (lv_at hl 0 rfl) ?_
            refine lv_iload_n hx hb dX9_fits_49 rfl (lv_at hl 4 rfl) ?_
            refine lv_icmp_ne (tgt := 64) hx hb dX9_fits_50 (by decide) (fun c_23 => ?_) (fun c_23 => ?_)
            · have ic_23 : v5_13.toInt ≠ x0.toInt := k_ne c_23 rfl rfl
              obtain ⟨z_24, ez_24⟩ : ∃ y : Int32, y = v5_13 + Int32.ofInt 1 := ⟨_, rfl⟩
              have iz_24 : z_24.toInt = v5_13.toInt + 1 := k_addI ez_24 rfl (by decide) (by omega)
              refine lv_iinc (v := z_24) (lv' := [(5, .int z_24), (4, .int z_3), (0, .ref q), (1, .ref v), (2, .int x0), (3, .ref w)]) hx hb dX9_fits_64 hl (k := 0) rfl ez_24.symm (by decide) rfl (fun ls hl => ?_)
              refine lv_goto (tgt := 13) hx hb dX9_fits_67 (by decide) ?_
              have hP := hP.sub (ws' := [(q, .inr (6, [.ref qf, .ref q_ca, .ref q_bo, .int q_gust, .int o_still_16, q_rv, .ref q_wd, .ref q_sk])), (qf, .inr (1, [.ref qf_c])), (qf_c, .inl (cy 0, 63, .inl g_of_15)), (q_ca, .inl (cy 0, 5, .inl g_oca_17)), (q_bo, .inl (cy 0, 5, .inl g_qbo)), (q_wd, .inl (cy 1, 13, .inr (.inl g_owd_18))), (q_sk, .inl (cy 1, 64, .inr (.inl g_osk_19))), (v, .inr (5, [.ref v_r, .ref v_a, .ref v_p, .int v_size])), (v_r, .inl (cy 0, 10, .inl g_vr)), (v_a, .inl (cy 0, 10, .inl g_va)), (v_p, .inl (cy 0, 10, .inl g_vp)), (w, .inl (cy 0, 5, .inl gw_13))]) [5, 6, 7, 8, 9, 10, 11, 0, 1, 2, 3, 4] rfl
              have hD := hD.sub (ws' := [(q, .inr (6, [.ref qf, .ref q_ca, .ref q_bo, .int q_gust, .int o_still_16, q_rv, .ref q_wd, .ref q_sk])), (qf, .inr (1, [.ref qf_c])), (qf_c, .inl (cy 0, 63, .inl g_of_15)), (q_ca, .inl (cy 0, 5, .inl g_oca_17)), (q_bo, .inl (cy 0, 5, .inl g_qbo)), (q_wd, .inl (cy 1, 13, .inr (.inl g_owd_18))), (q_sk, .inl (cy 1, 64, .inr (.inl g_osk_19))), (v, .inr (5, [.ref v_r, .ref v_a, .ref v_p, .int v_size])), (v_r, .inl (cy 0, 10, .inl g_vr)), (v_a, .inl (cy 0, 10, .inl g_va)), (v_p, .inl (cy 0, 10, .inl g_vp)), (w, .inl (cy 0, 5, .inl gw_13))]) [5, 6, 7, 8, 9, 10, 11, 0, 1, 2, 3, 4] (by decide) rfl
              exact ih13 z_24 o_still_16 g_of_15 g_oca_17 g_owd_18 g_osk_19 gw_13 _ _ ls eu_13 (by first | omega | assumption) (by first | omega | assumption) (by omega) hP hD hS (lv_sub hl [0, 1, 2, 3, 4, 5] rfl)
            · have ic_23 : v5_13.toInt = x0.toInt := k_eq c_23 rfl rfl
              refine lv_aload_n hx hb dX9_fits_53 rfl (lv_at hl 2 rfl) ?_
              refine va_get (D := D) (ci := 6) (v := .ref q_ca) (C := RX6) (T := TX6) (N := 8) hx hb hG inG_X6 hown hE.1 hP 5 rfl rfl 1 (by decide) (hG _ q_f_X9_75) (fun _ h9 => h9) rfl dX9_fits_54 ?_
              refine lv_iconst (v := 0) hx hb dX9_fits_57 (by decide) ?_
              refine lv_aload_n hx hb dX9_fits_58 rfl (lv_at hl 5 rfl) ?_
              refine lv_iconst (v := 0) hx hb dX9_fits_59 (by decide) ?_
              refine lv_iconst (v := 5) hx hb dX9_fits_60 (by decide) ?_
              refine va_copyi (ty := .int) hx hb (by rw [hml]; exact hl.1.symm) hown (hG _ q_m_X9_81) (hG _ q_n_arraycopyName) (hG _ q_s_arraycopyName) (hG _ q_z_J10) hE.1 hP hD hS 8 4 0 0 rfl rfl rfl rfl rfl (by decide) (by decide) (by decide) (Nat.le_of_ble_eq_true rfl) (Nat.le_of_ble_eq_true rfl) (fun _ _ => rfl) (Nat.le_of_ble_eq_true rfl) (Nat.le_of_ble_eq_true rfl) dX9_fits_61 (fun H locs hP hD hS => ?_)
              generalize va_cpy g_oca_17 gw_13 (Int32.toNatClampNeg 0) (Int32.toNatClampNeg 0) (Int32.toNatClampNeg 5) = fn_25 at hP hD
              have hP : va_P D vwCl [(v, .inr (5, [.ref v_r, .ref v_a, .ref v_p, .int v_size])), (v_r, .inl (cy 0, 10, .inl g_vr)), (v_a, .inl (cy 0, 10, .inl g_va)), (v_p, .inl (cy 0, 10, .inl g_vp)), (w, .inl (cy 0, 5, .inl fn_25)), (q, .inr (6, [.ref qf, .ref q_ca, .ref q_bo, .int q_gust, .int o_still_16, q_rv, .ref q_wd, .ref q_sk])), (qf, .inr (1, [.ref qf_c])), (qf_c, .inl (cy 0, 63, .inl g_of_15)), (q_ca, .inl (cy 0, 5, .inl g_oca_17)), (q_bo, .inl (cy 0, 5, .inl g_qbo)), (q_wd, .inl (cy 1, 13, .inr (.inl g_owd_18))), (q_sk, .inl (cy 1, 64, .inr (.inl g_osk_19)))] H := hP
              have hD : va_D A [(v, .inr (5, [.ref v_r, .ref v_a, .ref v_p, .int v_size])), (v_r, .inl (cy 0, 10, .inl g_vr)), (v_a, .inl (cy 0, 10, .inl g_va)), (v_p, .inl (cy 0, 10, .inl g_vp)), (w, .inl (cy 0, 5, .inl fn_25)), (q, .inr (6, [.ref qf, .ref q_ca, .ref q_bo, .int q_gust, .int o_still_16, q_rv, .ref q_wd, .ref q_sk])), (qf, .inr (1, [.ref qf_c])), (qf_c, .inl (cy 0, 63, .inl g_of_15)), (q_ca, .inl (cy 0, 5, .inl g_oca_17)), (q_bo, .inl (cy 0, 5, .inl g_qbo)), (q_wd, .inl (cy 1, 13, .inr (.inl g_owd_18))), (q_sk, .inl (cy 1, 64, .inr (.inl g_osk_19)))] := hD
              obtain ⟨z_26, ez_26⟩ : ∃ y : Int32, y = v5_13 + Int32.ofInt 1 := ⟨_, rfl⟩
              have iz_26 : z_26.toInt = v5_13.toInt + 1 := k_addI ez_26 rfl (by decide) (by omega)
              refine lv_iinc (v := z_26) (lv' := [(5, .int z_26), (4, .int z_3), (0, .ref q), (1, .ref v), (2, .int x0), (3, .ref w)]) hx hb dX9_fits_64 hl (k := 0) rfl ez_26.symm (by decide) rfl (fun ls hl => ?_)
              refine lv_goto (tgt := 13) hx hb dX9_fits_67 (by decide) ?_
              have hP := hP.sub (ws' := [(q, .inr (6, [.ref qf, .ref q_ca, .ref q_bo, .int q_gust, .int o_still_16, q_rv, .ref q_wd, .ref q_sk])), (qf, .inr (1, [.ref qf_c])), (qf_c, .inl (cy 0, 63, .inl g_of_15)), (q_ca, .inl (cy 0, 5, .inl g_oca_17)), (q_bo, .inl (cy 0, 5, .inl g_qbo)), (q_wd, .inl (cy 1, 13, .inr (.inl g_owd_18))), (q_sk, .inl (cy 1, 64, .inr (.inl g_osk_19))), (v, .inr (5, [.ref v_r, .ref v_a, .ref v_p, .int v_size])), (v_r, .inl (cy 0, 10, .inl g_vr)), (v_a, .inl (cy 0, 10, .inl g_va)), (v_p, .inl (cy 0, 10, .inl g_vp)), (w, .inl (cy 0, 5, .inl fn_25))]) [5, 6, 7, 8, 9, 10, 11, 0, 1, 2, 3, 4] rfl
              have hD := hD.sub (ws' := [(q, .inr (6, [.ref qf, .ref q_ca, .ref q_bo, .int q_gust, .int o_still_16, q_rv, .ref q_wd, .ref q_sk])), (qf, .inr (1, [.ref qf_c])), (qf_c, .inl (cy 0, 63, .inl g_of_15)), (q_ca, .inl (cy 0, 5, .inl g_oca_17)), (q_bo, .inl (cy 0, 5, .inl g_qbo)), (q_wd, .inl (cy 1, 13, .inr (.inl g_owd_18))), (q_sk, .inl (cy 1, 64, .inr (.inl g_osk_19))), (v, .inr (5, [.ref v_r, .ref v_a, .ref v_p, .int v_size])), (v_r, .inl (cy 0, 10, .inl g_vr)), (v_a, .inl (cy 0, 10, .inl g_va)), (v_p, .inl (cy 0, 10, .inl g_vp)), (w, .inl (cy 0, 5, .inl fn_25))]) [5, 6, 7, 8, 9, 10, 11, 0, 1, 2, 3, 4] (by decide) rfl
              exact ih13 z_26 o_still_16 g_of_15 g_oca_17 g_owd_18 g_osk_19 fn_25 _ _ ls eu_13 (by first | omega | assumption) (by first | omega | assumption) (by omega) hP hD hS (lv_sub hl [0, 1, 2, 3, 4, 5] rfl)
          · have ic_22 : r_21.toInt = 0 := k_eq c_22 rfl (by decide)
            clear er_21
            refine lv_iconst (v := 0) hx hb dX9_fits_45 (by decide) ?_
            have lit0 : (0 : Int32).toInt = 0 := by decide
            exact KI.rt ⟨g_of_15, o_still_16, g_oca_17, g_owd_18, g_osk_19, gw_13⟩ F rfl (hP.sub [5, 6, 7, 8, 9, 10, 11, 0, 1, 2, 3, 4] rfl) (hD.sub [5, 6, 7, 8, 9, 10, 11, 0, 1, 2, 3, 4] (by decide) rfl) hS (show FV g_of_15 ∧ ((0 : Int32).toInt = 0 ∨ (0 : Int32).toInt = 1) from ⟨eu_13, (by first | omega | assumption)⟩) (Nat.le_of_ble_eq_true rfl) (Nat.le_of_ble_eq_true rfl) dX9_fits_46
  have lt_27 : (0 : Int32).toInt = 0 := by decide
  exact lp13 100000 0 q_still g_qf g_qca g_qwd g_qsk g_w _ _ ls h_g_qf (by first | omega | assumption) (by first | omega | assumption) (by omega) hP hD hS hl

set_option maxHeartbeats 4000000 in
set_option maxRecDepth 100000 in
theorem cc_mostAlike (l : Launch) (D : va_G) (cy : Nat → ClassId) (o : Nat) (o_cm : Nat) (o_fit : Int32) (o_first : Int32) (o_rw : Nat → Option Nat) (o_r0 : Nat) (o_r1 : Nat) (o_r2 : Nat) (o_r3 : Nat) (o_r4 : Nat) (o_r5 : Nat) (o_r6 : Nat) (g_o_r0 : Nat → Int32) (g_o_r1 : Nat → Int32) (g_o_r2 : Nat → Int32) (g_o_r3 : Nat → Int32) (g_o_r4 : Nat → Int32) (g_o_r5 : Nat → Int32) (g_o_r6 : Nat → Int32) (x0 : Int32) (hw_o0 : o_rw 0 = some o_r0) (hw_o1 : o_rw 1 = some o_r1) (hw_o2 : o_rw 2 = some o_r2) (hw_o3 : o_rw 3 = some o_r3) (hw_o4 : o_rw 4 = some o_r4) (hw_o5 : o_rw 5 = some o_r5) (hw_o6 : o_rw 6 = some o_r6) (p7 : 0 ≤ x0.toInt) (p8 : x0.toInt ≤ 4) (p9 : 0 ≤ o_fit.toInt) (p10 : o_fit.toInt ≤ 7) : KP l yX9_mostAlike cX9_mostAlike 6 (some .int) 1 14 D (kTY cy) [.ref o, .int x0] [(o, .inr (9, [.int o_fit, .int o_first, .ref o_cm])), (o_cm, .inl (cy 6, 7, .inr (.inr (.inr (.inr o_rw))))), (o_r0, .inl (cy 0, 5, .inl g_o_r0)), (o_r1, .inl (cy 0, 5, .inl g_o_r1)), (o_r2, .inl (cy 0, 5, .inl g_o_r2)), (o_r3, .inl (cy 0, 5, .inl g_o_r3)), (o_r4, .inl (cy 0, 5, .inl g_o_r4)), (o_r5, .inl (cy 0, 5, .inl g_o_r5)), (o_r6, .inl (cy 0, 5, .inl g_o_r6))] (fun r => True) := by
  refine KP.of (by decide) (Nat.le_of_ble_eq_true rfl) (fun p e s m below meth c ls F hE hP hl => ?_)
  have F : kF p s m meth c cX9_mostAlike 6 (some .int) _ RX9 := F
  obtain ⟨hx, hb, hr, hml, hown, hG, hlk⟩ := id F
  have hl : lv_has ls 6 [(0, .ref o), (1, .int x0)] := hl
  refine lv_iconst (v := 0) hx hb dX9_mostAlike_0 (by decide) ?_
  refine lv_istore_n (lv' := [(2, .int 0), (0, .ref o), (1, .int x0)]) hx hb dX9_mostAlike_1 rfl hl (by decide) rfl (fun ls hl => ?_)
  refine lv_iconst (v := 0) hx hb dX9_mostAlike_2 (by decide) ?_
  refine lv_istore_n (lv' := [(3, .int 0), (2, .int 0), (0, .ref o), (1, .int x0)]) hx hb dX9_mostAlike_3 rfl hl (by decide) rfl (fun ls hl => ?_)
  have lp4 : ∀ (fu : Nat) (v3_4 : Int32) (v2_4 : Int32) (ls : Array Slot), (0 ≤ v3_4.toInt) → (v3_4.toInt ≤ 7) → 7 - v3_4.toInt < (fu : Int) → lv_has ls 6 [(3, .int v3_4), (2, .int v2_4), (0, .ref o), (1, .int x0)] → W p l e (kR 1 14) s m ([.ref o, .int x0] : List Value).toArray below meth c s.heap [] 0 0 (MQ below (kQ (fun r => True)) ([.ref o, .int x0] : List Value).toArray s 0 0 (fun _ => False)) (F0 m 4 ls []) := by
    intro fu4
    induction fu4 with
    | zero =>
      intro v3_4 v2_4 ls j0_4 j1_4 hm4 hl
      exact absurd hm4 (by omega)
    | succ fu4 ih4 =>
      intro v3_4 v2_4 ls j0_4 j1_4 hm4 hl
      refine lv_iload_n hx hb dX9_mostAlike_4 rfl (lv_at hl 0 rfl) ?_
      refine lv_aload_n hx hb dX9_mostAlike_5 rfl (lv_at hl 2 rfl) ?_
      refine va_get (D := D) (ci := 9) (v := .int o_fit) (C := RX9) (T := TX9) (N := 3) hx hb hG inG_X9 hown hE.1 hP 0 rfl rfl 0 (by decide) (hG _ q_f_X9_9) (fun _ h9 => h9) rfl dX9_mostAlike_6 ?_
      refine lv_icmp_ge (tgt := 76) hx hb dX9_mostAlike_9 (by decide) (fun c_1 => ?_) (fun c_1 => ?_)
      · have ic_1 : o_fit.toInt ≤ v3_4.toInt := k_le c_1 rfl rfl
        refine lv_iload_n hx hb dX9_mostAlike_76 rfl (lv_at hl 1 rfl) ?_
        exact KP.rt F rfl trivial dX9_mostAlike_77
      · have ic_1 : v3_4.toInt < o_fit.toInt := k_nle c_1 rfl rfl
        refine lv_iconst (v := 0) hx hb dX9_mostAlike_12 (by decide) ?_
        refine lv_istore (lv' := [(4, .int 0), (3, .int v3_4), (2, .int v2_4), (0, .ref o), (1, .int x0)]) hx hb dX9_mostAlike_13 hl (by decide) rfl (fun ls hl => ?_)
        refine lv_iconst (v := 0) hx hb dX9_mostAlike_15 (by decide) ?_
        refine lv_istore (lv' := [(5, .int 0), (4, .int 0), (3, .int v3_4), (2, .int v2_4), (0, .ref o), (1, .int x0)]) hx hb dX9_mostAlike_16 hl (by decide) rfl (fun ls hl => ?_)
        have lp18 : ∀ (fu : Nat) (v5_18 : Int32) (v4_18 : Int32) (ls : Array Slot), (0 ≤ v5_18.toInt) → (v5_18.toInt ≤ 7) → 7 - v5_18.toInt < (fu : Int) → lv_has ls 6 [(5, .int v5_18), (4, .int v4_18), (3, .int v3_4), (2, .int v2_4), (0, .ref o), (1, .int x0)] → W p l e (kR 1 14) s m ([.ref o, .int x0] : List Value).toArray below meth c s.heap [] 0 0 (MQ below (kQ (fun r => True)) ([.ref o, .int x0] : List Value).toArray s 0 0 (fun _ => False)) (F0 m 18 ls []) := by
          intro fu18
          induction fu18 with
          | zero =>
            intro v5_18 v4_18 ls j0_18 j1_18 hm18 hl
            exact absurd hm18 (by omega)
          | succ fu18 ih18 =>
            intro v5_18 v4_18 ls j0_18 j1_18 hm18 hl
            refine lv_iload hx hb dX9_mostAlike_18 (lv_at hl 0 rfl) ?_
            refine lv_aload_n hx hb dX9_mostAlike_20 rfl (lv_at hl 4 rfl) ?_
            refine va_get (D := D) (ci := 9) (v := .int o_fit) (C := RX9) (T := TX9) (N := 3) hx hb hG inG_X9 hown hE.1 hP 0 rfl rfl 0 (by decide) (hG _ q_f_X9_9) (fun _ h9 => h9) rfl dX9_mostAlike_21 ?_
            refine lv_icmp_ge (tgt := 63) hx hb dX9_mostAlike_24 (by decide) (fun c_2 => ?_) (fun c_2 => ?_)
            · have ic_2 : o_fit.toInt ≤ v5_18.toInt := k_le c_2 rfl rfl
              refine lv_iload_n hx hb dX9_mostAlike_63 rfl (lv_at hl 3 rfl) ?_
              refine lv_iload hx hb dX9_mostAlike_64 (lv_at hl 1 rfl) ?_
              refine va_mmax hx hb (by rw [hml]; exact hl.1.symm) hown (hG _ q_m_X9_62) (hG _ q_s_J9_max_7cf53) (hG _ q_z_J9) (hG _ q_c_J9_max_7cf53) (Nat.le_of_ble_eq_true rfl) (Nat.le_of_ble_eq_true rfl) (Nat.le_of_ble_eq_true rfl) (Nat.le_of_ble_eq_true rfl) dX9_mostAlike_66 ?_
              refine lv_topi (fun z_3 ez_3 => ?_)
              obtain ⟨iz_3a, iz_3b, iz_3c⟩ := k_maxI (a := v2_4.toInt) (b := v4_18.toInt) ez_3 rfl rfl
              refine lv_istore_n (lv' := [(2, .int z_3), (5, .int v5_18), (4, .int v4_18), (3, .int v3_4), (0, .ref o), (1, .int x0)]) hx hb dX9_mostAlike_69 rfl hl (by decide) rfl (fun ls hl => ?_)
              obtain ⟨z_4, ez_4⟩ : ∃ y : Int32, y = v3_4 + Int32.ofInt 1 := ⟨_, rfl⟩
              have iz_4 : z_4.toInt = v3_4.toInt + 1 := k_addI ez_4 rfl (by decide) (by omega)
              refine lv_iinc (v := z_4) (lv' := [(3, .int z_4), (2, .int z_3), (5, .int v5_18), (4, .int v4_18), (0, .ref o), (1, .int x0)]) hx hb dX9_mostAlike_70 hl (k := 3) rfl ez_4.symm (by decide) rfl (fun ls hl => ?_)
              refine lv_goto (tgt := 4) hx hb dX9_mostAlike_73 (by decide) ?_
              exact ih4 z_4 z_3 ls (by first | omega | assumption) (by first | omega | assumption) (by omega) (lv_sub hl [0, 1, 4, 5] rfl)
            · have ic_2 : v5_18.toInt < o_fit.toInt := k_nle c_2 rfl rfl
              refine lv_iload hx hb dX9_mostAlike_27 (lv_at hl 1 rfl) ?_
              refine lv_aload_n hx hb dX9_mostAlike_29 rfl (lv_at hl 4 rfl) ?_
              refine va_get (D := D) (ci := 9) (v := .ref o_cm) (C := RX9) (T := TX9) (N := 3) hx hb hG inG_X9 hown hE.1 hP 0 rfl rfl 2 (by decide) (hG _ q_f_X9_20) (fun _ h9 => h9) rfl dX9_mostAlike_30 ?_
              refine lv_iload_n hx hb dX9_mostAlike_33 rfl (lv_at hl 2 rfl) ?_
              refine k_aldr hx hb hE.1 hP 1 6 rfl rfl (k_in (by omega)) dX9_mostAlike_34 ?_
              have sp_5 : v3_4.toInt = 0 ∨ v3_4.toInt = 1 ∨ v3_4.toInt = 2 ∨ v3_4.toInt = 3 ∨ v3_4.toInt = 4 ∨ v3_4.toInt = 5 ∨ v3_4.toInt = 6 := by omega
              rcases sp_5 with sp_5 | sp_5 | sp_5 | sp_5 | sp_5 | sp_5 | sp_5
              · refine k_tv (z := .ref o_r0) (by rw [k_clE (k := 0) sp_5, hw_o0]; rfl) ?_
                refine lv_iload_n hx hb dX9_mostAlike_35 rfl (lv_at hl 5 rfl) ?_
                refine va_iald hx hb hE.1 hP 2 0 rfl rfl (k_in (by omega)) dX9_mostAlike_36 ?_
                refine k_top (z := (g_o_r0 (Int32.toNatClampNeg x0))) rfl ?_
                refine lv_aload_n hx hb dX9_mostAlike_37 rfl (lv_at hl 4 rfl) ?_
                refine va_get (D := D) (ci := 9) (v := .ref o_cm) (C := RX9) (T := TX9) (N := 3) hx hb hG inG_X9 hown hE.1 hP 0 rfl rfl 2 (by decide) (hG _ q_f_X9_20) (fun _ h9 => h9) rfl dX9_mostAlike_38 ?_
                refine lv_iload hx hb dX9_mostAlike_41 (lv_at hl 0 rfl) ?_
                refine k_aldr hx hb hE.1 hP 1 6 rfl rfl (k_in (by omega)) dX9_mostAlike_43 ?_
                have sp_6 : v5_18.toInt = 0 ∨ v5_18.toInt = 1 ∨ v5_18.toInt = 2 ∨ v5_18.toInt = 3 ∨ v5_18.toInt = 4 ∨ v5_18.toInt = 5 ∨ v5_18.toInt = 6 := by omega
                rcases sp_6 with sp_6 | sp_6 | sp_6 | sp_6 | sp_6 | sp_6 | sp_6
                · refine k_tv (z := .ref o_r0) (by rw [k_clE (k := 0) sp_6, hw_o0]; rfl) ?_
                  refine lv_iload_n hx hb dX9_mostAlike_44 rfl (lv_at hl 5 rfl) ?_
                  refine va_iald hx hb hE.1 hP 2 0 rfl rfl (k_in (by omega)) dX9_mostAlike_45 ?_
                  refine k_top (z := (g_o_r0 (Int32.toNatClampNeg x0))) rfl ?_
                  refine lv_icmp_ne (tgt := 53) hx hb dX9_mostAlike_46 (by decide) (fun c_7 => ?_) (fun c_7 => ?_)
                  · have ic_7 : (g_o_r0 (Int32.toNatClampNeg x0)).toInt ≠ (g_o_r0 (Int32.toNatClampNeg x0)).toInt := k_ne c_7 rfl rfl
                    refine lv_iconst (v := 0) hx hb dX9_mostAlike_53 (by decide) ?_
                    refine lv_iadd hx hb dX9_mostAlike_54 ?_
                    refine lv_topi (fun z_8 ez_8 => ?_)
                    refine lv_istore (lv' := [(4, .int z_8), (5, .int v5_18), (3, .int v3_4), (2, .int v2_4), (0, .ref o), (1, .int x0)]) hx hb dX9_mostAlike_55 hl (by decide) rfl (fun ls hl => ?_)
                    obtain ⟨z_9, ez_9⟩ : ∃ y : Int32, y = v5_18 + Int32.ofInt 1 := ⟨_, rfl⟩
                    have iz_9 : z_9.toInt = v5_18.toInt + 1 := k_addI ez_9 rfl (by decide) (by omega)
                    refine lv_iinc (v := z_9) (lv' := [(5, .int z_9), (4, .int z_8), (3, .int v3_4), (2, .int v2_4), (0, .ref o), (1, .int x0)]) hx hb dX9_mostAlike_57 hl (k := 1) rfl ez_9.symm (by decide) rfl (fun ls hl => ?_)
                    refine lv_goto (tgt := 18) hx hb dX9_mostAlike_60 (by decide) ?_
                    exact ih18 z_9 z_8 ls (by first | omega | assumption) (by first | omega | assumption) (by omega) (lv_sub hl [0, 1, 2, 3, 4, 5] rfl)
                  · have ic_7 : (g_o_r0 (Int32.toNatClampNeg x0)).toInt = (g_o_r0 (Int32.toNatClampNeg x0)).toInt := k_eq c_7 rfl rfl
                    refine lv_iconst (v := 1) hx hb dX9_mostAlike_49 (by decide) ?_
                    refine lv_goto (tgt := 54) hx hb dX9_mostAlike_50 (by decide) ?_
                    refine lv_iadd hx hb dX9_mostAlike_54 ?_
                    refine lv_topi (fun z_10 ez_10 => ?_)
                    refine lv_istore (lv' := [(4, .int z_10), (5, .int v5_18), (3, .int v3_4), (2, .int v2_4), (0, .ref o), (1, .int x0)]) hx hb dX9_mostAlike_55 hl (by decide) rfl (fun ls hl => ?_)
                    obtain ⟨z_11, ez_11⟩ : ∃ y : Int32, y = v5_18 + Int32.ofInt 1 := ⟨_, rfl⟩
                    have iz_11 : z_11.toInt = v5_18.toInt + 1 := k_addI ez_11 rfl (by decide) (by omega)
                    refine lv_iinc (v := z_11) (lv' := [(5, .int z_11), (4, .int z_10), (3, .int v3_4), (2, .int v2_4), (0, .ref o), (1, .int x0)]) hx hb dX9_mostAlike_57 hl (k := 1) rfl ez_11.symm (by decide) rfl (fun ls hl => ?_)
                    refine lv_goto (tgt := 18) hx hb dX9_mostAlike_60 (by decide) ?_
                    exact ih18 z_11 z_10 ls (by first | omega | assumption) (by first | omega | assumption) (by omega) (lv_sub hl [0, 1, 2, 3, 4, 5] rfl)
                · refine k_tv (z := .ref o_r1) (by rw [k_clE (k := 1) sp_6, hw_o1]; rfl) ?_
                  refine lv_iload_n hx hb dX9_mostAlike_44 rfl (lv_at hl 5 rfl) ?_
                  refine va_iald hx hb hE.1 hP 3 0 rfl rfl (k_in (by omega)) dX9_mostAlike_45 ?_
                  refine k_top (z := (g_o_r1 (Int32.toNatClampNeg x0))) rfl ?_
                  refine lv_icmp_ne (tgt := 53) hx hb dX9_mostAlike_46 (by decide) (fun c_12 => ?_) (fun c_12 => ?_)
                  · have ic_12 : (g_o_r0 (Int32.toNatClampNeg x0)).toInt ≠ (g_o_r1 (Int32.toNatClampNeg x0)).toInt := k_ne c_12 rfl rfl
                    refine lv_iconst (v := 0) hx hb dX9_mostAlike_53 (by decide) ?_
                    refine lv_iadd hx hb dX9_mostAlike_54 ?_
                    refine lv_topi (fun z_13 ez_13 => ?_)
                    refine lv_istore (lv' := [(4, .int z_13), (5, .int v5_18), (3, .int v3_4), (2, .int v2_4), (0, .ref o), (1, .int x0)]) hx hb dX9_mostAlike_55 hl (by decide) rfl (fun ls hl => ?_)
                    obtain ⟨z_14, ez_14⟩ : ∃ y : Int32, y = v5_18 + Int32.ofInt 1 := ⟨_, rfl⟩
                    have iz_14 : z_14.toInt = v5_18.toInt + 1 := k_addI ez_14 rfl (by decide) (by omega)
                    refine lv_iinc (v := z_14) (lv' := [(5, .int z_14), (4, .int z_13), (3, .int v3_4), (2, .int v2_4), (0, .ref o), (1, .int x0)]) hx hb dX9_mostAlike_57 hl (k := 1) rfl ez_14.symm (by decide) rfl (fun ls hl => ?_)
                    refine lv_goto (tgt := 18) hx hb dX9_mostAlike_60 (by decide) ?_
                    exact ih18 z_14 z_13 ls (by first | omega | assumption) (by first | omega | assumption) (by omega) (lv_sub hl [0, 1, 2, 3, 4, 5] rfl)
                  · have ic_12 : (g_o_r0 (Int32.toNatClampNeg x0)).toInt = (g_o_r1 (Int32.toNatClampNeg x0)).toInt := k_eq c_12 rfl rfl
                    refine lv_iconst (v := 1) hx hb dX9_mostAlike_49 (by decide) ?_
                    refine lv_goto (tgt := 54) hx hb dX9_mostAlike_50 (by decide) ?_
                    refine lv_iadd hx hb dX9_mostAlike_54 ?_
                    refine lv_topi (fun z_15 ez_15 => ?_)
                    refine lv_istore (lv' := [(4, .int z_15), (5, .int v5_18), (3, .int v3_4), (2, .int v2_4), (0, .ref o), (1, .int x0)]) hx hb dX9_mostAlike_55 hl (by decide) rfl (fun ls hl => ?_)
                    obtain ⟨z_16, ez_16⟩ : ∃ y : Int32, y = v5_18 + Int32.ofInt 1 := ⟨_, rfl⟩
                    have iz_16 : z_16.toInt = v5_18.toInt + 1 := k_addI ez_16 rfl (by decide) (by omega)
                    refine lv_iinc (v := z_16) (lv' := [(5, .int z_16), (4, .int z_15), (3, .int v3_4), (2, .int v2_4), (0, .ref o), (1, .int x0)]) hx hb dX9_mostAlike_57 hl (k := 1) rfl ez_16.symm (by decide) rfl (fun ls hl => ?_)
                    refine lv_goto (tgt := 18) hx hb dX9_mostAlike_60 (by decide) ?_
                    exact ih18 z_16 z_15 ls (by first | omega | assumption) (by first | omega | assumption) (by omega) (lv_sub hl [0, 1, 2, 3, 4, 5] rfl)
                · refine k_tv (z := .ref o_r2) (by rw [k_clE (k := 2) sp_6, hw_o2]; rfl) ?_
                  refine lv_iload_n hx hb dX9_mostAlike_44 rfl (lv_at hl 5 rfl) ?_
                  refine va_iald hx hb hE.1 hP 4 0 rfl rfl (k_in (by omega)) dX9_mostAlike_45 ?_
                  refine k_top (z := (g_o_r2 (Int32.toNatClampNeg x0))) rfl ?_
                  refine lv_icmp_ne (tgt := 53) hx hb dX9_mostAlike_46 (by decide) (fun c_17 => ?_) (fun c_17 => ?_)
                  · have ic_17 : (g_o_r0 (Int32.toNatClampNeg x0)).toInt ≠ (g_o_r2 (Int32.toNatClampNeg x0)).toInt := k_ne c_17 rfl rfl
                    refine lv_iconst (v := 0) hx hb dX9_mostAlike_53 (by decide) ?_
                    refine lv_iadd hx hb dX9_mostAlike_54 ?_
                    refine lv_topi (fun z_18 ez_18 => ?_)
                    refine lv_istore (lv' := [(4, .int z_18), (5, .int v5_18), (3, .int v3_4), (2, .int v2_4), (0, .ref o), (1, .int x0)]) hx hb dX9_mostAlike_55 hl (by decide) rfl (fun ls hl => ?_)
                    obtain ⟨z_19, ez_19⟩ : ∃ y : Int32, y = v5_18 + Int32.ofInt 1 := ⟨_, rfl⟩
                    have iz_19 : z_19.toInt = v5_18.toInt + 1 := k_addI ez_19 rfl (by decide) (by omega)
                    refine lv_iinc (v := z_19) (lv' := [(5, .int z_19), (4, .int z_18), (3, .int v3_4), (2, .int v2_4), (0, .ref o), (1, .int x0)]) hx hb dX9_mostAlike_57 hl (k := 1) rfl ez_19.symm (by decide) rfl (fun ls hl => ?_)
                    refine lv_goto (tgt := 18) hx hb dX9_mostAlike_60 (by decide) ?_
                    exact ih18 z_19 z_18 ls (by first | omega | assumption) (by first | omega | assumption) (by omega) (lv_sub hl [0, 1, 2, 3, 4, 5] rfl)
                  · have ic_17 : (g_o_r0 (Int32.toNatClampNeg x0)).toInt = (g_o_r2 (Int32.toNatClampNeg x0)).toInt := k_eq c_17 rfl rfl
                    refine lv_iconst (v := 1) hx hb dX9_mostAlike_49 (by decide) ?_
                    refine lv_goto (tgt := 54) hx hb dX9_mostAlike_50 (by decide) ?_
                    refine lv_iadd hx hb dX9_mostAlike_54 ?_
                    refine lv_topi (fun z_20 ez_20 => ?_)
                    refine lv_istore (lv' := [(4, .int z_20), (5, .int v5_18), (3, .int v3_4), (2, .int v2_4), (0, .ref o), (1, .int x0)]) hx hb dX9_mostAlike_55 hl (by decide) rfl (fun ls hl => ?_)
                    obtain ⟨z_21, ez_21⟩ : ∃ y : Int32, y = v5_18 + Int32.ofInt 1 := ⟨_, rfl⟩
                    have iz_21 : z_21.toInt = v5_18.toInt + 1 := k_addI ez_21 rfl (by decide) (by omega)
                    refine lv_iinc (v := z_21) (lv' := [(5, .int z_21), (4, .int z_20), (3, .int v3_4), (2, .int v2_4), (0, .ref o), (1, .int x0)]) hx hb dX9_mostAlike_57 hl (k := 1) rfl ez_21.symm (by decide) rfl (fun ls hl => ?_)
                    refine lv_goto (tgt := 18) hx hb dX9_mostAlike_60 (by decide) ?_
                    exact ih18 z_21 z_20 ls (by first | omega | assumption) (by first | omega | assumption) (by omega) (lv_sub hl [0, 1, 2, 3, 4, 5] rfl)
                · refine k_tv (z := .ref o_r3) (by rw [k_clE (k := 3) sp_6, hw_o3]; rfl) ?_
                  refine lv_iload_n hx hb dX9_mostAlike_44 rfl (lv_at hl 5 rfl) ?_
                  refine va_iald hx hb hE.1 hP 5 0 rfl rfl (k_in (by omega)) dX9_mostAlike_45 ?_
                  refine k_top (z := (g_o_r3 (Int32.toNatClampNeg x0))) rfl ?_
                  refine lv_icmp_ne (tgt := 53) hx hb dX9_mostAlike_46 (by decide) (fun c_22 => ?_) (fun c_22 => ?_)
                  · have ic_22 : (g_o_r0 (Int32.toNatClampNeg x0)).toInt ≠ (g_o_r3 (Int32.toNatClampNeg x0)).toInt := k_ne c_22 rfl rfl
                    refine lv_iconst (v := 0) hx hb dX9_mostAlike_53 (by decide) ?_
                    refine lv_iadd hx hb dX9_mostAlike_54 ?_
                    refine lv_topi (fun z_23 ez_23 => ?_)
                    refine lv_istore (lv' := [(4, .int z_23), (5, .int v5_18), (3, .int v3_4), (2, .int v2_4), (0, .ref o), (1, .int x0)]) hx hb dX9_mostAlike_55 hl (by decide) rfl (fun ls hl => ?_)
                    obtain ⟨z_24, ez_24⟩ : ∃ y : Int32, y = v5_18 + Int32.ofInt 1 := ⟨_, rfl⟩
                    have iz_24 : z_24.toInt = v5_18.toInt + 1 := k_addI ez_24 rfl (by decide) (by omega)
                    refine lv_iinc (v := z_24) (lv' := [(5, .int z_24), (4, .int z_23), (3, .int v3_4), (2, .int v2_4), (0, .ref o), (1, .int x0)]) hx hb dX9_mostAlike_57 hl (k := 1) rfl ez_24.symm (by decide) rfl (fun ls hl => ?_)
                    refine lv_goto (tgt := 18) hx hb dX9_mostAlike_60 (by decide) ?_
                    exact ih18 z_24 z_23 ls (by first | omega | assumption) (by first | omega | assumption) (by omega) (lv_sub hl [0, 1, 2, 3, 4, 5] rfl)
                  · have ic_22 : (g_o_r0 (Int32.toNatClampNeg x0)).toInt = (g_o_r3 (Int32.toNatClampNeg x0)).toInt := k_eq c_22 rfl rfl
                    refine lv_iconst (v := 1) hx hb dX9_mostAlike_49 (by decide) ?_
                    refine lv_goto (tgt := 54) hx hb dX9_mostAlike_50 (by decide) ?_
                    refine lv_iadd hx hb dX9_mostAlike_54 ?_
                    refine lv_topi (fun z_25 ez_25 => ?_)
                    refine lv_istore (lv' := [(4, .int z_25), (5, .int v5_18), (3, .int v3_4), (2, .int v2_4), (0, .ref o), (1, .int x0)]) hx hb dX9_mostAlike_55 hl (by decide) rfl (fun ls hl => ?_)
                    obtain ⟨z_26, ez_26⟩ : ∃ y : Int32, y = v5_18 + Int32.ofInt 1 := ⟨_, rfl⟩
                    have iz_26 : z_26.toInt = v5_18.toInt + 1 := k_addI ez_26 rfl (by decide) (by omega)
                    refine lv_iinc (v := z_26) (lv' := [(5, .int z_26), (4, .int z_25), (3, .int v3_4), (2, .int v2_4), (0, .ref o), (1, .int x0)]) hx hb dX9_mostAlike_57 hl (k := 1) rfl ez_26.symm (by decide) rfl (fun ls hl => ?_)
                    refine lv_goto (tgt := 18) hx hb dX9_mostAlike_60 (by decide) ?_
                    exact ih18 z_26 z_25 ls (by first | omega | assumption) (by first | omega | assumption) (by omega) (lv_sub hl [0, 1, 2, 3, 4, 5] rfl)
                · refine k_tv (z := .ref o_r4) (by rw [k_clE (k := 4) sp_6, hw_o4]; rfl) ?_
                  refine lv_iload_n hx hb dX9_mostAlike_44 rfl (lv_at hl 5 rfl) ?_
                  refine va_iald hx hb hE.1 hP 6 0 rfl rfl (k_in (by omega)) dX9_mostAlike_45 ?_
                  refine k_top (z := (g_o_r4 (Int32.toNatClampNeg x0))) rfl ?_
                  refine lv_icmp_ne (tgt := 53) hx hb dX9_mostAlike_46 (by decide) (fun c_27 => ?_) (fun c_27 => ?_)
                  · have ic_27 : (g_o_r0 (Int32.toNatClampNeg x0)).toInt ≠ (g_o_r4 (Int32.toNatClampNeg x0)).toInt := k_ne c_27 rfl rfl
                    refine lv_iconst (v := 0) hx hb dX9_mostAlike_53 (by decide) ?_
                    refine lv_iadd hx hb dX9_mostAlike_54 ?_
                    refine lv_topi (fun z_28 ez_28 => ?_)
                    refine lv_istore (lv' := [(4, .int z_28), (5, .int v5_18), (3, .int v3_4), (2, .int v2_4), (0, .ref o), (1, .int x0)]) hx hb dX9_mostAlike_55 hl (by decide) rfl (fun ls hl => ?_)
                    obtain ⟨z_29, ez_29⟩ : ∃ y : Int32, y = v5_18 + Int32.ofInt 1 := ⟨_, rfl⟩
                    have iz_29 : z_29.toInt = v5_18.toInt + 1 := k_addI ez_29 rfl (by decide) (by omega)
                    refine lv_iinc (v := z_29) (lv' := [(5, .int z_29), (4, .int z_28), (3, .int v3_4), (2, .int v2_4), (0, .ref o), (1, .int x0)]) hx hb dX9_mostAlike_57 hl (k := 1) rfl ez_29.symm (by decide) rfl (fun ls hl => ?_)
                    refine lv_goto (tgt := 18) hx hb dX9_mostAlike_60 (by decide) ?_
                    exact ih18 z_29 z_28 ls (by first | omega | assumption) (by first | omega | assumption) (by omega) (lv_sub hl [0, 1, 2, 3, 4, 5] rfl)
                  · have ic_27 : (g_o_r0 (Int32.toNatClampNeg x0)).toInt = (g_o_r4 (Int32.toNatClampNeg x0)).toInt := k_eq c_27 rfl rfl
                    refine lv_iconst (v := 1) hx hb dX9_mostAlike_49 (by decide) ?_
                    refine lv_goto (tgt := 54) hx hb dX9_mostAlike_50 (by decide) ?_
                    refine lv_iadd hx hb dX9_mostAlike_54 ?_
                    refine lv_topi (fun z_30 ez_30 => ?_)
                    refine lv_istore (lv' := [(4, .int z_30), (5, .int v5_18), (3, .int v3_4), (2, .int v2_4), (0, .ref o), (1, .int x0)]) hx hb dX9_mostAlike_55 hl (by decide) rfl (fun ls hl => ?_)
                    obtain ⟨z_31, ez_31⟩ : ∃ y : Int32, y = v5_18 + Int32.ofInt 1 := ⟨_, rfl⟩
                    have iz_31 : z_31.toInt = v5_18.toInt + 1 := k_addI ez_31 rfl (by decide) (by omega)
                    refine lv_iinc (v := z_31) (lv' := [(5, .int z_31), (4, .int z_30), (3, .int v3_4), (2, .int v2_4), (0, .ref o), (1, .int x0)]) hx hb dX9_mostAlike_57 hl (k := 1) rfl ez_31.symm (by decide) rfl (fun ls hl => ?_)
                    refine lv_goto (tgt := 18) hx hb dX9_mostAlike_60 (by decide) ?_
                    exact ih18 z_31 z_30 ls (by first | omega | assumption) (by first | omega | assumption) (by omega) (lv_sub hl [0, 1, 2, 3, 4, 5] rfl)
                · refine k_tv (z := .ref o_r5) (by rw [k_clE (k := 5) sp_6, hw_o5]; rfl) ?_
                  refine lv_iload_n hx hb dX9_mostAlike_44 rfl (lv_at hl 5 rfl) ?_
                  refine va_iald hx hb hE.1 hP 7 0 rfl rfl (k_in (by omega)) dX9_mostAlike_45 ?_
                  refine k_top (z := (g_o_r5 (Int32.toNatClampNeg x0))) rfl ?_
                  refine lv_icmp_ne (tgt := 53) hx hb dX9_mostAlike_46 (by decide) (fun c_32 => ?_) (fun c_32 => ?_)
                  · have ic_32 : (g_o_r0 (Int32.toNatClampNeg x0)).toInt ≠ (g_o_r5 (Int32.toNatClampNeg x0)).toInt := k_ne c_32 rfl rfl
                    refine lv_iconst (v := 0) hx hb dX9_mostAlike_53 (by decide) ?_
                    refine lv_iadd hx hb dX9_mostAlike_54 ?_
                    refine lv_topi (fun z_33 ez_33 => ?_)
                    refine lv_istore (lv' := [(4, .int z_33), (5, .int v5_18), (3, .int v3_4), (2, .int v2_4), (0, .ref o), (1, .int x0)]) hx hb dX9_mostAlike_55 hl (by decide) rfl (fun ls hl => ?_)
                    obtain ⟨z_34, ez_34⟩ : ∃ y : Int32, y = v5_18 + Int32.ofInt 1 := ⟨_, rfl⟩
                    have iz_34 : z_34.toInt = v5_18.toInt + 1 := k_addI ez_34 rfl (by decide) (by omega)
                    refine lv_iinc (v := z_34) (lv' := [(5, .int z_34), (4, .int z_33), (3, .int v3_4), (2, .int v2_4), (0, .ref o), (1, .int x0)]) hx hb dX9_mostAlike_57 hl (k := 1) rfl ez_34.symm (by decide) rfl (fun ls hl => ?_)
                    refine lv_goto (tgt := 18) hx hb dX9_mostAlike_60 (by decide) ?_
                    exact ih18 z_34 z_33 ls (by first | omega | assumption) (by first | omega | assumption) (by omega) (lv_sub hl [0, 1, 2, 3, 4, 5] rfl)
                  · have ic_32 : (g_o_r0 (Int32.toNatClampNeg x0)).toInt = (g_o_r5 (Int32.toNatClampNeg x0)).toInt := k_eq c_32 rfl rfl
                    refine lv_iconst (v := 1) hx hb dX9_mostAlike_49 (by decide) ?_
                    refine lv_goto (tgt := 54) hx hb dX9_mostAlike_50 (by decide) ?_
                    refine lv_iadd hx hb dX9_mostAlike_54 ?_
                    refine lv_topi (fun z_35 ez_35 => ?_)
                    refine lv_istore (lv' := [(4, .int z_35), (5, .int v5_18), (3, .int v3_4), (2, .int v2_4), (0, .ref o), (1, .int x0)]) hx hb dX9_mostAlike_55 hl (by decide) rfl (fun ls hl => ?_)
                    obtain ⟨z_36, ez_36⟩ : ∃ y : Int32, y = v5_18 + Int32.ofInt 1 := ⟨_, rfl⟩
                    have iz_36 : z_36.toInt = v5_18.toInt + 1 := k_addI ez_36 rfl (by decide) (by omega)
                    refine lv_iinc (v := z_36) (lv' := [(5, .int z_36), (4, .int z_35), (3, .int v3_4), (2, .int v2_4), (0, .ref o), (1, .int x0)]) hx hb dX9_mostAlike_57 hl (k := 1) rfl ez_36.symm (by decide) rfl (fun ls hl => ?_)
                    refine lv_goto (tgt := 18) hx hb dX9_mostAlike_60 (by decide) ?_
                    exact ih18 z_36 z_35 ls (by first | omega | assumption) (by first | omega | assumption) (by omega) (lv_sub hl [0, 1, 2, 3, 4, 5] rfl)
                · refine k_tv (z := .ref o_r6) (by rw [k_clE (k := 6) sp_6, hw_o6]; rfl) ?_
                  refine lv_iload_n hx hb dX9_mostAlike_44 rfl (lv_at hl 5 rfl) ?_
                  refine va_iald hx hb hE.1 hP 8 0 rfl rfl (k_in (by omega)) dX9_mostAlike_45 ?_
                  refine k_top (z := (g_o_r6 (Int32.toNatClampNeg x0))) rfl ?_
                  refine lv_icmp_ne (tgt := 53) hx hb dX9_mostAlike_46 (by decide) (fun c_37 => ?_) (fun c_37 => ?_)
                  · have ic_37 : (g_o_r0 (Int32.toNatClampNeg x0)).toInt ≠ (g_o_r6 (Int32.toNatClampNeg x0)).toInt := k_ne c_37 rfl rfl
                    refine lv_iconst (v := 0) hx hb dX9_mostAlike_53 (by decide) ?_
                    refine lv_iadd hx hb dX9_mostAlike_54 ?_
                    refine lv_topi (fun z_38 ez_38 => ?_)
                    refine lv_istore (lv' := [(4, .int z_38), (5, .int v5_18), (3, .int v3_4), (2, .int v2_4), (0, .ref o), (1, .int x0)]) hx hb dX9_mostAlike_55 hl (by decide) rfl (fun ls hl => ?_)
                    obtain ⟨z_39, ez_39⟩ : ∃ y : Int32, y = v5_18 + Int32.ofInt 1 := ⟨_, rfl⟩
                    have iz_39 : z_39.toInt = v5_18.toInt + 1 := k_addI ez_39 rfl (by decide) (by omega)
                    refine lv_iinc (v := z_39) (lv' := [(5, .int z_39), (4, .int z_38), (3, .int v3_4), (2, .int v2_4), (0, .ref o), (1, .int x0)]) hx hb dX9_mostAlike_57 hl (k := 1) rfl ez_39.symm (by decide) rfl (fun ls hl => ?_)
                    refine lv_goto (tgt := 18) hx hb dX9_mostAlike_60 (by decide) ?_
                    exact ih18 z_39 z_38 ls (by first | omega | assumption) (by first | omega | assumption) (by omega) (lv_sub hl [0, 1, 2, 3, 4, 5] rfl)
                  · have ic_37 : (g_o_r0 (Int32.toNatClampNeg x0)).toInt = (g_o_r6 (Int32.toNatClampNeg x0)).toInt := k_eq c_37 rfl rfl
                    refine lv_iconst (v := 1) hx hb dX9_mostAlike_49 (by decide) ?_
                    refine lv_goto (tgt := 54) hx hb dX9_mostAlike_50 (by decide) ?_
                    refine lv_iadd hx hb dX9_mostAlike_54 ?_
                    refine lv_topi (fun z_40 ez_40 => ?_)
                    refine lv_istore (lv' := [(4, .int z_40), (5, .int v5_18), (3, .int v3_4), (2, .int v2_4), (0, .ref o), (1, .int x0)]) hx hb dX9_mostAlike_55 hl (by decide) rfl (fun ls hl => ?_)
                    obtain ⟨z_41, ez_41⟩ : ∃ y : Int32, y = v5_18 + Int32.ofInt 1 := ⟨_, rfl⟩
                    have iz_41 : z_41.toInt = v5_18.toInt + 1 := k_addI ez_41 rfl (by decide) (by omega)
                    refine lv_iinc (v := z_41) (lv' := [(5, .int z_41), (4, .int z_40), (3, .int v3_4), (2, .int v2_4), (0, .ref o), (1, .int x0)]) hx hb dX9_mostAlike_57 hl (k := 1) rfl ez_41.symm (by decide) rfl (fun ls hl => ?_)
                    refine lv_goto (tgt := 18) hx hb dX9_mostAlike_60 (by decide) ?_
                    exact ih18 z_41 z_40 ls (by first | omega | assumption) (by first | omega | assumption) (by omega) (lv_sub hl [0, 1, 2, 3, 4, 5] rfl)
              · refine k_tv (z := .ref o_r1) (by rw [k_clE (k := 1) sp_5, hw_o1]; rfl) ?_
                refine lv_iload_n hx hb dX9_mostAlike_35 rfl (lv_at hl 5 rfl) ?_
                refine va_iald hx hb hE.1 hP 3 0 rfl rfl (k_in (by omega)) dX9_mostAlike_36 ?_
                refine k_top (z := (g_o_r1 (Int32.toNatClampNeg x0))) rfl ?_
                refine lv_aload_n hx hb dX9_mostAlike_37 rfl (lv_at hl 4 rfl) ?_
                refine va_get (D := D) (ci := 9) (v := .ref o_cm) (C := RX9) (T := TX9) (N := 3) hx hb hG inG_X9 hown hE.1 hP 0 rfl rfl 2 (by decide) (hG _ q_f_X9_20) (fun _ h9 => h9) rfl dX9_mostAlike_38 ?_
                refine lv_iload hx hb dX9_mostAlike_41 (lv_at hl 0 rfl) ?_
                refine k_aldr hx hb hE.1 hP 1 6 rfl rfl (k_in (by omega)) dX9_mostAlike_43 ?_
                have sp_42 : v5_18.toInt = 0 ∨ v5_18.toInt = 1 ∨ v5_18.toInt = 2 ∨ v5_18.toInt = 3 ∨ v5_18.toInt = 4 ∨ v5_18.toInt = 5 ∨ v5_18.toInt = 6 := by omega
                rcases sp_42 with sp_42 | sp_42 | sp_42 | sp_42 | sp_42 | sp_42 | sp_42
                · refine k_tv (z := .ref o_r0) (by rw [k_clE (k := 0) sp_42, hw_o0]; rfl) ?_
                  refine lv_iload_n hx hb dX9_mostAlike_44 rfl (lv_at hl 5 rfl) ?_
                  refine va_iald hx hb hE.1 hP 2 0 rfl rfl (k_in (by omega)) dX9_mostAlike_45 ?_
                  refine k_top (z := (g_o_r0 (Int32.toNatClampNeg x0))) rfl ?_
                  refine lv_icmp_ne (tgt := 53) hx hb dX9_mostAlike_46 (by decide) (fun c_43 => ?_) (fun c_43 => ?_)
                  · have ic_43 : (g_o_r1 (Int32.toNatClampNeg x0)).toInt ≠ (g_o_r0 (Int32.toNatClampNeg x0)).toInt := k_ne c_43 rfl rfl
                    refine lv_iconst (v := 0) hx hb dX9_mostAlike_53 (by decide) ?_
                    refine lv_iadd hx hb dX9_mostAlike_54 ?_
                    refine lv_topi (fun z_44 ez_44 => ?_)
                    refine lv_istore (lv' := [(4, .int z_44), (5, .int v5_18), (3, .int v3_4), (2, .int v2_4), (0, .ref o), (1, .int x0)]) hx hb dX9_mostAlike_55 hl (by decide) rfl (fun ls hl => ?_)
                    obtain ⟨z_45, ez_45⟩ : ∃ y : Int32, y = v5_18 + Int32.ofInt 1 := ⟨_, rfl⟩
                    have iz_45 : z_45.toInt = v5_18.toInt + 1 := k_addI ez_45 rfl (by decide) (by omega)
                    refine lv_iinc (v := z_45) (lv' := [(5, .int z_45), (4, .int z_44), (3, .int v3_4), (2, .int v2_4), (0, .ref o), (1, .int x0)]) hx hb dX9_mostAlike_57 hl (k := 1) rfl ez_45.symm (by decide) rfl (fun ls hl => ?_)
                    refine lv_goto (tgt := 18) hx hb dX9_mostAlike_60 (by decide) ?_
                    exact ih18 z_45 z_44 ls (by first | omega | assumption) (by first | omega | assumption) (by omega) (lv_sub hl [0, 1, 2, 3, 4, 5] rfl)
                  · have ic_43 : (g_o_r1 (Int32.toNatClampNeg x0)).toInt = (g_o_r0 (Int32.toNatClampNeg x0)).toInt := k_eq c_43 rfl rfl
                    refine lv_iconst (v := 1) hx hb dX9_mostAlike_49 (by decide) ?_
                    refine lv_goto (tgt := 54) hx hb dX9_mostAlike_50 (by decide) ?_
                    refine lv_iadd hx hb dX9_mostAlike_54 ?_
                    refine lv_topi (fun z_46 ez_46 => ?_)
                    refine lv_istore (lv' := [(4, .int z_46), (5, .int v5_18), (3, .int v3_4), (2, .int v2_4), (0, .ref o), (1, .int x0)]) hx hb dX9_mostAlike_55 hl (by decide) rfl (fun ls hl => ?_)
                    obtain ⟨z_47, ez_47⟩ : ∃ y : Int32, y = v5_18 + Int32.ofInt 1 := ⟨_, rfl⟩
                    have iz_47 : z_47.toInt = v5_18.toInt + 1 := k_addI ez_47 rfl (by decide) (by omega)
                    refine lv_iinc (v := z_47) (lv' := [(5, .int z_47), (4, .int z_46), (3, .int v3_4), (2, .int v2_4), (0, .ref o), (1, .int x0)]) hx hb dX9_mostAlike_57 hl (k := 1) rfl ez_47.symm (by decide) rfl (fun ls hl => ?_)
                    refine lv_goto (tgt := 18) hx hb dX9_mostAlike_60 (by decide) ?_
                    exact ih18 z_47 z_46 ls (by first | omega | assumption) (by first | omega | assumption) (by omega) (lv_sub hl [0, 1, 2, 3, 4, 5] rfl)
                · refine k_tv (z := .ref o_r1) (by rw [k_clE (k := 1) sp_42, hw_o1]; rfl) ?_
                  refine lv_iload_n hx hb dX9_mostAlike_44 rfl (lv_at hl 5 rfl) ?_
                  refine va_iald hx hb hE.1 hP 3 0 rfl rfl (k_in (by omega)) dX9_mostAlike_45 ?_
                  refine k_top (z := (g_o_r1 (Int32.toNatClampNeg x0))) rfl ?_
                  refine lv_icmp_ne (tgt := 53) hx hb dX9_mostAlike_46 (by decide) (fun c_48 => ?_) (fun c_48 => ?_)
                  · have ic_48 : (g_o_r1 (Int32.toNatClampNeg x0)).toInt ≠ (g_o_r1 (Int32.toNatClampNeg x0)).toInt := k_ne c_48 rfl rfl
                    refine lv_iconst (v := 0) hx hb dX9_mostAlike_53 (by decide) ?_
                    refine lv_iadd hx hb dX9_mostAlike_54 ?_
                    refine lv_topi (fun z_49 ez_49 => ?_)
                    refine lv_istore (lv' := [(4, .int z_49), (5, .int v5_18), (3, .int v3_4), (2, .int v2_4), (0, .ref o), (1, .int x0)]) hx hb dX9_mostAlike_55 hl (by decide) rfl (fun ls hl => ?_)
                    obtain ⟨z_50, ez_50⟩ : ∃ y : Int32, y = v5_18 + Int32.ofInt 1 := ⟨_, rfl⟩
                    have iz_50 : z_50.toInt = v5_18.toInt + 1 := k_addI ez_50 rfl (by decide) (by omega)
                    refine lv_iinc (v := z_50) (lv' := [(5, .int z_50), (4, .int z_49), (3, .int v3_4), (2, .int v2_4), (0, .ref o), (1, .int x0)]) hx hb dX9_mostAlike_57 hl (k := 1) rfl ez_50.symm (by decide) rfl (fun ls hl => ?_)
                    refine lv_goto (tgt := 18) hx hb dX9_mostAlike_60 (by decide) ?_
                    exact ih18 z_50 z_49 ls (by first | omega | assumption) (by first | omega | assumption) (by omega) (lv_sub hl [0, 1, 2, 3, 4, 5] rfl)
                  · have ic_48 : (g_o_r1 (Int32.toNatClampNeg x0)).toInt = (g_o_r1 (Int32.toNatClampNeg x0)).toInt := k_eq c_48 rfl rfl
                    refine lv_iconst (v := 1) hx hb dX9_mostAlike_49 (by decide) ?_
                    refine lv_goto (tgt := 54) hx hb dX9_mostAlike_50 (by decide) ?_
                    refine lv_iadd hx hb dX9_mostAlike_54 ?_
                    refine lv_topi (fun z_51 ez_51 => ?_)
                    refine lv_istore (lv' := [(4, .int z_51), (5, .int v5_18), (3, .int v3_4), (2, .int v2_4), (0, .ref o), (1, .int x0)]) hx hb dX9_mostAlike_55 hl (by decide) rfl (fun ls hl => ?_)
                    obtain ⟨z_52, ez_52⟩ : ∃ y : Int32, y = v5_18 + Int32.ofInt 1 := ⟨_, rfl⟩
                    have iz_52 : z_52.toInt = v5_18.toInt + 1 := k_addI ez_52 rfl (by decide) (by omega)
                    refine lv_iinc (v := z_52) (lv' := [(5, .int z_52), (4, .int z_51), (3, .int v3_4), (2, .int v2_4), (0, .ref o), (1, .int x0)]) hx hb dX9_mostAlike_57 hl (k := 1) rfl ez_52.symm (by decide) rfl (fun ls hl => ?_)
                    refine lv_goto (tgt := 18) hx hb dX9_mostAlike_60 (by decide) ?_
                    exact ih18 z_52 z_51 ls (by first | omega | assumption) (by first | omega | assumption) (by omega) (lv_sub hl [0, 1, 2, 3, 4, 5] rfl)
                · refine k_tv (z := .ref o_r2) (by rw [k_clE (k := 2) sp_42, hw_o2]; rfl) ?_
                  refine lv_iload_n hx hb dX9_mostAlike_44 rfl (lv_at hl 5 rfl) ?_
                  refine va_iald hx hb hE.1 hP 4 0 rfl rfl (k_in (by omega)) dX9_mostAlike_45 ?_
                  refine k_top (z := (g_o_r2 (Int32.toNatClampNeg x0))) rfl ?_
                  refine lv_icmp_ne (tgt := 53) hx hb dX9_mostAlike_46 (by decide) (fun c_53 => ?_) (fun c_53 => ?_)
                  · have ic_53 : (g_o_r1 (Int32.toNatClampNeg x0)).toInt ≠ (g_o_r2 (Int32.toNatClampNeg x0)).toInt := k_ne c_53 rfl rfl
                    refine lv_iconst (v := 0) hx hb dX9_mostAlike_53 (by decide) ?_
                    refine lv_iadd hx hb dX9_mostAlike_54 ?_
                    refine lv_topi (fun z_54 ez_54 => ?_)
                    refine lv_istore (lv' := [(4, .int z_54), (5, .int v5_18), (3, .int v3_4), (2, .int v2_4), (0, .ref o), (1, .int x0)]) hx hb dX9_mostAlike_55 hl (by decide) rfl (fun ls hl => ?_)
                    obtain ⟨z_55, ez_55⟩ : ∃ y : Int32, y = v5_18 + Int32.ofInt 1 := ⟨_, rfl⟩
                    have iz_55 : z_55.toInt = v5_18.toInt + 1 := k_addI ez_55 rfl (by decide) (by omega)
                    refine lv_iinc (v := z_55) (lv' := [(5, .int z_55), (4, .int z_54), (3, .int v3_4), (2, .int v2_4), (0, .ref o), (1, .int x0)]) hx hb dX9_mostAlike_57 hl (k := 1) rfl ez_55.symm (by decide) rfl (fun ls hl => ?_)
                    refine lv_goto (tgt := 18) hx hb dX9_mostAlike_60 (by decide) ?_
                    exact ih18 z_55 z_54 ls (by first | omega | assumption) (by first | omega | assumption) (by omega) (lv_sub hl [0, 1, 2, 3, 4, 5] rfl)
                  · have ic_53 : (g_o_r1 (Int32.toNatClampNeg x0)).toInt = (g_o_r2 (Int32.toNatClampNeg x0)).toInt := k_eq c_53 rfl rfl
                    refine lv_iconst (v := 1) hx hb dX9_mostAlike_49 (by decide) ?_
                    refine lv_goto (tgt := 54) hx hb dX9_mostAlike_50 (by decide) ?_
                    refine lv_iadd hx hb dX9_mostAlike_54 ?_
                    refine lv_topi (fun z_56 ez_56 => ?_)
                    refine lv_istore (lv' := [(4, .int z_56), (5, .int v5_18), (3, .int v3_4), (2, .int v2_4), (0, .ref o), (1, .int x0)]) hx hb dX9_mostAlike_55 hl (by decide) rfl (fun ls hl => ?_)
                    obtain ⟨z_57, ez_57⟩ : ∃ y : Int32, y = v5_18 + Int32.ofInt 1 := ⟨_, rfl⟩
                    have iz_57 : z_57.toInt = v5_18.toInt + 1 := k_addI ez_57 rfl (by decide) (by omega)
                    refine lv_iinc (v := z_57) (lv' := [(5, .int z_57), (4, .int z_56), (3, .int v3_4), (2, .int v2_4), (0, .ref o), (1, .int x0)]) hx hb dX9_mostAlike_57 hl (k := 1) rfl ez_57.symm (by decide) rfl (fun ls hl => ?_)
                    refine lv_goto (tgt := 18) hx hb dX9_mostAlike_60 (by decide) ?_
                    exact ih18 z_57 z_56 ls (by first | omega | assumption) (by first | omega | assumption) (by omega) (lv_sub hl [0, 1, 2, 3, 4, 5] rfl)
                · refine k_tv (z := .ref o_r3) (by rw [k_clE (k := 3) sp_42, hw_o3]; rfl) ?_
                  refine lv_iload_n hx hb dX9_mostAlike_44 rfl (lv_at hl 5 rfl) ?_
                  refine va_iald hx hb hE.1 hP 5 0 rfl rfl (k_in (by omega)) dX9_mostAlike_45 ?_
                  refine k_top (z := (g_o_r3 (Int32.toNatClampNeg x0))) rfl ?_
                  refine lv_icmp_ne (tgt := 53) hx hb dX9_mostAlike_46 (by decide) (fun c_58 => ?_) (fun c_58 => ?_)
                  · have ic_58 : (g_o_r1 (Int32.toNatClampNeg x0)).toInt ≠ (g_o_r3 (Int32.toNatClampNeg x0)).toInt := k_ne c_58 rfl rfl
                    refine lv_iconst (v := 0) hx hb dX9_mostAlike_53 (by decide) ?_
                    refine lv_iadd hx hb dX9_mostAlike_54 ?_
                    refine lv_topi (fun z_59 ez_59 => ?_)
                    refine lv_istore (lv' := [(4, .int z_59), (5, .int v5_18), (3, .int v3_4), (2, .int v2_4), (0, .ref o), (1, .int x0)]) hx hb dX9_mostAlike_55 hl (by decide) rfl (fun ls hl => ?_)
                    obtain ⟨z_60, ez_60⟩ : ∃ y : Int32, y = v5_18 + Int32.ofInt 1 := ⟨_, rfl⟩
                    have iz_60 : z_60.toInt = v5_18.toInt + 1 := k_addI ez_60 rfl (by decide) (by omega)
                    refine lv_iinc (v := z_60) (lv' := [(5, .int z_60), (4, .int z_59), (3, .int v3_4), (2, .int v2_4), (0, .ref o), (1, .int x0)]) hx hb dX9_mostAlike_57 hl (k := 1) rfl ez_60.symm (by decide) rfl (fun ls hl => ?_)
                    refine lv_goto (tgt := 18) hx hb dX9_mostAlike_60 (by decide) ?_
                    exact ih18 z_60 z_59 ls (by first | omega | assumption) (by first | omega | assumption) (by omega) (lv_sub hl [0, 1, 2, 3, 4, 5] rfl)
                  · have ic_58 : (g_o_r1 (Int32.toNatClampNeg x0)).toInt = (g_o_r3 (Int32.toNatClampNeg x0)).toInt := k_eq c_58 rfl rfl
                    refine lv_iconst (v := 1) hx hb dX9_mostAlike_49 (by decide) ?_
                    refine lv_goto (tgt := 54) hx hb dX9_mostAlike_50 (by decide) ?_
                    refine lv_iadd hx hb dX9_mostAlike_54 ?_
                    refine lv_topi (fun z_61 ez_61 => ?_)
                    refine lv_istore (lv' := [(4, .int z_61), (5, .int v5_18), (3, .int v3_4), (2, .int v2_4), (0, .ref o), (1, .int x0)]) hx hb dX9_mostAlike_55 hl (by decide) rfl (fun ls hl => ?_)
                    obtain ⟨z_62, ez_62⟩ : ∃ y : Int32, y = v5_18 + Int32.ofInt 1 := ⟨_, rfl⟩
                    have iz_62 : z_62.toInt = v5_18.toInt + 1 := k_addI ez_62 rfl (by decide) (by omega)
                    refine lv_iinc (v := z_62) (lv' := [(5, .int z_62), (4, .int z_61), (3, .int v3_4), (2, .int v2_4), (0, .ref o), (1, .int x0)]) hx hb dX9_mostAlike_57 hl (k := 1) rfl ez_62.symm (by decide) rfl (fun ls hl => ?_)
                    refine lv_goto (tgt := 18) hx hb dX9_mostAlike_60 (by decide) ?_
                    exact ih18 z_62 z_61 ls (by first | omega | assumption) (by first | omega | assumption) (by omega) (lv_sub hl [0, 1, 2, 3, 4, 5] rfl)
                · refine k_tv (z := .ref o_r4) (by rw [k_clE (k := 4) sp_42, hw_o4]; rfl) ?_
                  refine lv_iload_n hx hb dX9_mostAlike_44 rfl (lv_at hl 5 rfl) ?_
                  refine va_iald hx hb hE.1 hP 6 0 rfl rfl (k_in (by omega)) dX9_mostAlike_45 ?_
                  refine k_top (z := (g_o_r4 (Int32.toNatClampNeg x0))) rfl ?_
                  refine lv_icmp_ne (tgt := 53) hx hb dX9_mostAlike_46 (by decide) (fun c_63 => ?_) (fun c_63 => ?_)
                  · have ic_63 : (g_o_r1 (Int32.toNatClampNeg x0)).toInt ≠ (g_o_r4 (Int32.toNatClampNeg x0)).toInt := k_ne c_63 rfl rfl
                    refine lv_iconst (v := 0) hx hb dX9_mostAlike_53 (by decide) ?_
                    refine lv_iadd hx hb dX9_mostAlike_54 ?_
                    refine lv_topi (fun z_64 ez_64 => ?_)
                    refine lv_istore (lv' := [(4, .int z_64), (5, .int v5_18), (3, .int v3_4), (2, .int v2_4), (0, .ref o), (1, .int x0)]) hx hb dX9_mostAlike_55 hl (by decide) rfl (fun ls hl => ?_)
                    obtain ⟨z_65, ez_65⟩ : ∃ y : Int32, y = v5_18 + Int32.ofInt 1 := ⟨_, rfl⟩
                    have iz_65 : z_65.toInt = v5_18.toInt + 1 := k_addI ez_65 rfl (by decide) (by omega)
                    refine lv_iinc (v := z_65) (lv' := [(5, .int z_65), (4, .int z_64), (3, .int v3_4), (2, .int v2_4), (0, .ref o), (1, .int x0)]) hx hb dX9_mostAlike_57 hl (k := 1) rfl ez_65.symm (by decide) rfl (fun ls hl => ?_)
                    refine lv_goto (tgt := 18) hx hb dX9_mostAlike_60 (by decide) ?_
                    exact ih18 z_65 z_64 ls (by first | omega | assumption) (by first | omega | assumption) (by omega) (lv_sub hl [0, 1, 2, 3, 4, 5] rfl)
                  · have ic_63 : (g_o_r1 (Int32.toNatClampNeg x0)).toInt = (g_o_r4 (Int32.toNatClampNeg x0)).toInt := k_eq c_63 rfl rfl
                    refine lv_iconst (v := 1) hx hb dX9_mostAlike_49 (by decide) ?_
                    refine lv_goto (tgt := 54) hx hb dX9_mostAlike_50 (by decide) ?_
                    refine lv_iadd hx hb dX9_mostAlike_54 ?_
                    refine lv_topi (fun z_66 ez_66 => ?_)
                    refine lv_istore (lv' := [(4, .int z_66), (5, .int v5_18), (3, .int v3_4), (2, .int v2_4), (0, .ref o), (1, .int x0)]) hx hb dX9_mostAlike_55 hl (by decide) rfl (fun ls hl => ?_)
                    obtain ⟨z_67, ez_67⟩ : ∃ y : Int32, y = v5_18 + Int32.ofInt 1 := ⟨_, rfl⟩
                    have iz_67 : z_67.toInt = v5_18.toInt + 1 := k_addI ez_67 rfl (by decide) (by omega)
                    refine lv_iinc (v := z_67) (lv' := [(5, .int z_67), (4, .int z_66), (3, .int v3_4), (2, .int v2_4), (0, .ref o), (1, .int x0)]) hx hb dX9_mostAlike_57 hl (k := 1) rfl ez_67.symm (by decide) rfl (fun ls hl => ?_)
                    refine lv_goto (tgt := 18) hx hb dX9_mostAlike_60 (by decide) ?_
                    exact ih18 z_67 z_66 ls (by first | omega | assumption) (by first | omega | assumption) (by omega) (lv_sub hl [0, 1, 2, 3, 4, 5] rfl)
                · refine k_tv (z := .ref o_r5) (by rw [k_clE (k := 5) sp_42, hw_o5]; rfl) ?_
                  refine lv_iload_n hx hb dX9_mostAlike_44 rfl (lv_at hl 5 rfl) ?_
                  refine va_iald hx hb hE.1 hP 7 0 rfl rfl (k_in (by omega)) dX9_mostAlike_45 ?_
                  refine k_top (z := (g_o_r5 (Int32.toNatClampNeg x0))) rfl ?_
                  refine lv_icmp_ne (tgt := 53) hx hb dX9_mostAlike_46 (by decide) (fun c_68 => ?_) (fun c_68 => ?_)
                  · have ic_68 : (g_o_r1 (Int32.toNatClampNeg x0)).toInt ≠ (g_o_r5 (Int32.toNatClampNeg x0)).toInt := k_ne c_68 rfl rfl
                    refine lv_iconst (v := 0) hx hb dX9_mostAlike_53 (by decide) ?_
                    refine lv_iadd hx hb dX9_mostAlike_54 ?_
                    refine lv_topi (fun z_69 ez_69 => ?_)
                    refine lv_istore (lv' := [(4, .int z_69), (5, .int v5_18), (3, .int v3_4), (2, .int v2_4), (0, .ref o), (1, .int x0)]) hx hb dX9_mostAlike_55 hl (by decide) rfl (fun ls hl => ?_)
                    obtain ⟨z_70, ez_70⟩ : ∃ y : Int32, y = v5_18 + Int32.ofInt 1 := ⟨_, rfl⟩
                    have iz_70 : z_70.toInt = v5_18.toInt + 1 := k_addI ez_70 rfl (by decide) (by omega)
                    refine lv_iinc (v := z_70) (lv' := [(5, .int z_70), (4, .int z_69), (3, .int v3_4), (2, .int v2_4), (0, .ref o), (1, .int x0)]) hx hb dX9_mostAlike_57 hl (k := 1) rfl ez_70.symm (by decide) rfl (fun ls hl => ?_)
                    refine lv_goto (tgt := 18) hx hb dX9_mostAlike_60 (by decide) ?_
                    exact ih18 z_70 z_69 ls (by first | omega | assumption) (by first | omega | assumption) (by omega) (lv_sub hl [0, 1, 2, 3, 4, 5] rfl)
                  · have ic_68 : (g_o_r1 (Int32.toNatClampNeg x0)).toInt = (g_o_r5 (Int32.toNatClampNeg x0)).toInt := k_eq c_68 rfl rfl
                    refine lv_iconst (v := 1) hx hb dX9_mostAlike_49 (by decide) ?_
                    refine lv_goto (tgt := 54) hx hb dX9_mostAlike_50 (by decide) ?_
                    refine lv_iadd hx hb dX9_mostAlike_54 ?_
                    refine lv_topi (fun z_71 ez_71 => ?_)
                    refine lv_istore (lv' := [(4, .int z_71), (5, .int v5_18), (3, .int v3_4), (2, .int v2_4), (0, .ref o), (1, .int x0)]) hx hb dX9_mostAlike_55 hl (by decide) rfl (fun ls hl => ?_)
                    obtain ⟨z_72, ez_72⟩ : ∃ y : Int32, y = v5_18 + Int32.ofInt 1 := ⟨_, rfl⟩
                    have iz_72 : z_72.toInt = v5_18.toInt + 1 := k_addI ez_72 rfl (by decide) (by omega)
                    refine lv_iinc (v := z_72) (lv' := [(5, .int z_72), (4, .int z_71), (3, .int v3_4), (2, .int v2_4), (0, .ref o), (1, .int x0)]) hx hb dX9_mostAlike_57 hl (k := 1) rfl ez_72.symm (by decide) rfl (fun ls hl => ?_)
                    refine lv_goto (tgt := 18) hx hb dX9_mostAlike_60 (by decide) ?_
                    exact ih18 z_72 z_71 ls (by first | omega | assumption) (by first | omega | assumption) (by omega) (lv_sub hl [0, 1, 2, 3, 4, 5] rfl)
                · refine k_tv (z := .ref o_r6) (by rw [k_clE (k := 6) sp_42, hw_o6]; rfl) ?_
                  refine lv_iload_n hx hb dX9_mostAlike_44 rfl (lv_at hl 5 rfl) ?_
                  refine va_iald hx hb hE.1 hP 8 0 rfl rfl (k_in (by omega)) dX9_mostAlike_45 ?_
                  refine k_top (z := (g_o_r6 (Int32.toNatClampNeg x0))) rfl ?_
                  refine lv_icmp_ne (tgt := 53) hx hb dX9_mostAlike_46 (by decide) (fun c_73 => ?_) (fun c_73 => ?_)
                  · have ic_73 : (g_o_r1 (Int32.toNatClampNeg x0)).toInt ≠ (g_o_r6 (Int32.toNatClampNeg x0)).toInt := k_ne c_73 rfl rfl
                    refine lv_iconst (v := 0) hx hb dX9_mostAlike_53 (by decide) ?_
                    refine lv_iadd hx hb dX9_mostAlike_54 ?_
                    refine lv_topi (fun z_74 ez_74 => ?_)
                    refine lv_istore (lv' := [(4, .int z_74), (5, .int v5_18), (3, .int v3_4), (2, .int v2_4), (0, .ref o), (1, .int x0)]) hx hb dX9_mostAlike_55 hl (by decide) rfl (fun ls hl => ?_)
                    obtain ⟨z_75, ez_75⟩ : ∃ y : Int32, y = v5_18 + Int32.ofInt 1 := ⟨_, rfl⟩
                    have iz_75 : z_75.toInt = v5_18.toInt + 1 := k_addI ez_75 rfl (by decide) (by omega)
                    refine lv_iinc (v := z_75) (lv' := [(5, .int z_75), (4, .int z_74), (3, .int v3_4), (2, .int v2_4), (0, .ref o), (1, .int x0)]) hx hb dX9_mostAlike_57 hl (k := 1) rfl ez_75.symm (by decide) rfl (fun ls hl => ?_)
                    refine lv_goto (tgt := 18) hx hb dX9_mostAlike_60 (by decide) ?_
                    exact ih18 z_75 z_74 ls (by first | omega | assumption) (by first | omega | assumption) (by omega) (lv_sub hl [0, 1, 2, 3, 4, 5] rfl)
                  · have ic_73 : (g_o_r1 (Int32.toNatClampNeg x0)).toInt = (g_o_r6 (Int32.toNatClampNeg x0)).toInt := k_eq c_73 rfl rfl
                    refine lv_iconst (v := 1) hx hb dX9_mostAlike_49 (by decide) ?_
                    refine lv_goto (tgt := 54) hx hb dX9_mostAlike_50 (by decide) ?_
                    refine lv_iadd hx hb dX9_mostAlike_54 ?_
                    refine lv_topi (fun z_76 ez_76 => ?_)
                    refine lv_istore (lv' := [(4, .int z_76), (5, .int v5_18), (3, .int v3_4), (2, .int v2_4), (0, .ref o), (1, .int x0)]) hx hb dX9_mostAlike_55 hl (by decide) rfl (fun ls hl => ?_)
                    obtain ⟨z_77, ez_77⟩ : ∃ y : Int32, y = v5_18 + Int32.ofInt 1 := ⟨_, rfl⟩
                    have iz_77 : z_77.toInt = v5_18.toInt + 1 := k_addI ez_77 rfl (by decide) (by omega)
                    refine lv_iinc (v := z_77) (lv' := [(5, .int z_77), (4, .int z_76), (3, .int v3_4), (2, .int v2_4), (0, .ref o), (1, .int x0)]) hx hb dX9_mostAlike_57 hl (k := 1) rfl ez_77.symm (by decide) rfl (fun ls hl => ?_)
                    refine lv_goto (tgt := 18) hx hb dX9_mostAlike_60 (by decide) ?_
                    exact ih18 z_77 z_76 ls (by first | omega | assumption) (by first | omega | assumption) (by omega) (lv_sub hl [0, 1, 2, 3, 4, 5] rfl)
              · refine k_tv (z := .ref o_r2) (by rw [k_clE (k := 2) sp_5, hw_o2]; rfl) ?_
                refine lv_iload_n hx hb dX9_mostAlike_35 rfl (lv_at hl 5 rfl) ?_
                refine va_iald hx hb hE.1 hP 4 0 rfl rfl (k_in (by omega)) dX9_mostAlike_36 ?_
                refine k_top (z := (g_o_r2 (Int32.toNatClampNeg x0))) rfl ?_
                refine lv_aload_n hx hb dX9_mostAlike_37 rfl (lv_at hl 4 rfl) ?_
                refine va_get (D := D) (ci := 9) (v := .ref o_cm) (C := RX9) (T := TX9) (N := 3) hx hb hG inG_X9 hown hE.1 hP 0 rfl rfl 2 (by decide) (hG _ q_f_X9_20) (fun _ h9 => h9) rfl dX9_mostAlike_38 ?_
                refine lv_iload hx hb dX9_mostAlike_41 (lv_at hl 0 rfl) ?_
                refine k_aldr hx hb hE.1 hP 1 6 rfl rfl (k_in (by omega)) dX9_mostAlike_43 ?_
                have sp_78 : v5_18.toInt = 0 ∨ v5_18.toInt = 1 ∨ v5_18.toInt = 2 ∨ v5_18.toInt = 3 ∨ v5_18.toInt = 4 ∨ v5_18.toInt = 5 ∨ v5_18.toInt = 6 := by omega
                rcases sp_78 with sp_78 | sp_78 | sp_78 | sp_78 | sp_78 | sp_78 | sp_78
                · refine k_tv (z := .ref o_r0) (by rw [k_clE (k := 0) sp_78, hw_o0]; rfl) ?_
                  refine lv_iload_n hx hb dX9_mostAlike_44 rfl (lv_at hl 5 rfl) ?_
                  refine va_iald hx hb hE.1 hP 2 0 rfl rfl (k_in (by omega)) dX9_mostAlike_45 ?_
                  refine k_top (z := (g_o_r0 (Int32.toNatClampNeg x0))) rfl ?_
                  refine lv_icmp_ne (tgt := 53) hx hb dX9_mostAlike_46 (by decide) (fun c_79 => ?_) (fun c_79 => ?_)
                  · have ic_79 : (g_o_r2 (Int32.toNatClampNeg x0)).toInt ≠ (g_o_r0 (Int32.toNatClampNeg x0)).toInt := k_ne c_79 rfl rfl
                    refine lv_iconst (v := 0) hx hb dX9_mostAlike_53 (by decide) ?_
                    refine lv_iadd hx hb dX9_mostAlike_54 ?_
                    refine lv_topi (fun z_80 ez_80 => ?_)
                    refine lv_istore (lv' := [(4, .int z_80), (5, .int v5_18), (3, .int v3_4), (2, .int v2_4), (0, .ref o), (1, .int x0)]) hx hb dX9_mostAlike_55 hl (by decide) rfl (fun ls hl => ?_)
                    obtain ⟨z_81, ez_81⟩ : ∃ y : Int32, y = v5_18 + Int32.ofInt 1 := ⟨_, rfl⟩
                    have iz_81 : z_81.toInt = v5_18.toInt + 1 := k_addI ez_81 rfl (by decide) (by omega)
                    refine lv_iinc (v := z_81) (lv' := [(5, .int z_81), (4, .int z_80), (3, .int v3_4), (2, .int v2_4), (0, .ref o), (1, .int x0)]) hx hb dX9_mostAlike_57 hl (k := 1) rfl ez_81.symm (by decide) rfl (fun ls hl => ?_)
                    refine lv_goto (tgt := 18) hx hb dX9_mostAlike_60 (by decide) ?_
                    exact ih18 z_81 z_80 ls (by first | omega | assumption) (by first | omega | assumption) (by omega) (lv_sub hl [0, 1, 2, 3, 4, 5] rfl)
                  · have ic_79 : (g_o_r2 (Int32.toNatClampNeg x0)).toInt = (g_o_r0 (Int32.toNatClampNeg x0)).toInt := k_eq c_79 rfl rfl
                    refine lv_iconst (v := 1) hx hb dX9_mostAlike_49 (by decide) ?_
                    refine lv_goto (tgt := 54) hx hb dX9_mostAlike_50 (by decide) ?_
                    refine lv_iadd hx hb dX9_mostAlike_54 ?_
                    refine lv_topi (fun z_82 ez_82 => ?_)
                    refine lv_istore (lv' := [(4, .int z_82), (5, .int v5_18), (3, .int v3_4), (2, .int v2_4), (0, .ref o), (1, .int x0)]) hx hb dX9_mostAlike_55 hl (by decide) rfl (fun ls hl => ?_)
                    obtain ⟨z_83, ez_83⟩ : ∃ y : Int32, y = v5_18 + Int32.ofInt 1 := ⟨_, rfl⟩
                    have iz_83 : z_83.toInt = v5_18.toInt + 1 := k_addI ez_83 rfl (by decide) (by omega)
                    refine lv_iinc (v := z_83) (lv' := [(5, .int z_83), (4, .int z_82), (3, .int v3_4), (2, .int v2_4), (0, .ref o), (1, .int x0)]) hx hb dX9_mostAlike_57 hl (k := 1) rfl ez_83.symm (by decide) rfl (fun ls hl => ?_)
                    refine lv_goto (tgt := 18) hx hb dX9_mostAlike_60 (by decide) ?_
                    exact ih18 z_83 z_82 ls (by first | omega | assumption) (by first | omega | assumption) (by omega) (lv_sub hl [0, 1, 2, 3, 4, 5] rfl)
                · refine k_tv (z := .ref o_r1) (by rw [k_clE (k := 1) sp_78, hw_o1]; rfl) ?_
                  refine lv_iload_n hx hb dX9_mostAlike_44 rfl (lv_at hl 5 rfl) ?_
                  refine va_iald hx hb hE.1 hP 3 0 rfl rfl (k_in (by omega)) dX9_mostAlike_45 ?_
                  refine k_top (z := (g_o_r1 (Int32.toNatClampNeg x0))) rfl ?_
                  refine lv_icmp_ne (tgt := 53) hx hb dX9_mostAlike_46 (by decide) (fun c_84 => ?_) (fun c_84 => ?_)
                  · have ic_84 : (g_o_r2 (Int32.toNatClampNeg x0)).toInt ≠ (g_o_r1 (Int32.toNatClampNeg x0)).toInt := k_ne c_84 rfl rfl
                    refine lv_iconst (v := 0) hx hb dX9_mostAlike_53 (by decide) ?_
                    refine lv_iadd hx hb dX9_mostAlike_54 ?_
                    refine lv_topi (fun z_85 ez_85 => ?_)
                    refine lv_istore (lv' := [(4, .int z_85), (5, .int v5_18), (3, .int v3_4), (2, .int v2_4), (0, .ref o), (1, .int x0)]) hx hb dX9_mostAlike_55 hl (by decide) rfl (fun ls hl => ?_)
                    obtain ⟨z_86, ez_86⟩ : ∃ y : Int32, y = v5_18 + Int32.ofInt 1 := ⟨_, rfl⟩
                    have iz_86 : z_86.toInt = v5_18.toInt + 1 := k_addI ez_86 rfl (by decide) (by omega)
                    refine lv_iinc (v := z_86) (lv' := [(5, .int z_86), (4, .int z_85), (3, .int v3_4), (2, .int v2_4), (0, .ref o), (1, .int x0)]) hx hb dX9_mostAlike_57 hl (k := 1) rfl ez_86.symm (by decide) rfl (fun ls hl => ?_)
                    refine lv_goto (tgt := 18) hx hb dX9_mostAlike_60 (by decide) ?_
                    exact ih18 z_86 z_85 ls (by first | omega | assumption) (by first | omega | assumption) (by omega) (lv_sub hl [0, 1, 2, 3, 4, 5] rfl)
                  · have ic_84 : (g_o_r2 (Int32.toNatClampNeg x0)).toInt = (g_o_r1 (Int32.toNatClampNeg x0)).toInt := k_eq c_84 rfl rfl
                    refine lv_iconst (v := 1) hx hb dX9_mostAlike_49 (by decide) ?_
                    refine lv_goto (tgt := 54) hx hb dX9_mostAlike_50 (by decide) ?_
                    refine lv_iadd hx hb dX9_mostAlike_54 ?_
                    refine lv_topi (fun z_87 ez_87 => ?_)
                    refine lv_istore (lv' := [(4, .int z_87), (5, .int v5_18), (3, .int v3_4), (2, .int v2_4), (0, .ref o), (1, .int x0)]) hx hb dX9_mostAlike_55 hl (by decide) rfl (fun ls hl => ?_)
                    obtain ⟨z_88, ez_88⟩ : ∃ y : Int32, y = v5_18 + Int32.ofInt 1 := ⟨_, rfl⟩
                    have iz_88 : z_88.toInt = v5_18.toInt + 1 := k_addI ez_88 rfl (by decide) (by omega)
                    refine lv_iinc (v := z_88) (lv' := [(5, .int z_88), (4, .int z_87), (3, .int v3_4), (2, .int v2_4), (0, .ref o), (1, .int x0)]) hx hb dX9_mostAlike_57 hl (k := 1) rfl ez_88.symm (by decide) rfl (fun ls hl => ?_)
                    refine lv_goto (tgt := 18) hx hb dX9_mostAlike_60 (by decide) ?_
                    exact ih18 z_88 z_87 ls (by first | omega | assumption) (by first | omega | assumption) (by omega) (lv_sub hl [0, 1, 2, 3, 4, 5] rfl)
                · refine k_tv (z := .ref o_r2) (by rw [k_clE (k := 2) sp_78, hw_o2]; rfl) ?_
                  refine lv_iload_n hx hb dX9_mostAlike_44 rfl (lv_at hl 5 rfl) ?_
                  refine va_iald hx hb hE.1 hP 4 0 rfl rfl (k_in (by omega)) dX9_mostAlike_45 ?_
                  refine k_top (z := (g_o_r2 (Int32.toNatClampNeg x0))) rfl ?_
                  refine lv_icmp_ne (tgt := 53) hx hb dX9_mostAlike_46 (by decide) (fun c_89 => ?_) (fun c_89 => ?_)
                  · have ic_89 : (g_o_r2 (Int32.toNatClampNeg x0)).toInt ≠ (g_o_r2 (Int32.toNatClampNeg x0)).toInt := k_ne c_89 rfl rfl
                    refine lv_iconst (v := 0) hx hb dX9_mostAlike_53 (by decide) ?_
                    refine lv_iadd hx hb dX9_mostAlike_54 ?_
                    refine lv_topi (fun z_90 ez_90 => ?_)
                    refine lv_istore (lv' := [(4, .int z_90), (5, .int v5_18), (3, .int v3_4), (2, .int v2_4), (0, .ref o), (1, .int x0)]) hx hb dX9_mostAlike_55 hl (by decide) rfl (fun ls hl => ?_)
                    obtain ⟨z_91, ez_91⟩ : ∃ y : Int32, y = v5_18 + Int32.ofInt 1 := ⟨_, rfl⟩
                    have iz_91 : z_91.toInt = v5_18.toInt + 1 := k_addI ez_91 rfl (by decide) (by omega)
                    refine lv_iinc (v := z_91) (lv' := [(5, .int z_91), (4, .int z_90), (3, .int v3_4), (2, .int v2_4), (0, .ref o), (1, .int x0)]) hx hb dX9_mostAlike_57 hl (k := 1) rfl ez_91.symm (by decide) rfl (fun ls hl => ?_)
                    refine lv_goto (tgt := 18) hx hb dX9_mostAlike_60 (by decide) ?_
                    exact ih18 z_91 z_90 ls (by first | omega | assumption) (by first | omega | assumption) (by omega) (lv_sub hl [0, 1, 2, 3, 4, 5] rfl)
                  · have ic_89 : (g_o_r2 (Int32.toNatClampNeg x0)).toInt = (g_o_r2 (Int32.toNatClampNeg x0)).toInt := k_eq c_89 rfl rfl
                    refine lv_iconst (v := 1) hx hb dX9_mostAlike_49 (by decide) ?_
                    refine lv_goto (tgt := 54) hx hb dX9_mostAlike_50 (by decide) ?_
                    refine lv_iadd hx hb dX9_mostAlike_54 ?_
                    refine lv_topi (fun z_92 ez_92 => ?_)
                    refine lv_istore (lv' := [(4, .int z_92), (5, .int v5_18), (3, .int v3_4), (2, .int v2_4), (0, .ref o), (1, .int x0)]) hx hb dX9_mostAlike_55 hl (by decide) rfl (fun ls hl => ?_)
                    obtain ⟨z_93, ez_93⟩ : ∃ y : Int32, y = v5_18 + Int32.ofInt 1 := ⟨_, rfl⟩
                    have iz_93 : z_93.toInt = v5_18.toInt + 1 := k_addI ez_93 rfl (by decide) (by omega)
                    refine lv_iinc (v := z_93) (lv' := [(5, .int z_93), (4, .int z_92), (3, .int v3_4), (2, .int v2_4), (0, .ref o), (1, .int x0)]) hx hb dX9_mostAlike_57 hl (k := 1) rfl ez_93.symm (by decide) rfl (fun ls hl => ?_)
                    refine lv_goto (tgt := 18) hx hb dX9_mostAlike_60 (by decide) ?_
                    exact ih18 z_93 z_92 ls (by first | omega | assumption) (by first | omega | assumption) (by omega) (lv_sub hl [0, 1, 2, 3, 4, 5] rfl)
                · refine k_tv (z := .ref o_r3) (by rw [k_clE (k := 3) sp_78, hw_o3]; rfl) ?_
                  refine lv_iload_n hx hb dX9_mostAlike_44 rfl (lv_at hl 5 rfl) ?_
                  refine va_iald hx hb hE.1 hP 5 0 rfl rfl (k_in (by omega)) dX9_mostAlike_45 ?_
                  refine k_top (z := (g_o_r3 (Int32.toNatClampNeg x0))) rfl ?_
                  refine lv_icmp_ne (tgt := 53) hx hb dX9_mostAlike_46 (by decide) (fun c_94 => ?_) (fun c_94 => ?_)
                  · have ic_94 : (g_o_r2 (Int32.toNatClampNeg x0)).toInt ≠ (g_o_r3 (Int32.toNatClampNeg x0)).toInt := k_ne c_94 rfl rfl
                    refine lv_iconst (v := 0) hx hb dX9_mostAlike_53 (by decide) ?_
                    refine lv_iadd hx hb dX9_mostAlike_54 ?_
                    refine lv_topi (fun z_95 ez_95 => ?_)
                    refine lv_istore (lv' := [(4, .int z_95), (5, .int v5_18), (3, .int v3_4), (2, .int v2_4), (0, .ref o), (1, .int x0)]) hx hb dX9_mostAlike_55 hl (by decide) rfl (fun ls hl => ?_)
                    obtain ⟨z_96, ez_96⟩ : ∃ y : Int32, y = v5_18 + Int32.ofInt 1 := ⟨_, rfl⟩
                    have iz_96 : z_96.toInt = v5_18.toInt + 1 := k_addI ez_96 rfl (by decide) (by omega)
                    refine lv_iinc (v := z_96) (lv' := [(5, .int z_96), (4, .int z_95), (3, .int v3_4), (2, .int v2_4), (0, .ref o), (1, .int x0)]) hx hb dX9_mostAlike_57 hl (k := 1) rfl ez_96.symm (by decide) rfl (fun ls hl => ?_)
                    refine lv_goto (tgt := 18) hx hb dX9_mostAlike_60 (by decide) ?_
                    exact ih18 z_96 z_95 ls (by first | omega | assumption) (by first | omega | assumption) (by omega) (lv_sub hl [0, 1, 2, 3, 4, 5] rfl)
                  · have ic_94 : (g_o_r2 (Int32.toNatClampNeg x0)).toInt = (g_o_r3 (Int32.toNatClampNeg x0)).toInt := k_eq c_94 rfl rfl
                    refine lv_iconst (v := 1) hx hb dX9_mostAlike_49 (by decide) ?_
                    refine lv_goto (tgt := 54) hx hb dX9_mostAlike_50 (by decide) ?_
                    refine lv_iadd hx hb dX9_mostAlike_54 ?_
                    refine lv_topi (fun z_97 ez_97 => ?_)
                    refine lv_istore (lv' := [(4, .int z_97), (5, .int v5_18), (3, .int v3_4), (2, .int v2_4), (0, .ref o), (1, .int x0)]) hx hb dX9_mostAlike_55 hl (by decide) rfl (fun ls hl => ?_)
                    obtain ⟨z_98, ez_98⟩ : ∃ y : Int32, y = v5_18 + Int32.ofInt 1 := ⟨_, rfl⟩
                    have iz_98 : z_98.toInt = v5_18.toInt + 1 := k_addI ez_98 rfl (by decide) (by omega)
                    refine lv_iinc (v := z_98) (lv' := [(5, .int z_98), (4, .int z_97), (3, .int v3_4), (2, .int v2_4), (0, .ref o), (1, .int x0)]) hx hb dX9_mostAlike_57 hl (k := 1) rfl ez_98.symm (by decide) rfl (fun ls hl => ?_)
                    refine lv_goto (tgt := 18) hx hb dX9_mostAlike_60 (by decide) ?_
                    exact ih18 z_98 z_97 ls (by first | omega | assumption) (by first | omega | assumption) (by omega) (lv_sub hl [0, 1, 2, 3, 4, 5] rfl)
                · refine k_tv (z := .ref o_r4) (by rw [k_clE (k := 4) sp_78, hw_o4]; rfl) ?_
                  refine lv_iload_n hx hb dX9_mostAlike_44 rfl (lv_at hl 5 rfl) ?_
                  refine va_iald hx hb hE.1 hP 6 0 rfl rfl (k_in (by omega)) dX9_mostAlike_45 ?_
                  refine k_top (z := (g_o_r4 (Int32.toNatClampNeg x0))) rfl ?_
                  refine lv_icmp_ne (tgt := 53) hx hb dX9_mostAlike_46 (by decide) (fun c_99 => ?_) (fun c_99 => ?_)
                  · have ic_99 : (g_o_r2 (Int32.toNatClampNeg x0)).toInt ≠ (g_o_r4 (Int32.toNatClampNeg x0)).toInt := k_ne c_99 rfl rfl
                    refine lv_iconst (v := 0) hx hb dX9_mostAlike_53 (by decide) ?_
                    refine lv_iadd hx hb dX9_mostAlike_54 ?_
                    refine lv_topi (fun z_100 ez_100 => ?_)
                    refine lv_istore (lv' := [(4, .int z_100), (5, .int v5_18), (3, .int v3_4), (2, .int v2_4), (0, .ref o), (1, .int x0)]) hx hb dX9_mostAlike_55 hl (by decide) rfl (fun ls hl => ?_)
                    obtain ⟨z_101, ez_101⟩ : ∃ y : Int32, y = v5_18 + Int32.ofInt 1 := ⟨_, rfl⟩
                    have iz_101 : z_101.toInt = v5_18.toInt + 1 := k_addI ez_101 rfl (by decide) (by omega)
                    refine lv_iinc (v := z_101) (lv' := [(5, .int z_101), (4, .int z_100), (3, .int v3_4), (2, .int v2_4), (0, .ref o), (1, .int x0)]) hx hb dX9_mostAlike_57 hl (k := 1) rfl ez_101.symm (by decide) rfl (fun ls hl => ?_)
                    refine lv_goto (tgt := 18) hx hb dX9_mostAlike_60 (by decide) ?_
                    exact ih18 z_101 z_100 ls (by first | omega | assumption) (by first | omega | assumption) (by omega) (lv_sub hl [0, 1, 2, 3, 4, 5] rfl)
                  · have ic_99 : (g_o_r2 (Int32.toNatClampNeg x0)).toInt = (g_o_r4 (Int32.toNatClampNeg x0)).toInt := k_eq c_99 rfl rfl
                    refine lv_iconst (v := 1) hx hb dX9_mostAlike_49 (by decide) ?_
                    refine lv_goto (tgt := 54) hx hb dX9_mostAlike_50 (by decide) ?_
                    refine lv_iadd hx hb dX9_mostAlike_54 ?_
                    refine lv_topi (fun z_102 ez_102 => ?_)
                    refine lv_istore (lv' := [(4, .int z_102), (5, .int v5_18), (3, .int v3_4), (2, .int v2_4), (0, .ref o), (1, .int x0)]) hx hb dX9_mostAlike_55 hl (by decide) rfl (fun ls hl => ?_)
                    obtain ⟨z_103, ez_103⟩ : ∃ y : Int32, y = v5_18 + Int32.ofInt 1 := ⟨_, rfl⟩
                    have iz_103 : z_103.toInt = v5_18.toInt + 1 := k_addI ez_103 rfl (by decide) (by omega)
                    refine lv_iinc (v := z_103) (lv' := [(5, .int z_103), (4, .int z_102), (3, .int v3_4), (2, .int v2_4), (0, .ref o), (1, .int x0)]) hx hb dX9_mostAlike_57 hl (k := 1) rfl ez_103.symm (by decide) rfl (fun ls hl => ?_)
                    refine lv_goto (tgt := 18) hx hb dX9_mostAlike_60 (by decide) ?_
                    exact ih18 z_103 z_102 ls (by first | omega | assumption) (by first | omega | assumption) (by omega) (lv_sub hl [0, 1, 2, 3, 4, 5] rfl)
                · refine k_tv (z := .ref o_r5) (by rw [k_clE (k := 5) sp_78, hw_o5]; rfl) ?_
                  refine lv_iload_n hx hb dX9_mostAlike_44 rfl (lv_at hl 5 rfl) ?_
                  refine va_iald hx hb hE.1 hP 7 0 rfl rfl (k_in (by omega)) dX9_mostAlike_45 ?_
                  refine k_top (z := (g_o_r5 (Int32.toNatClampNeg x0))) rfl ?_
                  refine lv_icmp_ne (tgt := 53) hx hb dX9_mostAlike_46 (by decide) (fun c_104 => ?_) (fun c_104 => ?_)
                  · have ic_104 : (g_o_r2 (Int32.toNatClampNeg x0)).toInt ≠ (g_o_r5 (Int32.toNatClampNeg x0)).toInt := k_ne c_104 rfl rfl
                    refine lv_iconst (v := 0) hx hb dX9_mostAlike_53 (by decide) ?_
                    refine lv_iadd hx hb dX9_mostAlike_54 ?_
                    refine lv_topi (fun z_105 ez_105 => ?_)
                    refine lv_istore (lv' := [(4, .int z_105), (5, .int v5_18), (3, .int v3_4), (2, .int v2_4), (0, .ref o), (1, .int x0)]) hx hb dX9_mostAlike_55 hl (by decide) rfl (fun ls hl => ?_)
                    obtain ⟨z_106, ez_106⟩ : ∃ y : Int32, y = v5_18 + Int32.ofInt 1 := ⟨_, rfl⟩
                    have iz_106 : z_106.toInt = v5_18.toInt + 1 := k_addI ez_106 rfl (by decide) (by omega)
                    refine lv_iinc (v := z_106) (lv' := [(5, .int z_106), (4, .int z_105), (3, .int v3_4), (2, .int v2_4), (0, .ref o), (1, .int x0)]) hx hb dX9_mostAlike_57 hl (k := 1) rfl ez_106.symm (by decide) rfl (fun ls hl => ?_)
                    refine lv_goto (tgt := 18) hx hb dX9_mostAlike_60 (by decide) ?_
                    exact ih18 z_106 z_105 ls (by first | omega | assumption) (by first | omega | assumption) (by omega) (lv_sub hl [0, 1, 2, 3, 4, 5] rfl)
                  · have ic_104 : (g_o_r2 (Int32.toNatClampNeg x0)).toInt = (g_o_r5 (Int32.toNatClampNeg x0)).toInt := k_eq c_104 rfl rfl
                    refine lv_iconst (v := 1) hx hb dX9_mostAlike_49 (by decide) ?_
                    refine lv_goto (tgt := 54) hx hb dX9_mostAlike_50 (by decide) ?_
                    refine lv_iadd hx hb dX9_mostAlike_54 ?_
                    refine lv_topi (fun z_107 ez_107 => ?_)
                    refine lv_istore (lv' := [(4, .int z_107), (5, .int v5_18), (3, .int v3_4), (2, .int v2_4), (0, .ref o), (1, .int x0)]) hx hb dX9_mostAlike_55 hl (by decide) rfl (fun ls hl => ?_)
                    obtain ⟨z_108, ez_108⟩ : ∃ y : Int32, y = v5_18 + Int32.ofInt 1 := ⟨_, rfl⟩
                    have iz_108 : z_108.toInt = v5_18.toInt + 1 := k_addI ez_108 rfl (by decide) (by omega)
                    refine lv_iinc (v := z_108) (lv' := [(5, .int z_108), (4, .int z_107), (3, .int v3_4), (2, .int v2_4), (0, .ref o), (1, .int x0)]) hx hb dX9_mostAlike_57 hl (k := 1) rfl ez_108.symm (by decide) rfl (fun ls hl => ?_)
                    refine lv_goto (tgt := 18) hx hb dX9_mostAlike_60 (by decide) ?_
                    exact ih18 z_108 z_107 ls (by first | omega | assumption) (by first | omega | assumption) (by omega) (lv_sub hl [0, 1, 2, 3, 4, 5] rfl)
                · refine k_tv (z := .ref o_r6) (by rw [k_clE (k := 6) sp_78, hw_o6]; rfl) ?_
                  refine lv_iload_n hx hb dX9_mostAlike_44 rfl (lv_at hl 5 rfl) ?_
                  refine va_iald hx hb hE.1 hP 8 0 rfl rfl (k_in (by omega)) dX9_mostAlike_45 ?_
                  refine k_top (z := (g_o_r6 (Int32.toNatClampNeg x0))) rfl ?_
                  refine lv_icmp_ne (tgt := 53) hx hb dX9_mostAlike_46 (by decide) (fun c_109 => ?_) (fun c_109 => ?_)
                  · have ic_109 : (g_o_r2 (Int32.toNatClampNeg x0)).toInt ≠ (g_o_r6 (Int32.toNatClampNeg x0)).toInt := k_ne c_109 rfl rfl
                    refine lv_iconst (v := 0) hx hb dX9_mostAlike_53 (by decide) ?_
                    refine lv_iadd hx hb dX9_mostAlike_54 ?_
                    refine lv_topi (fun z_110 ez_110 => ?_)
                    refine lv_istore (lv' := [(4, .int z_110), (5, .int v5_18), (3, .int v3_4), (2, .int v2_4), (0, .ref o), (1, .int x0)]) hx hb dX9_mostAlike_55 hl (by decide) rfl (fun ls hl => ?_)
                    obtain ⟨z_111, ez_111⟩ : ∃ y : Int32, y = v5_18 + Int32.ofInt 1 := ⟨_, rfl⟩
                    have iz_111 : z_111.toInt = v5_18.toInt + 1 := k_addI ez_111 rfl (by decide) (by omega)
                    refine lv_iinc (v := z_111) (lv' := [(5, .int z_111), (4, .int z_110), (3, .int v3_4), (2, .int v2_4), (0, .ref o), (1, .int x0)]) hx hb dX9_mostAlike_57 hl (k := 1) rfl ez_111.symm (by decide) rfl (fun ls hl => ?_)
                    refine lv_goto (tgt := 18) hx hb dX9_mostAlike_60 (by decide) ?_
                    exact ih18 z_111 z_110 ls (by first | omega | assumption) (by first | omega | assumption) (by omega) (lv_sub hl [0, 1, 2, 3, 4, 5] rfl)
                  · have ic_109 : (g_o_r2 (Int32.toNatClampNeg x0)).toInt = (g_o_r6 (Int32.toNatClampNeg x0)).toInt := k_eq c_109 rfl rfl
                    refine lv_iconst (v := 1) hx hb dX9_mostAlike_49 (by decide) ?_
                    refine lv_goto (tgt := 54) hx hb dX9_mostAlike_50 (by decide) ?_
                    refine lv_iadd hx hb dX9_mostAlike_54 ?_
                    refine lv_topi (fun z_112 ez_112 => ?_)
                    refine lv_istore (lv' := [(4, .int z_112), (5, .int v5_18), (3, .int v3_4), (2, .int v2_4), (0, .ref o), (1, .int x0)]) hx hb dX9_mostAlike_55 hl (by decide) rfl (fun ls hl => ?_)
                    obtain ⟨z_113, ez_113⟩ : ∃ y : Int32, y = v5_18 + Int32.ofInt 1 := ⟨_, rfl⟩
                    have iz_113 : z_113.toInt = v5_18.toInt + 1 := k_addI ez_113 rfl (by decide) (by omega)
                    refine lv_iinc (v := z_113) (lv' := [(5, .int z_113), (4, .int z_112), (3, .int v3_4), (2, .int v2_4), (0, .ref o), (1, .int x0)]) hx hb dX9_mostAlike_57 hl (k := 1) rfl ez_113.symm (by decide) rfl (fun ls hl => ?_)
                    refine lv_goto (tgt := 18) hx hb dX9_mostAlike_60 (by decide) ?_
                    exact ih18 z_113 z_112 ls (by first | omega | assumption) (by first | omega | assumption) (by omega) (lv_sub hl [0, 1, 2, 3, 4, 5] rfl)
              · refine k_tv (z := .ref o_r3) (by rw [k_clE (k := 3) sp_5, hw_o3]; rfl) ?_
                refine lv_iload_n hx hb dX9_mostAlike_35 rfl (lv_at hl 5 rfl) ?_
                refine va_iald hx hb hE.1 hP 5 0 rfl rfl (k_in (by omega)) dX9_mostAlike_36 ?_
                refine k_top (z := (g_o_r3 (Int32.toNatClampNeg x0))) rfl ?_
                refine lv_aload_n hx hb dX9_mostAlike_37 rfl (lv_at hl 4 rfl) ?_
                refine va_get (D := D) (ci := 9) (v := .ref o_cm) (C := RX9) (T := TX9) (N := 3) hx hb hG inG_X9 hown hE.1 hP 0 rfl rfl 2 (by decide) (hG _ q_f_X9_20) (fun _ h9 => h9) rfl dX9_mostAlike_38 ?_
                refine lv_iload hx hb dX9_mostAlike_41 (lv_at hl 0 rfl) ?_
                refine k_aldr hx hb hE.1 hP 1 6 rfl rfl (k_in (by omega)) dX9_mostAlike_43 ?_
                have sp_114 : v5_18.toInt = 0 ∨ v5_18.toInt = 1 ∨ v5_18.toInt = 2 ∨ v5_18.toInt = 3 ∨ v5_18.toInt = 4 ∨ v5_18.toInt = 5 ∨ v5_18.toInt = 6 := by omega
                rcases sp_114 with sp_114 | sp_114 | sp_114 | sp_114 | sp_114 | sp_114 | sp_114
                · refine k_tv (z := .ref o_r0) (by rw [k_clE (k := 0) sp_114, hw_o0]; rfl) ?_
                  refine lv_iload_n hx hb dX9_mostAlike_44 rfl (lv_at hl 5 rfl) ?_
                  refine va_iald hx hb hE.1 hP 2 0 rfl rfl (k_in (by omega)) dX9_mostAlike_45 ?_
                  refine k_top (z := (g_o_r0 (Int32.toNatClampNeg x0))) rfl ?_
                  refine lv_icmp_ne (tgt := 53) hx hb dX9_mostAlike_46 (by decide) (fun c_115 => ?_) (fun c_115 => ?_)
                  · have ic_115 : (g_o_r3 (Int32.toNatClampNeg x0)).toInt ≠ (g_o_r0 (Int32.toNatClampNeg x0)).toInt := k_ne c_115 rfl rfl
                    refine lv_iconst (v := 0) hx hb dX9_mostAlike_53 (by decide) ?_
                    refine lv_iadd hx hb dX9_mostAlike_54 ?_
                    refine lv_topi (fun z_116 ez_116 => ?_)
                    refine lv_istore (lv' := [(4, .int z_116), (5, .int v5_18), (3, .int v3_4), (2, .int v2_4), (0, .ref o), (1, .int x0)]) hx hb dX9_mostAlike_55 hl (by decide) rfl (fun ls hl => ?_)
                    obtain ⟨z_117, ez_117⟩ : ∃ y : Int32, y = v5_18 + Int32.ofInt 1 := ⟨_, rfl⟩
                    have iz_117 : z_117.toInt = v5_18.toInt + 1 := k_addI ez_117 rfl (by decide) (by omega)
                    refine lv_iinc (v := z_117) (lv' := [(5, .int z_117), (4, .int z_116), (3, .int v3_4), (2, .int v2_4), (0, .ref o), (1, .int x0)]) hx hb dX9_mostAlike_57 hl (k := 1) rfl ez_117.symm (by decide) rfl (fun ls hl => ?_)
                    refine lv_goto (tgt := 18) hx hb dX9_mostAlike_60 (by decide) ?_
                    exact ih18 z_117 z_116 ls (by first | omega | assumption) (by first | omega | assumption) (by omega) (lv_sub hl [0, 1, 2, 3, 4, 5] rfl)
                  · have ic_115 : (g_o_r3 (Int32.toNatClampNeg x0)).toInt = (g_o_r0 (Int32.toNatClampNeg x0)).toInt := k_eq c_115 rfl rfl
                    refine lv_iconst (v := 1) hx hb dX9_mostAlike_49 (by decide) ?_
                    refine lv_goto (tgt := 54) hx hb dX9_mostAlike_50 (by decide) ?_
                    refine lv_iadd hx hb dX9_mostAlike_54 ?_
                    refine lv_topi (fun z_118 ez_118 => ?_)
                    refine lv_istore (lv' := [(4, .int z_118), (5, .int v5_18), (3, .int v3_4), (2, .int v2_4), (0, .ref o), (1, .int x0)]) hx hb dX9_mostAlike_55 hl (by decide) rfl (fun ls hl => ?_)
                    obtain ⟨z_119, ez_119⟩ : ∃ y : Int32, y = v5_18 + Int32.ofInt 1 := ⟨_, rfl⟩
                    have iz_119 : z_119.toInt = v5_18.toInt + 1 := k_addI ez_119 rfl (by decide) (by omega)
                    refine lv_iinc (v := z_119) (lv' := [(5, .int z_119), (4, .int z_118), (3, .int v3_4), (2, .int v2_4), (0, .ref o), (1, .int x0)]) hx hb dX9_mostAlike_57 hl (k := 1) rfl ez_119.symm (by decide) rfl (fun ls hl => ?_)
                    refine lv_goto (tgt := 18) hx hb dX9_mostAlike_60 (by decide) ?_
                    exact ih18 z_119 z_118 ls (by first | omega | assumption) (by first | omega | assumption) (by omega) (lv_sub hl [0, 1, 2, 3, 4, 5] rfl)
                · refine k_tv (z := .ref o_r1) (by rw [k_clE (k := 1) sp_114, hw_o1]; rfl) ?_
                  refine lv_iload_n hx hb dX9_mostAlike_44 rfl (lv_at hl 5 rfl) ?_
                  refine va_iald hx hb hE.1 hP 3 0 rfl rfl (k_in (by omega)) dX9_mostAlike_45 ?_
                  refine k_top (z := (g_o_r1 (Int32.toNatClampNeg x0))) rfl ?_
                  refine lv_icmp_ne (tgt := 53) hx hb dX9_mostAlike_46 (by decide) (fun c_120 => ?_) (fun c_120 => ?_)
                  · have ic_120 : (g_o_r3 (Int32.toNatClampNeg x0)).toInt ≠ (g_o_r1 (Int32.toNatClampNeg x0)).toInt := k_ne c_120 rfl rfl
                    refine lv_iconst (v := 0) hx hb dX9_mostAlike_53 (by decide) ?_
                    refine lv_iadd hx hb dX9_mostAlike_54 ?_
                    refine lv_topi (fun z_121 ez_121 => ?_)
                    refine lv_istore (lv' := [(4, .int z_121), (5, .int v5_18), (3, .int v3_4), (2, .int v2_4), (0, .ref o), (1, .int x0)]) hx hb dX9_mostAlike_55 hl (by decide) rfl (fun ls hl => ?_)
                    obtain ⟨z_122, ez_122⟩ : ∃ y : Int32, y = v5_18 + Int32.ofInt 1 := ⟨_, rfl⟩
                    have iz_122 : z_122.toInt = v5_18.toInt + 1 := k_addI ez_122 rfl (by decide) (by omega)
                    refine lv_iinc (v := z_122) (lv' := [(5, .int z_122), (4, .int z_121), (3, .int v3_4), (2, .int v2_4), (0, .ref o), (1, .int x0)]) hx hb dX9_mostAlike_57 hl (k := 1) rfl ez_122.symm (by decide) rfl (fun ls hl => ?_)
                    refine lv_goto (tgt := 18) hx hb dX9_mostAlike_60 (by decide) ?_
                    exact ih18 z_122 z_121 ls (by first | omega | assumption) (by first | omega | assumption) (by omega) (lv_sub hl [0, 1, 2, 3, 4, 5] rfl)
                  · have ic_120 : (g_o_r3 (Int32.toNatClampNeg x0)).toInt = (g_o_r1 (Int32.toNatClampNeg x0)).toInt := k_eq c_120 rfl rfl
                    refine lv_iconst (v := 1) hx hb dX9_mostAlike_49 (by decide) ?_
                    refine lv_goto (tgt := 54) hx hb dX9_mostAlike_50 (by decide) ?_
                    refine lv_iadd hx hb dX9_mostAlike_54 ?_
                    refine lv_topi (fun z_123 ez_123 => ?_)
                    refine lv_istore (lv' := [(4, .int z_123), (5, .int v5_18), (3, .int v3_4), (2, .int v2_4), (0, .ref o), (1, .int x0)]) hx hb dX9_mostAlike_55 hl (by decide) rfl (fun ls hl => ?_)
                    obtain ⟨z_124, ez_124⟩ : ∃ y : Int32, y = v5_18 + Int32.ofInt 1 := ⟨_, rfl⟩
                    have iz_124 : z_124.toInt = v5_18.toInt + 1 := k_addI ez_124 rfl (by decide) (by omega)
                    refine lv_iinc (v := z_124) (lv' := [(5, .int z_124), (4, .int z_123), (3, .int v3_4), (2, .int v2_4), (0, .ref o), (1, .int x0)]) hx hb dX9_mostAlike_57 hl (k := 1) rfl ez_124.symm (by decide) rfl (fun ls hl => ?_)
                    refine lv_goto (tgt := 18) hx hb dX9_mostAlike_60 (by decide) ?_
                    exact ih18 z_124 z_123 ls (by first | omega | assumption) (by first | omega | assumption) (by omega) (lv_sub hl [0, 1, 2, 3, 4, 5] rfl)
                · refine k_tv (z := .ref o_r2) (by rw [k_clE (k := 2) sp_114, hw_o2]; rfl) ?_
                  refine lv_iload_n hx hb dX9_mostAlike_44 rfl (lv_at hl 5 rfl) ?_
                  refine va_iald hx hb hE.1 hP 4 0 rfl rfl (k_in (by omega)) dX9_mostAlike_45 ?_
                  refine k_top (z := (g_o_r2 (Int32.toNatClampNeg x0))) rfl ?_
                  refine lv_icmp_ne (tgt := 53) hx hb dX9_mostAlike_46 (by decide) (fun c_125 => ?_) (fun c_125 => ?_)
                  · have ic_125 : (g_o_r3 (Int32.toNatClampNeg x0)).toInt ≠ (g_o_r2 (Int32.toNatClampNeg x0)).toInt := k_ne c_125 rfl rfl
                    refine lv_iconst (v := 0) hx hb dX9_mostAlike_53 (by decide) ?_
                    refine lv_iadd hx hb dX9_mostAlike_54 ?_
                    refine lv_topi (fun z_126 ez_126 => ?_)
                    refine lv_istore (lv' := [(4, .int z_126), (5, .int v5_18), (3, .int v3_4), (2, .int v2_4), (0, .ref o), (1, .int x0)]) hx hb dX9_mostAlike_55 hl (by decide) rfl (fun ls hl => ?_)
                    obtain ⟨z_127, ez_127⟩ : ∃ y : Int32, y = v5_18 + Int32.ofInt 1 := ⟨_, rfl⟩
                    have iz_127 : z_127.toInt = v5_18.toInt + 1 := k_addI ez_127 rfl (by decide) (by omega)
                    refine lv_iinc (v := z_127) (lv' := [(5, .int z_127), (4, .int z_126), (3, .int v3_4), (2, .int v2_4), (0, .ref o), (1, .int x0)]) hx hb dX9_mostAlike_57 hl (k := 1) rfl ez_127.symm (by decide) rfl (fun ls hl => ?_)
                    refine lv_goto (tgt := 18) hx hb dX9_mostAlike_60 (by decide) ?_
                    exact ih18 z_127 z_126 ls (by first | omega | assumption) (by first | omega | assumption) (by omega) (lv_sub hl [0, 1, 2, 3, 4, 5] rfl)
                  · have ic_125 : (g_o_r3 (Int32.toNatClampNeg x0)).toInt = (g_o_r2 (Int32.toNatClampNeg x0)).toInt := k_eq c_125 rfl rfl
                    refine lv_iconst (v := 1) hx hb dX9_mostAlike_49 (by decide) ?_
                    refine lv_goto (tgt := 54) hx hb dX9_mostAlike_50 (by decide) ?_
                    refine lv_iadd hx hb dX9_mostAlike_54 ?_
                    refine lv_topi (fun z_128 ez_128 => ?_)
                    refine lv_istore (lv' := [(4, .int z_128), (5, .int v5_18), (3, .int v3_4), (2, .int v2_4), (0, .ref o), (1, .int x0)]) hx hb dX9_mostAlike_55 hl (by decide) rfl (fun ls hl => ?_)
                    obtain ⟨z_129, ez_129⟩ : ∃ y : Int32, y = v5_18 + Int32.ofInt 1 := ⟨_, rfl⟩
                    have iz_129 : z_129.toInt = v5_18.toInt + 1 := k_addI ez_129 rfl (by decide) (by omega)
                    refine lv_iinc (v := z_129) (lv' := [(5, .int z_129), (4, .int z_128), (3, .int v3_4), (2, .int v2_4), (0, .ref o), (1, .int x0)]) hx hb dX9_mostAlike_57 hl (k := 1) rfl ez_129.symm (by decide) rfl (fun ls hl => ?_)
                    refine lv_goto (tgt := 18) hx hb dX9_mostAlike_60 (by decide) ?_
                    exact ih18 z_129 z_128 ls (by first | omega | assumption) (by first | omega | assumption) (by omega) (lv_sub hl [0, 1, 2, 3, 4, 5] rfl)
                · refine k_tv (z := .ref o_r3) (by rw [k_clE (k := 3) sp_114, hw_o3]; rfl) ?_
                  refine lv_iload_n hx hb dX9_mostAlike_44 rfl (lv_at hl 5 rfl) ?_
                  refine va_iald hx hb hE.1 hP 5 0 rfl rfl (k_in (by omega)) dX9_mostAlike_45 ?_
                  refine k_top (z := (g_o_r3 (Int32.toNatClampNeg x0))) rfl ?_
                  refine lv_icmp_ne (tgt := 53) hx hb dX9_mostAlike_46 (by decide) (fun c_130 => ?_) (fun c_130 => ?_)
                  · have ic_130 : (g_o_r3 (Int32.toNatClampNeg x0)).toInt ≠ (g_o_r3 (Int32.toNatClampNeg x0)).toInt := k_ne c_130 rfl rfl
                    refine lv_iconst (v := 0) hx hb dX9_mostAlike_53 (by decide) ?_
                    refine lv_iadd hx hb dX9_mostAlike_54 ?_
                    refine lv_topi (fun z_131 ez_131 => ?_)
                    refine lv_istore (lv' := [(4, .int z_131), (5, .int v5_18), (3, .int v3_4), (2, .int v2_4), (0, .ref o), (1, .int x0)]) hx hb dX9_mostAlike_55 hl (by decide) rfl (fun ls hl => ?_)
                    obtain ⟨z_132, ez_132⟩ : ∃ y : Int32, y = v5_18 + Int32.ofInt 1 := ⟨_, rfl⟩
                    have iz_132 : z_132.toInt = v5_18.toInt + 1 := k_addI ez_132 rfl (by decide) (by omega)
                    refine lv_iinc (v := z_132) (lv' := [(5, .int z_132), (4, .int z_131), (3, .int v3_4), (2, .int v2_4), (0, .ref o), (1, .int x0)]) hx hb dX9_mostAlike_57 hl (k := 1) rfl ez_132.symm (by decide) rfl (fun ls hl => ?_)
                    refine lv_goto (tgt := 18) hx hb dX9_mostAlike_60 (by decide) ?_
                    exact ih18 z_132 z_131 ls (by first | omega | assumption) (by first | omega | assumption) (by omega) (lv_sub hl [0, 1, 2, 3, 4, 5] rfl)
                  · have ic_130 : (g_o_r3 (Int32.toNatClampNeg x0)).toInt = (g_o_r3 (Int32.toNatClampNeg x0)).toInt := k_eq c_130 rfl rfl
                    refine lv_iconst (v := 1) hx hb dX9_mostAlike_49 (by decide) ?_
                    refine lv_goto (tgt := 54) hx hb dX9_mostAlike_50 (by decide) ?_
                    refine lv_iadd hx hb dX9_mostAlike_54 ?_
                    refine lv_topi (fun z_133 ez_133 => ?_)
                    refine lv_istore (lv' := [(4, .int z_133), (5, .int v5_18), (3, .int v3_4), (2, .int v2_4), (0, .ref o), (1, .int x0)]) hx hb dX9_mostAlike_55 hl (by decide) rfl (fun ls hl => ?_)
                    obtain ⟨z_134, ez_134⟩ : ∃ y : Int32, y = v5_18 + Int32.ofInt 1 := ⟨_, rfl⟩
                    have iz_134 : z_134.toInt = v5_18.toInt + 1 := k_addI ez_134 rfl (by decide) (by omega)
                    refine lv_iinc (v := z_134) (lv' := [(5, .int z_134), (4, .int z_133), (3, .int v3_4), (2, .int v2_4), (0, .ref o), (1, .int x0)]) hx hb dX9_mostAlike_57 hl (k := 1) rfl ez_134.symm (by decide) rfl (fun ls hl => ?_)
                    refine lv_goto (tgt := 18) hx hb dX9_mostAlike_60 (by decide) ?_
                    exact ih18 z_134 z_133 ls (by first | omega | assumption) (by first | omega | assumption) (by omega) (lv_sub hl [0, 1, 2, 3, 4, 5] rfl)
                · refine k_tv (z := .ref o_r4) (by rw [k_clE (k := 4) sp_114, hw_o4]; rfl) ?_
                  refine lv_iload_n hx hb dX9_mostAlike_44 rfl (lv_at hl 5 rfl) ?_
                  refine va_iald hx hb hE.1 hP 6 0 rfl rfl (k_in (by omega)) dX9_mostAlike_45 ?_
                  refine k_top (z := (g_o_r4 (Int32.toNatClampNeg x0))) rfl ?_
                  refine lv_icmp_ne (tgt := 53) hx hb dX9_mostAlike_46 (by decide) (fun c_135 => ?_) (fun c_135 => ?_)
                  · have ic_135 : (g_o_r3 (Int32.toNatClampNeg x0)).toInt ≠ (g_o_r4 (Int32.toNatClampNeg x0)).toInt := k_ne c_135 rfl rfl
                    refine lv_iconst (v := 0) hx hb dX9_mostAlike_53 (by decide) ?_
                    refine lv_iadd hx hb dX9_mostAlike_54 ?_
                    refine lv_topi (fun z_136 ez_136 => ?_)
                    refine lv_istore (lv' := [(4, .int z_136), (5, .int v5_18), (3, .int v3_4), (2, .int v2_4), (0, .ref o), (1, .int x0)]) hx hb dX9_mostAlike_55 hl (by decide) rfl (fun ls hl => ?_)
                    obtain ⟨z_137, ez_137⟩ : ∃ y : Int32, y = v5_18 + Int32.ofInt 1 := ⟨_, rfl⟩
                    have iz_137 : z_137.toInt = v5_18.toInt + 1 := k_addI ez_137 rfl (by decide) (by omega)
                    refine lv_iinc (v := z_137) (lv' := [(5, .int z_137), (4, .int z_136), (3, .int v3_4), (2, .int v2_4), (0, .ref o), (1, .int x0)]) hx hb dX9_mostAlike_57 hl (k := 1) rfl ez_137.symm (by decide) rfl (fun ls hl => ?_)
                    refine lv_goto (tgt := 18) hx hb dX9_mostAlike_60 (by decide) ?_
                    exact ih18 z_137 z_136 ls (by first | omega | assumption) (by first | omega | assumption) (by omega) (lv_sub hl [0, 1, 2, 3, 4, 5] rfl)
                  · have ic_135 : (g_o_r3 (Int32.toNatClampNeg x0)).toInt = (g_o_r4 (Int32.toNatClampNeg x0)).toInt := k_eq c_135 rfl rfl
                    refine lv_iconst (v := 1) hx hb dX9_mostAlike_49 (by decide) ?_
                    refine lv_goto (tgt := 54) hx hb dX9_mostAlike_50 (by decide) ?_
                    refine lv_iadd hx hb dX9_mostAlike_54 ?_
                    refine lv_topi (fun z_138 ez_138 => ?_)
                    refine lv_istore (lv' := [(4, .int z_138), (5, .int v5_18), (3, .int v3_4), (2, .int v2_4), (0, .ref o), (1, .int x0)]) hx hb dX9_mostAlike_55 hl (by decide) rfl (fun ls hl => ?_)
                    obtain ⟨z_139, ez_139⟩ : ∃ y : Int32, y = v5_18 + Int32.ofInt 1 := ⟨_, rfl⟩
                    have iz_139 : z_139.toInt = v5_18.toInt + 1 := k_addI ez_139 rfl (by decide) (by omega)
                    refine lv_iinc (v := z_139) (lv' := [(5, .int z_139), (4, .int z_138), (3, .int v3_4), (2, .int v2_4), (0, .ref o), (1, .int x0)]) hx hb dX9_mostAlike_57 hl (k := 1) rfl ez_139.symm (by decide) rfl (fun ls hl => ?_)
                    refine lv_goto (tgt := 18) hx hb dX9_mostAlike_60 (by decide) ?_
                    exact ih18 z_139 z_138 ls (by first | omega | assumption) (by first | omega | assumption) (by omega) (lv_sub hl [0, 1, 2, 3, 4, 5] rfl)
                · refine k_tv (z := .ref o_r5) (by rw [k_clE (k := 5) sp_114, hw_o5]; rfl) ?_
                  refine lv_iload_n hx hb dX9_mostAlike_44 rfl (lv_at hl 5 rfl) ?_
                  refine va_iald hx hb hE.1 hP 7 0 rfl rfl (k_in (by omega)) dX9_mostAlike_45 ?_
                  refine k_top (z := (g_o_r5 (Int32.toNatClampNeg x0))) rfl ?_
                  refine lv_icmp_ne (tgt := 53) hx hb dX9_mostAlike_46 (by decide) (fun c_140 => ?_) (fun c_140 => ?_)
                  · have ic_140 : (g_o_r3 (Int32.toNatClampNeg x0)).toInt ≠ (g_o_r5 (Int32.toNatClampNeg x0)).toInt := k_ne c_140 rfl rfl
                    refine lv_iconst (v := 0) hx hb dX9_mostAlike_53 (by decide) ?_
                    refine lv_iadd hx hb dX9_mostAlike_54 ?_
                    refine lv_topi (fun z_141 ez_141 => ?_)
                    refine lv_istore (lv' := [(4, .int z_141), (5, .int v5_18), (3, .int v3_4), (2, .int v2_4), (0, .ref o), (1, .int x0)]) hx hb dX9_mostAlike_55 hl (by decide) rfl (fun ls hl => ?_)
                    obtain ⟨z_142, ez_142⟩ : ∃ y : Int32, y = v5_18 + Int32.ofInt 1 := ⟨_, rfl⟩
                    have iz_142 : z_142.toInt = v5_18.toInt + 1 := k_addI ez_142 rfl (by decide) (by omega)
                    refine lv_iinc (v := z_142) (lv' := [(5, .int z_142), (4, .int z_141), (3, .int v3_4), (2, .int v2_4), (0, .ref o), (1, .int x0)]) hx hb dX9_mostAlike_57 hl (k := 1) rfl ez_142.symm (by decide) rfl (fun ls hl => ?_)
                    refine lv_goto (tgt := 18) hx hb dX9_mostAlike_60 (by decide) ?_
                    exact ih18 z_142 z_141 ls (by first | omega | assumption) (by first | omega | assumption) (by omega) (lv_sub hl [0, 1, 2, 3, 4, 5] rfl)
                  · have ic_140 : (g_o_r3 (Int32.toNatClampNeg x0)).toInt = (g_o_r5 (Int32.toNatClampNeg x0)).toInt := k_eq c_140 rfl rfl
                    refine lv_iconst (v := 1) hx hb dX9_mostAlike_49 (by decide) ?_
                    refine lv_goto (tgt := 54) hx hb dX9_mostAlike_50 (by decide) ?_
                    refine lv_iadd hx hb dX9_mostAlike_54 ?_
                    refine lv_topi (fun z_143 ez_143 => ?_)
                    refine lv_istore (lv' := [(4, .int z_143), (5, .int v5_18), (3, .int v3_4), (2, .int v2_4), (0, .ref o), (1, .int x0)]) hx hb dX9_mostAlike_55 hl (by decide) rfl (fun ls hl => ?_)
                    obtain ⟨z_144, ez_144⟩ : ∃ y : Int32, y = v5_18 + Int32.ofInt 1 := ⟨_, rfl⟩
                    have iz_144 : z_144.toInt = v5_18.toInt + 1 := k_addI ez_144 rfl (by decide) (by omega)
                    refine lv_iinc (v := z_144) (lv' := [(5, .int z_144), (4, .int z_143), (3, .int v3_4), (2, .int v2_4), (0, .ref o), (1, .int x0)]) hx hb dX9_mostAlike_57 hl (k := 1) rfl ez_144.symm (by decide) rfl (fun ls hl => ?_)
                    refine lv_goto (tgt := 18) hx hb dX9_mostAlike_60 (by decide) ?_
                    exact ih18 z_144 z_143 ls (by first | omega | assumption) (by first | omega | assumption) (by omega) (lv_sub hl [0, 1, 2, 3, 4, 5] rfl)
                · refine k_tv (z := .ref o_r6) (by rw [k_clE (k := 6) sp_114, hw_o6]; rfl) ?_
                  refine lv_iload_n hx hb dX9_mostAlike_44 rfl (lv_at hl 5 rfl) ?_
                  refine va_iald hx hb hE.1 hP 8 0 rfl rfl (k_in (by omega)) dX9_mostAlike_45 ?_
                  refine k_top (z := (g_o_r6 (Int32.toNatClampNeg x0))) rfl ?_
                  refine lv_icmp_ne (tgt := 53) hx hb dX9_mostAlike_46 (by decide) (fun c_145 => ?_) (fun c_145 => ?_)
                  · have ic_145 : (g_o_r3 (Int32.toNatClampNeg x0)).toInt ≠ (g_o_r6 (Int32.toNatClampNeg x0)).toInt := k_ne c_145 rfl rfl
                    refine lv_iconst (v := 0) hx hb dX9_mostAlike_53 (by decide) ?_
                    refine lv_iadd hx hb dX9_mostAlike_54 ?_
                    refine lv_topi (fun z_146 ez_146 => ?_)
                    refine lv_istore (lv' := [(4, .int z_146), (5, .int v5_18), (3, .int v3_4), (2, .int v2_4), (0, .ref o), (1, .int x0)]) hx hb dX9_mostAlike_55 hl (by decide) rfl (fun ls hl => ?_)
                    obtain ⟨z_147, ez_147⟩ : ∃ y : Int32, y = v5_18 + Int32.ofInt 1 := ⟨_, rfl⟩
                    have iz_147 : z_147.toInt = v5_18.toInt + 1 := k_addI ez_147 rfl (by decide) (by omega)
                    refine lv_iinc (v := z_147) (lv' := [(5, .int z_147), (4, .int z_146), (3, .int v3_4), (2, .int v2_4), (0, .ref o), (1, .int x0)]) hx hb dX9_mostAlike_57 hl (k := 1) rfl ez_147.symm (by decide) rfl (fun ls hl => ?_)
                    refine lv_goto (tgt := 18) hx hb dX9_mostAlike_60 (by decide) ?_
                    exact ih18 z_147 z_146 ls (by first | omega | assumption) (by first | omega | assumption) (by omega) (lv_sub hl [0, 1, 2, 3, 4, 5] rfl)
                  · have ic_145 : (g_o_r3 (Int32.toNatClampNeg x0)).toInt = (g_o_r6 (Int32.toNatClampNeg x0)).toInt := k_eq c_145 rfl rfl
                    refine lv_iconst (v := 1) hx hb dX9_mostAlike_49 (by decide) ?_
                    refine lv_goto (tgt := 54) hx hb dX9_mostAlike_50 (by decide) ?_
                    refine lv_iadd hx hb dX9_mostAlike_54 ?_
                    refine lv_topi (fun z_148 ez_148 => ?_)
                    refine lv_istore (lv' := [(4, .int z_148), (5, .int v5_18), (3, .int v3_4), (2, .int v2_4), (0, .ref o), (1, .int x0)]) hx hb dX9_mostAlike_55 hl (by decide) rfl (fun ls hl => ?_)
                    obtain ⟨z_149, ez_149⟩ : ∃ y : Int32, y = v5_18 + Int32.ofInt 1 := ⟨_, rfl⟩
                    have iz_149 : z_149.toInt = v5_18.toInt + 1 := k_addI ez_149 rfl (by decide) (by omega)
                    refine lv_iinc (v := z_149) (lv' := [(5, .int z_149), (4, .int z_148), (3, .int v3_4), (2, .int v2_4), (0, .ref o), (1, .int x0)]) hx hb dX9_mostAlike_57 hl (k := 1) rfl ez_149.symm (by decide) rfl (fun ls hl => ?_)
                    refine lv_goto (tgt := 18) hx hb dX9_mostAlike_60 (by decide) ?_
                    exact ih18 z_149 z_148 ls (by first | omega | assumption) (by first | omega | assumption) (by omega) (lv_sub hl [0, 1, 2, 3, 4, 5] rfl)
              · refine k_tv (z := .ref o_r4) (by rw [k_clE (k := 4) sp_5, hw_o4]; rfl) ?_
                refine lv_iload_n hx hb dX9_mostAlike_35 rfl (lv_at hl 5 rfl) ?_
                refine va_iald hx hb hE.1 hP 6 0 rfl rfl (k_in (by omega)) dX9_mostAlike_36 ?_
                refine k_top (z := (g_o_r4 (Int32.toNatClampNeg x0))) rfl ?_
                refine lv_aload_n hx hb dX9_mostAlike_37 rfl (lv_at hl 4 rfl) ?_
                refine va_get (D := D) (ci := 9) (v := .ref o_cm) (C := RX9) (T := TX9) (N := 3) hx hb hG inG_X9 hown hE.1 hP 0 rfl rfl 2 (by decide) (hG _ q_f_X9_20) (fun _ h9 => h9) rfl dX9_mostAlike_38 ?_
                refine lv_iload hx hb dX9_mostAlike_41 (lv_at hl 0 rfl) ?_
                refine k_aldr hx hb hE.1 hP 1 6 rfl rfl (k_in (by omega)) dX9_mostAlike_43 ?_
                have sp_150 : v5_18.toInt = 0 ∨ v5_18.toInt = 1 ∨ v5_18.toInt = 2 ∨ v5_18.toInt = 3 ∨ v5_18.toInt = 4 ∨ v5_18.toInt = 5 ∨ v5_18.toInt = 6 := by omega
                rcases sp_150 with sp_150 | sp_150 | sp_150 | sp_150 | sp_150 | sp_150 | sp_150
                · refine k_tv (z := .ref o_r0) (by rw [k_clE (k := 0) sp_150, hw_o0]; rfl) ?_
                  refine lv_iload_n hx hb dX9_mostAlike_44 rfl (lv_at hl 5 rfl) ?_
                  refine va_iald hx hb hE.1 hP 2 0 rfl rfl (k_in (by omega)) dX9_mostAlike_45 ?_
                  refine k_top (z := (g_o_r0 (Int32.toNatClampNeg x0))) rfl ?_
                  refine lv_icmp_ne (tgt := 53) hx hb dX9_mostAlike_46 (by decide) (fun c_151 => ?_) (fun c_151 => ?_)
                  · have ic_151 : (g_o_r4 (Int32.toNatClampNeg x0)).toInt ≠ (g_o_r0 (Int32.toNatClampNeg x0)).toInt := k_ne c_151 rfl rfl
                    refine lv_iconst (v := 0) hx hb dX9_mostAlike_53 (by decide) ?_
                    refine lv_iadd hx hb dX9_mostAlike_54 ?_
                    refine lv_topi (fun z_152 ez_152 => ?_)
                    refine lv_istore (lv' := [(4, .int z_152), (5, .int v5_18), (3, .int v3_4), (2, .int v2_4), (0, .ref o), (1, .int x0)]) hx hb dX9_mostAlike_55 hl (by decide) rfl (fun ls hl => ?_)
                    obtain ⟨z_153, ez_153⟩ : ∃ y : Int32, y = v5_18 + Int32.ofInt 1 := ⟨_, rfl⟩
                    have iz_153 : z_153.toInt = v5_18.toInt + 1 := k_addI ez_153 rfl (by decide) (by omega)
                    refine lv_iinc (v := z_153) (lv' := [(5, .int z_153), (4, .int z_152), (3, .int v3_4), (2, .int v2_4), (0, .ref o), (1, .int x0)]) hx hb dX9_mostAlike_57 hl (k := 1) rfl ez_153.symm (by decide) rfl (fun ls hl => ?_)
                    refine lv_goto (tgt := 18) hx hb dX9_mostAlike_60 (by decide) ?_
                    exact ih18 z_153 z_152 ls (by first | omega | assumption) (by first | omega | assumption) (by omega) (lv_sub hl [0, 1, 2, 3, 4, 5] rfl)
                  · have ic_151 : (g_o_r4 (Int32.toNatClampNeg x0)).toInt = (g_o_r0 (Int32.toNatClampNeg x0)).toInt := k_eq c_151 rfl rfl
                    refine lv_iconst (v := 1) hx hb dX9_mostAlike_49 (by decide) ?_
                    refine lv_goto (tgt := 54) hx hb dX9_mostAlike_50 (by decide) ?_
                    refine lv_iadd hx hb dX9_mostAlike_54 ?_
                    refine lv_topi (fun z_154 ez_154 => ?_)
                    refine lv_istore (lv' := [(4, .int z_154), (5, .int v5_18), (3, .int v3_4), (2, .int v2_4), (0, .ref o), (1, .int x0)]) hx hb dX9_mostAlike_55 hl (by decide) rfl (fun ls hl => ?_)
                    obtain ⟨z_155, ez_155⟩ : ∃ y : Int32, y = v5_18 + Int32.ofInt 1 := ⟨_, rfl⟩
                    have iz_155 : z_155.toInt = v5_18.toInt + 1 := k_addI ez_155 rfl (by decide) (by omega)
                    refine lv_iinc (v := z_155) (lv' := [(5, .int z_155), (4, .int z_154), (3, .int v3_4), (2, .int v2_4), (0, .ref o), (1, .int x0)]) hx hb dX9_mostAlike_57 hl (k := 1) rfl ez_155.symm (by decide) rfl (fun ls hl => ?_)
                    refine lv_goto (tgt := 18) hx hb dX9_mostAlike_60 (by decide) ?_
                    exact ih18 z_155 z_154 ls (by first | omega | assumption) (by first | omega | assumption) (by omega) (lv_sub hl [0, 1, 2, 3, 4, 5] rfl)
                · refine k_tv (z := .ref o_r1) (by rw [k_clE (k := 1) sp_150, hw_o1]; rfl) ?_
                  refine lv_iload_n hx hb dX9_mostAlike_44 rfl (lv_at hl 5 rfl) ?_
                  refine va_iald hx hb hE.1 hP 3 0 rfl rfl (k_in (by omega)) dX9_mostAlike_45 ?_
                  refine k_top (z := (g_o_r1 (Int32.toNatClampNeg x0))) rfl ?_
                  refine lv_icmp_ne (tgt := 53) hx hb dX9_mostAlike_46 (by decide) (fun c_156 => ?_) (fun c_156 => ?_)
                  · have ic_156 : (g_o_r4 (Int32.toNatClampNeg x0)).toInt ≠ (g_o_r1 (Int32.toNatClampNeg x0)).toInt := k_ne c_156 rfl rfl
                    refine lv_iconst (v := 0) hx hb dX9_mostAlike_53 (by decide) ?_
                    refine lv_iadd hx hb dX9_mostAlike_54 ?_
                    refine lv_topi (fun z_157 ez_157 => ?_)
                    refine lv_istore (lv' := [(4, .int z_157), (5, .int v5_18), (3, .int v3_4), (2, .int v2_4), (0, .ref o), (1, .int x0)]) hx hb dX9_mostAlike_55 hl (by decide) rfl (fun ls hl => ?_)
                    obtain ⟨z_158, ez_158⟩ : ∃ y : Int32, y = v5_18 + Int32.ofInt 1 := ⟨_, rfl⟩
                    have iz_158 : z_158.toInt = v5_18.toInt + 1 := k_addI ez_158 rfl (by decide) (by omega)
                    refine lv_iinc (v := z_158) (lv' := [(5, .int z_158), (4, .int z_157), (3, .int v3_4), (2, .int v2_4), (0, .ref o), (1, .int x0)]) hx hb dX9_mostAlike_57 hl (k := 1) rfl ez_158.symm (by decide) rfl (fun ls hl => ?_)
                    refine lv_goto (tgt := 18) hx hb dX9_mostAlike_60 (by decide) ?_
                    exact ih18 z_158 z_157 ls (by first | omega | assumption) (by first | omega | assumption) (by omega) (lv_sub hl [0, 1, 2, 3, 4, 5] rfl)
                  · have ic_156 : (g_o_r4 (Int32.toNatClampNeg x0)).toInt = (g_o_r1 (Int32.toNatClampNeg x0)).toInt := k_eq c_156 rfl rfl
                    refine lv_iconst (v := 1) hx hb dX9_mostAlike_49 (by decide) ?_
                    refine lv_goto (tgt := 54) hx hb dX9_mostAlike_50 (by decide) ?_
                    refine lv_iadd hx hb dX9_mostAlike_54 ?_
                    refine lv_topi (fun z_159 ez_159 => ?_)
                    refine lv_istore (lv' := [(4, .int z_159), (5, .int v5_18), (3, .int v3_4), (2, .int v2_4), (0, .ref o), (1, .int x0)]) hx hb dX9_mostAlike_55 hl (by decide) rfl (fun ls hl => ?_)
                    obtain ⟨z_160, ez_160⟩ : ∃ y : Int32, y = v5_18 + Int32.ofInt 1 := ⟨_, rfl⟩
                    have iz_160 : z_160.toInt = v5_18.toInt + 1 := k_addI ez_160 rfl (by decide) (by omega)
                    refine lv_iinc (v := z_160) (lv' := [(5, .int z_160), (4, .int z_159), (3, .int v3_4), (2, .int v2_4), (0, .ref o), (1, .int x0)]) hx hb dX9_mostAlike_57 hl (k := 1) rfl ez_160.symm (by decide) rfl (fun ls hl => ?_)
                    refine lv_goto (tgt := 18) hx hb dX9_mostAlike_60 (by decide) ?_
                    exact ih18 z_160 z_159 ls (by first | omega | assumption) (by first | omega | assumption) (by omega) (lv_sub hl [0, 1, 2, 3, 4, 5] rfl)
                · refine k_tv (z := .ref o_r2) (by rw [k_clE (k := 2) sp_150, hw_o2]; rfl) ?_
                  refine lv_iload_n hx hb dX9_mostAlike_44 rfl (lv_at hl 5 rfl) ?_
                  refine va_iald hx hb hE.1 hP 4 0 rfl rfl (k_in (by omega)) dX9_mostAlike_45 ?_
                  refine k_top (z := (g_o_r2 (Int32.toNatClampNeg x0))) rfl ?_
                  refine lv_icmp_ne (tgt := 53) hx hb dX9_mostAlike_46 (by decide) (fun c_161 => ?_) (fun c_161 => ?_)
                  · have ic_161 : (g_o_r4 (Int32.toNatClampNeg x0)).toInt ≠ (g_o_r2 (Int32.toNatClampNeg x0)).toInt := k_ne c_161 rfl rfl
                    refine lv_iconst (v := 0) hx hb dX9_mostAlike_53 (by decide) ?_
                    refine lv_iadd hx hb dX9_mostAlike_54 ?_
                    refine lv_topi (fun z_162 ez_162 => ?_)
                    refine lv_istore (lv' := [(4, .int z_162), (5, .int v5_18), (3, .int v3_4), (2, .int v2_4), (0, .ref o), (1, .int x0)]) hx hb dX9_mostAlike_55 hl (by decide) rfl (fun ls hl => ?_)
                    obtain ⟨z_163, ez_163⟩ : ∃ y : Int32, y = v5_18 + Int32.ofInt 1 := ⟨_, rfl⟩
                    have iz_163 : z_163.toInt = v5_18.toInt + 1 := k_addI ez_163 rfl (by decide) (by omega)
                    refine lv_iinc (v := z_163) (lv' := [(5, .int z_163), (4, .int z_162), (3, .int v3_4), (2, .int v2_4), (0, .ref o), (1, .int x0)]) hx hb dX9_mostAlike_57 hl (k := 1) rfl ez_163.symm (by decide) rfl (fun ls hl => ?_)
                    refine lv_goto (tgt := 18) hx hb dX9_mostAlike_60 (by decide) ?_
                    exact ih18 z_163 z_162 ls (by first | omega | assumption) (by first | omega | assumption) (by omega) (lv_sub hl [0, 1, 2, 3, 4, 5] rfl)
                  · have ic_161 : (g_o_r4 (Int32.toNatClampNeg x0)).toInt = (g_o_r2 (Int32.toNatClampNeg x0)).toInt := k_eq c_161 rfl rfl
                    refine lv_iconst (v := 1) hx hb dX9_mostAlike_49 (by decide) ?_
                    refine lv_goto (tgt := 54) hx hb dX9_mostAlike_50 (by decide) ?_
                    refine lv_iadd hx hb dX9_mostAlike_54 ?_
                    refine lv_topi (fun z_164 ez_164 => ?_)
                    refine lv_istore (lv' := [(4, .int z_164), (5, .int v5_18), (3, .int v3_4), (2, .int v2_4), (0, .ref o), (1, .int x0)]) hx hb dX9_mostAlike_55 hl (by decide) rfl (fun ls hl => ?_)
                    obtain ⟨z_165, ez_165⟩ : ∃ y : Int32, y = v5_18 + Int32.ofInt 1 := ⟨_, rfl⟩
                    have iz_165 : z_165.toInt = v5_18.toInt + 1 := k_addI ez_165 rfl (by decide) (by omega)
                    refine lv_iinc (v := z_165) (lv' := [(5, .int z_165), (4, .int z_164), (3, .int v3_4), (2, .int v2_4), (0, .ref o), (1, .int x0)]) hx hb dX9_mostAlike_57 hl (k := 1) rfl ez_165.symm (by decide) rfl (fun ls hl => ?_)
                    refine lv_goto (tgt := 18) hx hb dX9_mostAlike_60 (by decide) ?_
                    exact ih18 z_165 z_164 ls (by first | omega | assumption) (by first | omega | assumption) (by omega) (lv_sub hl [0, 1, 2, 3, 4, 5] rfl)
                · refine k_tv (z := .ref o_r3) (by rw [k_clE (k := 3) sp_150, hw_o3]; rfl) ?_
                  refine lv_iload_n hx hb dX9_mostAlike_44 rfl (lv_at hl 5 rfl) ?_
                  refine va_iald hx hb hE.1 hP 5 0 rfl rfl (k_in (by omega)) dX9_mostAlike_45 ?_
                  refine k_top (z := (g_o_r3 (Int32.toNatClampNeg x0))) rfl ?_
                  refine lv_icmp_ne (tgt := 53) hx hb dX9_mostAlike_46 (by decide) (fun c_166 => ?_) (fun c_166 => ?_)
                  · have ic_166 : (g_o_r4 (Int32.toNatClampNeg x0)).toInt ≠ (g_o_r3 (Int32.toNatClampNeg x0)).toInt := k_ne c_166 rfl rfl
                    refine lv_iconst (v := 0) hx hb dX9_mostAlike_53 (by decide) ?_
                    refine lv_iadd hx hb dX9_mostAlike_54 ?_
                    refine lv_topi (fun z_167 ez_167 => ?_)
                    refine lv_istore (lv' := [(4, .int z_167), (5, .int v5_18), (3, .int v3_4), (2, .int v2_4), (0, .ref o), (1, .int x0)]) hx hb dX9_mostAlike_55 hl (by decide) rfl (fun ls hl => ?_)
                    obtain ⟨z_168, ez_168⟩ : ∃ y : Int32, y = v5_18 + Int32.ofInt 1 := ⟨_, rfl⟩
                    have iz_168 : z_168.toInt = v5_18.toInt + 1 := k_addI ez_168 rfl (by decide) (by omega)
                    refine lv_iinc (v := z_168) (lv' := [(5, .int z_168), (4, .int z_167), (3, .int v3_4), (2, .int v2_4), (0, .ref o), (1, .int x0)]) hx hb dX9_mostAlike_57 hl (k := 1) rfl ez_168.symm (by decide) rfl (fun ls hl => ?_)
                    refine lv_goto (tgt := 18) hx hb dX9_mostAlike_60 (by decide) ?_
                    exact ih18 z_168 z_167 ls (by first | omega | assumption) (by first | omega | assumption) (by omega) (lv_sub hl [0, 1, 2, 3, 4, 5] rfl)
                  · have ic_166 : (g_o_r4 (Int32.toNatClampNeg x0)).toInt = (g_o_r3 (Int32.toNatClampNeg x0)).toInt := k_eq c_166 rfl rfl
                    refine lv_iconst (v := 1) hx hb dX9_mostAlike_49 (by decide) ?_
                    refine lv_goto (tgt := 54) hx hb dX9_mostAlike_50 (by decide) ?_
                    refine lv_iadd hx hb dX9_mostAlike_54 ?_
                    refine lv_topi (fun z_169 ez_169 => ?_)
                    refine lv_istore (lv' := [(4, .int z_169), (5, .int v5_18), (3, .int v3_4), (2, .int v2_4), (0, .ref o), (1, .int x0)]) hx hb dX9_mostAlike_55 hl (by decide) rfl (fun ls hl => ?_)
                    obtain ⟨z_170, ez_170⟩ : ∃ y : Int32, y = v5_18 + Int32.ofInt 1 := ⟨_, rfl⟩
                    have iz_170 : z_170.toInt = v5_18.toInt + 1 := k_addI ez_170 rfl (by decide) (by omega)
                    refine lv_iinc (v := z_170) (lv' := [(5, .int z_170), (4, .int z_169), (3, .int v3_4), (2, .int v2_4), (0, .ref o), (1, .int x0)]) hx hb dX9_mostAlike_57 hl (k := 1) rfl ez_170.symm (by decide) rfl (fun ls hl => ?_)
                    refine lv_goto (tgt := 18) hx hb dX9_mostAlike_60 (by decide) ?_
                    exact ih18 z_170 z_169 ls (by first | omega | assumption) (by first | omega | assumption) (by omega) (lv_sub hl [0, 1, 2, 3, 4, 5] rfl)
                · refine k_tv (z := .ref o_r4) (by rw [k_clE (k := 4) sp_150, hw_o4]; rfl) ?_
                  refine lv_iload_n hx hb dX9_mostAlike_44 rfl (lv_at hl 5 rfl) ?_
                  refine va_iald hx hb hE.1 hP 6 0 rfl rfl (k_in (by omega)) dX9_mostAlike_45 ?_
                  refine k_top (z := (g_o_r4 (Int32.toNatClampNeg x0))) rfl ?_
                  refine lv_icmp_ne (tgt := 53) hx hb dX9_mostAlike_46 (by decide) (fun c_171 => ?_) (fun c_171 => ?_)
                  · have ic_171 : (g_o_r4 (Int32.toNatClampNeg x0)).toInt ≠ (g_o_r4 (Int32.toNatClampNeg x0)).toInt := k_ne c_171 rfl rfl
                    refine lv_iconst (v := 0) hx hb dX9_mostAlike_53 (by decide) ?_
                    refine lv_iadd hx hb dX9_mostAlike_54 ?_
                    refine lv_topi (fun z_172 ez_172 => ?_)
                    refine lv_istore (lv' := [(4, .int z_172), (5, .int v5_18), (3, .int v3_4), (2, .int v2_4), (0, .ref o), (1, .int x0)]) hx hb dX9_mostAlike_55 hl (by decide) rfl (fun ls hl => ?_)
                    obtain ⟨z_173, ez_173⟩ : ∃ y : Int32, y = v5_18 + Int32.ofInt 1 := ⟨_, rfl⟩
                    have iz_173 : z_173.toInt = v5_18.toInt + 1 := k_addI ez_173 rfl (by decide) (by omega)
                    refine lv_iinc (v := z_173) (lv' := [(5, .int z_173), (4, .int z_172), (3, .int v3_4), (2, .int v2_4), (0, .ref o), (1, .int x0)]) hx hb dX9_mostAlike_57 hl (k := 1) rfl ez_173.symm (by decide) rfl (fun ls hl => ?_)
                    refine lv_goto (tgt := 18) hx hb dX9_mostAlike_60 (by decide) ?_
                    exact ih18 z_173 z_172 ls (by first | omega | assumption) (by first | omega | assumption) (by omega) (lv_sub hl [0, 1, 2, 3, 4, 5] rfl)
                  · have ic_171 : (g_o_r4 (Int32.toNatClampNeg x0)).toInt = (g_o_r4 (Int32.toNatClampNeg x0)).toInt := k_eq c_171 rfl rfl
                    refine lv_iconst (v := 1) hx hb dX9_mostAlike_49 (by decide) ?_
                    refine lv_goto (tgt := 54) hx hb dX9_mostAlike_50 (by decide) ?_
                    refine lv_iadd hx hb dX9_mostAlike_54 ?_
                    refine lv_topi (fun z_174 ez_174 => ?_)
                    refine lv_istore (lv' := [(4, .int z_174), (5, .int v5_18), (3, .int v3_4), (2, .int v2_4), (0, .ref o), (1, .int x0)]) hx hb dX9_mostAlike_55 hl (by decide) rfl (fun ls hl => ?_)
                    obtain ⟨z_175, ez_175⟩ : ∃ y : Int32, y = v5_18 + Int32.ofInt 1 := ⟨_, rfl⟩
                    have iz_175 : z_175.toInt = v5_18.toInt + 1 := k_addI ez_175 rfl (by decide) (by omega)
                    refine lv_iinc (v := z_175) (lv' := [(5, .int z_175), (4, .int z_174), (3, .int v3_4), (2, .int v2_4), (0, .ref o), (1, .int x0)]) hx hb dX9_mostAlike_57 hl (k := 1) rfl ez_175.symm (by decide) rfl (fun ls hl => ?_)
                    refine lv_goto (tgt := 18) hx hb dX9_mostAlike_60 (by decide) ?_
                    exact ih18 z_175 z_174 ls (by first | omega | assumption) (by first | omega | assumption) (by omega) (lv_sub hl [0, 1, 2, 3, 4, 5] rfl)
                · refine k_tv (z := .ref o_r5) (by rw [k_clE (k := 5) sp_150, hw_o5]; rfl) ?_
                  refine lv_iload_n hx hb dX9_mostAlike_44 rfl (lv_at hl 5 rfl) ?_
                  refine va_iald hx hb hE.1 hP 7 0 rfl rfl (k_in (by omega)) dX9_mostAlike_45 ?_
                  refine k_top (z := (g_o_r5 (Int32.toNatClampNeg x0))) rfl ?_
                  refine lv_icmp_ne (tgt := 53) hx hb dX9_mostAlike_46 (by decide) (fun c_176 => ?_) (fun c_176 => ?_)
                  · have ic_176 : (g_o_r4 (Int32.toNatClampNeg x0)).toInt ≠ (g_o_r5 (Int32.toNatClampNeg x0)).toInt := k_ne c_176 rfl rfl
                    refine lv_iconst (v := 0) hx hb dX9_mostAlike_53 (by decide) ?_
                    refine lv_iadd hx hb dX9_mostAlike_54 ?_
                    refine lv_topi (fun z_177 ez_177 => ?_)
                    refine lv_istore (lv' := [(4, .int z_177), (5, .int v5_18), (3, .int v3_4), (2, .int v2_4), (0, .ref o), (1, .int x0)]) hx hb dX9_mostAlike_55 hl (by decide) rfl (fun ls hl => ?_)
                    obtain ⟨z_178, ez_178⟩ : ∃ y : Int32, y = v5_18 + Int32.ofInt 1 := ⟨_, rfl⟩
                    have iz_178 : z_178.toInt = v5_18.toInt + 1 := k_addI ez_178 rfl (by decide) (by omega)
                    refine lv_iinc (v := z_178) (lv' := [(5, .int z_178), (4, .int z_177), (3, .int v3_4), (2, .int v2_4), (0, .ref o), (1, .int x0)]) hx hb dX9_mostAlike_57 hl (k := 1) rfl ez_178.symm (by decide) rfl (fun ls hl => ?_)
                    refine lv_goto (tgt := 18) hx hb dX9_mostAlike_60 (by decide) ?_
                    exact ih18 z_178 z_177 ls (by first | omega | assumption) (by first | omega | assumption) (by omega) (lv_sub hl [0, 1, 2, 3, 4, 5] rfl)
                  · have ic_176 : (g_o_r4 (Int32.toNatClampNeg x0)).toInt = (g_o_r5 (Int32.toNatClampNeg x0)).toInt := k_eq c_176 rfl rfl
                    refine lv_iconst (v := 1) hx hb dX9_mostAlike_49 (by decide) ?_
                    refine lv_goto (tgt := 54) hx hb dX9_mostAlike_50 (by decide) ?_
                    refine lv_iadd hx hb dX9_mostAlike_54 ?_
                    refine lv_topi (fun z_179 ez_179 => ?_)
                    refine lv_istore (lv' := [(4, .int z_179), (5, .int v5_18), (3, .int v3_4), (2, .int v2_4), (0, .ref o), (1, .int x0)]) hx hb dX9_mostAlike_55 hl (by decide) rfl (fun ls hl => ?_)
                    obtain ⟨z_180, ez_180⟩ : ∃ y : Int32, y = v5_18 + Int32.ofInt 1 := ⟨_, rfl⟩
                    have iz_180 : z_180.toInt = v5_18.toInt + 1 := k_addI ez_180 rfl (by decide) (by omega)
                    refine lv_iinc (v := z_180) (lv' := [(5, .int z_180), (4, .int z_179), (3, .int v3_4), (2, .int v2_4), (0, .ref o), (1, .int x0)]) hx hb dX9_mostAlike_57 hl (k := 1) rfl ez_180.symm (by decide) rfl (fun ls hl => ?_)
                    refine lv_goto (tgt := 18) hx hb dX9_mostAlike_60 (by decide) ?_
                    exact ih18 z_180 z_179 ls (by first | omega | assumption) (by first | omega | assumption) (by omega) (lv_sub hl [0, 1, 2, 3, 4, 5] rfl)
                · refine k_tv (z := .ref o_r6) (by rw [k_clE (k := 6) sp_150, hw_o6]; rfl) ?_
                  refine lv_iload_n hx hb dX9_mostAlike_44 rfl (lv_at hl 5 rfl) ?_
                  refine va_iald hx hb hE.1 hP 8 0 rfl rfl (k_in (by omega)) dX9_mostAlike_45 ?_
                  refine k_top (z := (g_o_r6 (Int32.toNatClampNeg x0))) rfl ?_
                  refine lv_icmp_ne (tgt := 53) hx hb dX9_mostAlike_46 (by decide) (fun c_181 => ?_) (fun c_181 => ?_)
                  · have ic_181 : (g_o_r4 (Int32.toNatClampNeg x0)).toInt ≠ (g_o_r6 (Int32.toNatClampNeg x0)).toInt := k_ne c_181 rfl rfl
                    refine lv_iconst (v := 0) hx hb dX9_mostAlike_53 (by decide) ?_
                    refine lv_iadd hx hb dX9_mostAlike_54 ?_
                    refine lv_topi (fun z_182 ez_182 => ?_)
                    refine lv_istore (lv' := [(4, .int z_182), (5, .int v5_18), (3, .int v3_4), (2, .int v2_4), (0, .ref o), (1, .int x0)]) hx hb dX9_mostAlike_55 hl (by decide) rfl (fun ls hl => ?_)
                    obtain ⟨z_183, ez_183⟩ : ∃ y : Int32, y = v5_18 + Int32.ofInt 1 := ⟨_, rfl⟩
                    have iz_183 : z_183.toInt = v5_18.toInt + 1 := k_addI ez_183 rfl (by decide) (by omega)
                    refine lv_iinc (v := z_183) (lv' := [(5, .int z_183), (4, .int z_182), (3, .int v3_4), (2, .int v2_4), (0, .ref o), (1, .int x0)]) hx hb dX9_mostAlike_57 hl (k := 1) rfl ez_183.symm (by decide) rfl (fun ls hl => ?_)
                    refine lv_goto (tgt := 18) hx hb dX9_mostAlike_60 (by decide) ?_
                    exact ih18 z_183 z_182 ls (by first | omega | assumption) (by first | omega | assumption) (by omega) (lv_sub hl [0, 1, 2, 3, 4, 5] rfl)
                  · have ic_181 : (g_o_r4 (Int32.toNatClampNeg x0)).toInt = (g_o_r6 (Int32.toNatClampNeg x0)).toInt := k_eq c_181 rfl rfl
                    refine lv_iconst (v := 1) hx hb dX9_mostAlike_49 (by decide) ?_
                    refine lv_goto (tgt := 54) hx hb dX9_mostAlike_50 (by decide) ?_
                    refine lv_iadd hx hb dX9_mostAlike_54 ?_
                    refine lv_topi (fun z_184 ez_184 => ?_)
                    refine lv_istore (lv' := [(4, .int z_184), (5, .int v5_18), (3, .int v3_4), (2, .int v2_4), (0, .ref o), (1, .int x0)]) hx hb dX9_mostAlike_55 hl (by decide) rfl (fun ls hl => ?_)
                    obtain ⟨z_185, ez_185⟩ : ∃ y : Int32, y = v5_18 + Int32.ofInt 1 := ⟨_, rfl⟩
                    have iz_185 : z_185.toInt = v5_18.toInt + 1 := k_addI ez_185 rfl (by decide) (by omega)
                    refine lv_iinc (v := z_185) (lv' := [(5, .int z_185), (4, .int z_184), (3, .int v3_4), (2, .int v2_4), (0, .ref o), (1, .int x0)]) hx hb dX9_mostAlike_57 hl (k := 1) rfl ez_185.symm (by decide) rfl (fun ls hl => ?_)
                    refine lv_goto (tgt := 18) hx hb dX9_mostAlike_60 (by decide) ?_
                    exact ih18 z_185 z_184 ls (by first | omega | assumption) (by first | omega | assumption) (by omega) (lv_sub hl [0, 1, 2, 3, 4, 5] rfl)
              · refine k_tv (z := .ref o_r5) (by rw [k_clE (k := 5) sp_5, hw_o5]; rfl) ?_
                refine lv_iload_n hx hb dX9_mostAlike_35 rfl (lv_at hl 5 rfl) ?_
                refine va_iald hx hb hE.1 hP 7 0 rfl rfl (k_in (by omega)) dX9_mostAlike_36 ?_
                refine k_top (z := (g_o_r5 (Int32.toNatClampNeg x0))) rfl ?_
                refine lv_aload_n hx hb dX9_mostAlike_37 rfl (lv_at hl 4 rfl) ?_
                refine va_get (D := D) (ci := 9) (v := .ref o_cm) (C := RX9) (T := TX9) (N := 3) hx hb hG inG_X9 hown hE.1 hP 0 rfl rfl 2 (by decide) (hG _ q_f_X9_20) (fun _ h9 => h9) rfl dX9_mostAlike_38 ?_
                refine lv_iload hx hb dX9_mostAlike_41 (lv_at hl 0 rfl) ?_
                refine k_aldr hx hb hE.1 hP 1 6 rfl rfl (k_in (by omega)) dX9_mostAlike_43 ?_
                have sp_186 : v5_18.toInt = 0 ∨ v5_18.toInt = 1 ∨ v5_18.toInt = 2 ∨ v5_18.toInt = 3 ∨ v5_18.toInt = 4 ∨ v5_18.toInt = 5 ∨ v5_18.toInt = 6 := by omega
                rcases sp_186 with sp_186 | sp_186 | sp_186 | sp_186 | sp_186 | sp_186 | sp_186
                · refine k_tv (z := .ref o_r0) (by rw [k_clE (k := 0) sp_186, hw_o0]; rfl) ?_
                  refine lv_iload_n hx hb dX9_mostAlike_44 rfl (lv_at hl 5 rfl) ?_
                  refine va_iald hx hb hE.1 hP 2 0 rfl rfl (k_in (by omega)) dX9_mostAlike_45 ?_
                  refine k_top (z := (g_o_r0 (Int32.toNatClampNeg x0))) rfl ?_
                  refine lv_icmp_ne (tgt := 53) hx hb dX9_mostAlike_46 (by decide) (fun c_187 => ?_) (fun c_187 => ?_)
                  · have ic_187 : (g_o_r5 (Int32.toNatClampNeg x0)).toInt ≠ (g_o_r0 (Int32.toNatClampNeg x0)).toInt := k_ne c_187 rfl rfl
                    refine lv_iconst (v := 0) hx hb dX9_mostAlike_53 (by decide) ?_
                    refine lv_iadd hx hb dX9_mostAlike_54 ?_
                    refine lv_topi (fun z_188 ez_188 => ?_)
                    refine lv_istore (lv' := [(4, .int z_188), (5, .int v5_18), (3, .int v3_4), (2, .int v2_4), (0, .ref o), (1, .int x0)]) hx hb dX9_mostAlike_55 hl (by decide) rfl (fun ls hl => ?_)
                    obtain ⟨z_189, ez_189⟩ : ∃ y : Int32, y = v5_18 + Int32.ofInt 1 := ⟨_, rfl⟩
                    have iz_189 : z_189.toInt = v5_18.toInt + 1 := k_addI ez_189 rfl (by decide) (by omega)
                    refine lv_iinc (v := z_189) (lv' := [(5, .int z_189), (4, .int z_188), (3, .int v3_4), (2, .int v2_4), (0, .ref o), (1, .int x0)]) hx hb dX9_mostAlike_57 hl (k := 1) rfl ez_189.symm (by decide) rfl (fun ls hl => ?_)
                    refine lv_goto (tgt := 18) hx hb dX9_mostAlike_60 (by decide) ?_
                    exact ih18 z_189 z_188 ls (by first | omega | assumption) (by first | omega | assumption) (by omega) (lv_sub hl [0, 1, 2, 3, 4, 5] rfl)
                  · have ic_187 : (g_o_r5 (Int32.toNatClampNeg x0)).toInt = (g_o_r0 (Int32.toNatClampNeg x0)).toInt := k_eq c_187 rfl rfl
                    refine lv_iconst (v := 1) hx hb dX9_mostAlike_49 (by decide) ?_
                    refine lv_goto (tgt := 54) hx hb dX9_mostAlike_50 (by decide) ?_
                    refine lv_iadd hx hb dX9_mostAlike_54 ?_
                    refine lv_topi (fun z_190 ez_190 => ?_)
                    refine lv_istore (lv' := [(4, .int z_190), (5, .int v5_18), (3, .int v3_4), (2, .int v2_4), (0, .ref o), (1, .int x0)]) hx hb dX9_mostAlike_55 hl (by decide) rfl (fun ls hl => ?_)
                    obtain ⟨z_191, ez_191⟩ : ∃ y : Int32, y = v5_18 + Int32.ofInt 1 := ⟨_, rfl⟩
                    have iz_191 : z_191.toInt = v5_18.toInt + 1 := k_addI ez_191 rfl (by decide) (by omega)
                    refine lv_iinc (v := z_191) (lv' := [(5, .int z_191), (4, .int z_190), (3, .int v3_4), (2, .int v2_4), (0, .ref o), (1, .int x0)]) hx hb dX9_mostAlike_57 hl (k := 1) rfl ez_191.symm (by decide) rfl (fun ls hl => ?_)
                    refine lv_goto (tgt := 18) hx hb dX9_mostAlike_60 (by decide) ?_
                    exact ih18 z_191 z_190 ls (by first | omega | assumption) (by first | omega | assumption) (by omega) (lv_sub hl [0, 1, 2, 3, 4, 5] rfl)
                · refine k_tv (z := .ref o_r1) (by rw [k_clE (k := 1) sp_186, hw_o1]; rfl) ?_
                  refine lv_iload_n hx hb dX9_mostAlike_44 rfl (lv_at hl 5 rfl) ?_
                  refine va_iald hx hb hE.1 hP 3 0 rfl rfl (k_in (by omega)) dX9_mostAlike_45 ?_
                  refine k_top (z := (g_o_r1 (Int32.toNatClampNeg x0))) rfl ?_
                  refine lv_icmp_ne (tgt := 53) hx hb dX9_mostAlike_46 (by decide) (fun c_192 => ?_) (fun c_192 => ?_)
                  · have ic_192 : (g_o_r5 (Int32.toNatClampNeg x0)).toInt ≠ (g_o_r1 (Int32.toNatClampNeg x0)).toInt := k_ne c_192 rfl rfl
                    refine lv_iconst (v := 0) hx hb dX9_mostAlike_53 (by decide) ?_
                    refine lv_iadd hx hb dX9_mostAlike_54 ?_
                    refine lv_topi (fun z_193 ez_193 => ?_)
                    refine lv_istore (lv' := [(4, .int z_193), (5, .int v5_18), (3, .int v3_4), (2, .int v2_4), (0, .ref o), (1, .int x0)]) hx hb dX9_mostAlike_55 hl (by decide) rfl (fun ls hl => ?_)
                    obtain ⟨z_194, ez_194⟩ : ∃ y : Int32, y = v5_18 + Int32.ofInt 1 := ⟨_, rfl⟩
                    have iz_194 : z_194.toInt = v5_18.toInt + 1 := k_addI ez_194 rfl (by decide) (by omega)
                    refine lv_iinc (v := z_194) (lv' := [(5, .int z_194), (4, .int z_193), (3, .int v3_4), (2, .int v2_4), (0, .ref o), (1, .int x0)]) hx hb dX9_mostAlike_57 hl (k := 1) rfl ez_194.symm (by decide) rfl (fun ls hl => ?_)
                    refine lv_goto (tgt := 18) hx hb dX9_mostAlike_60 (by decide) ?_
                    exact ih18 z_194 z_193 ls (by first | omega | assumption) (by first | omega | assumption) (by omega) (lv_sub hl [0, 1, 2, 3, 4, 5] rfl)
                  · have ic_192 : (g_o_r5 (Int32.toNatClampNeg x0)).toInt = (g_o_r1 (Int32.toNatClampNeg x0)).toInt := k_eq c_192 rfl rfl
                    refine lv_iconst (v := 1) hx hb dX9_mostAlike_49 (by decide) ?_
                    refine lv_goto (tgt := 54) hx hb dX9_mostAlike_50 (by decide) ?_
                    refine lv_iadd hx hb dX9_mostAlike_54 ?_
                    refine lv_topi (fun z_195 ez_195 => ?_)
                    refine lv_istore (lv' := [(4, .int z_195), (5, .int v5_18), (3, .int v3_4), (2, .int v2_4), (0, .ref o), (1, .int x0)]) hx hb dX9_mostAlike_55 hl (by decide) rfl (fun ls hl => ?_)
                    obtain ⟨z_196, ez_196⟩ : ∃ y : Int32, y = v5_18 + Int32.ofInt 1 := ⟨_, rfl⟩
                    have iz_196 : z_196.toInt = v5_18.toInt + 1 := k_addI ez_196 rfl (by decide) (by omega)
                    refine lv_iinc (v := z_196) (lv' := [(5, .int z_196), (4, .int z_195), (3, .int v3_4), (2, .int v2_4), (0, .ref o), (1, .int x0)]) hx hb dX9_mostAlike_57 hl (k := 1) rfl ez_196.symm (by decide) rfl (fun ls hl => ?_)
                    refine lv_goto (tgt := 18) hx hb dX9_mostAlike_60 (by decide) ?_
                    exact ih18 z_196 z_195 ls (by first | omega | assumption) (by first | omega | assumption) (by omega) (lv_sub hl [0, 1, 2, 3, 4, 5] rfl)
                · refine k_tv (z := .ref o_r2) (by rw [k_clE (k := 2) sp_186, hw_o2]; rfl) ?_
                  refine lv_iload_n hx hb dX9_mostAlike_44 rfl (lv_at hl 5 rfl) ?_
                  refine va_iald hx hb hE.1 hP 4 0 rfl rfl (k_in (by omega)) dX9_mostAlike_45 ?_
                  refine k_top (z := (g_o_r2 (Int32.toNatClampNeg x0))) rfl ?_
                  refine lv_icmp_ne (tgt := 53) hx hb dX9_mostAlike_46 (by decide) (fun c_197 => ?_) (fun c_197 => ?_)
                  · have ic_197 : (g_o_r5 (Int32.toNatClampNeg x0)).toInt ≠ (g_o_r2 (Int32.toNatClampNeg x0)).toInt := k_ne c_197 rfl rfl
                    refine lv_iconst (v := 0) hx hb dX9_mostAlike_53 (by decide) ?_
                    refine lv_iadd hx hb dX9_mostAlike_54 ?_
                    refine lv_topi (fun z_198 ez_198 => ?_)
                    refine lv_istore (lv' := [(4, .int z_198), (5, .int v5_18), (3, .int v3_4), (2, .int v2_4), (0, .ref o), (1, .int x0)]) hx hb dX9_mostAlike_55 hl (by decide) rfl (fun ls hl => ?_)
                    obtain ⟨z_199, ez_199⟩ : ∃ y : Int32, y = v5_18 + Int32.ofInt 1 := ⟨_, rfl⟩
                    have iz_199 : z_199.toInt = v5_18.toInt + 1 := k_addI ez_199 rfl (by decide) (by omega)
                    refine lv_iinc (v := z_199) (lv' := [(5, .int z_199), (4, .int z_198), (3, .int v3_4), (2, .int v2_4), (0, .ref o), (1, .int x0)]) hx hb dX9_mostAlike_57 hl (k := 1) rfl ez_199.symm (by decide) rfl (fun ls hl => ?_)
                    refine lv_goto (tgt := 18) hx hb dX9_mostAlike_60 (by decide) ?_
                    exact ih18 z_199 z_198 ls (by first | omega | assumption) (by first | omega | assumption) (by omega) (lv_sub hl [0, 1, 2, 3, 4, 5] rfl)
                  · have ic_197 : (g_o_r5 (Int32.toNatClampNeg x0)).toInt = (g_o_r2 (Int32.toNatClampNeg x0)).toInt := k_eq c_197 rfl rfl
                    refine lv_iconst (v := 1) hx hb dX9_mostAlike_49 (by decide) ?_
                    refine lv_goto (tgt := 54) hx hb dX9_mostAlike_50 (by decide) ?_
                    refine lv_iadd hx hb dX9_mostAlike_54 ?_
                    refine lv_topi (fun z_200 ez_200 => ?_)
                    refine lv_istore (lv' := [(4, .int z_200), (5, .int v5_18), (3, .int v3_4), (2, .int v2_4), (0, .ref o), (1, .int x0)]) hx hb dX9_mostAlike_55 hl (by decide) rfl (fun ls hl => ?_)
                    obtain ⟨z_201, ez_201⟩ : ∃ y : Int32, y = v5_18 + Int32.ofInt 1 := ⟨_, rfl⟩
                    have iz_201 : z_201.toInt = v5_18.toInt + 1 := k_addI ez_201 rfl (by decide) (by omega)
                    refine lv_iinc (v := z_201) (lv' := [(5, .int z_201), (4, .int z_200), (3, .int v3_4), (2, .int v2_4), (0, .ref o), (1, .int x0)]) hx hb dX9_mostAlike_57 hl (k := 1) rfl ez_201.symm (by decide) rfl (fun ls hl => ?_)
                    refine lv_goto (tgt := 18) hx hb dX9_mostAlike_60 (by decide) ?_
                    exact ih18 z_201 z_200 ls (by first | omega | assumption) (by first | omega | assumption) (by omega) (lv_sub hl [0, 1, 2, 3, 4, 5] rfl)
                · refine k_tv (z := .ref o_r3) (by rw [k_clE (k := 3) sp_186, hw_o3]; rfl) ?_
                  refine lv_iload_n hx hb dX9_mostAlike_44 rfl (lv_at hl 5 rfl) ?_
                  refine va_iald hx hb hE.1 hP 5 0 rfl rfl (k_in (by omega)) dX9_mostAlike_45 ?_
                  refine k_top (z := (g_o_r3 (Int32.toNatClampNeg x0))) rfl ?_
                  refine lv_icmp_ne (tgt := 53) hx hb dX9_mostAlike_46 (by decide) (fun c_202 => ?_) (fun c_202 => ?_)
                  · have ic_202 : (g_o_r5 (Int32.toNatClampNeg x0)).toInt ≠ (g_o_r3 (Int32.toNatClampNeg x0)).toInt := k_ne c_202 rfl rfl
                    refine lv_iconst (v := 0) hx hb dX9_mostAlike_53 (by decide) ?_
                    refine lv_iadd hx hb dX9_mostAlike_54 ?_
                    refine lv_topi (fun z_203 ez_203 => ?_)
                    refine lv_istore (lv' := [(4, .int z_203), (5, .int v5_18), (3, .int v3_4), (2, .int v2_4), (0, .ref o), (1, .int x0)]) hx hb dX9_mostAlike_55 hl (by decide) rfl (fun ls hl => ?_)
                    obtain ⟨z_204, ez_204⟩ : ∃ y : Int32, y = v5_18 + Int32.ofInt 1 := ⟨_, rfl⟩
                    have iz_204 : z_204.toInt = v5_18.toInt + 1 := k_addI ez_204 rfl (by decide) (by omega)
                    refine lv_iinc (v := z_204) (lv' := [(5, .int z_204), (4, .int z_203), (3, .int v3_4), (2, .int v2_4), (0, .ref o), (1, .int x0)]) hx hb dX9_mostAlike_57 hl (k := 1) rfl ez_204.symm (by decide) rfl (fun ls hl => ?_)
                    refine lv_goto (tgt := 18) hx hb dX9_mostAlike_60 (by decide) ?_
                    exact ih18 z_204 z_203 ls (by first | omega | assumption) (by first | omega | assumption) (by omega) (lv_sub hl [0, 1, 2, 3, 4, 5] rfl)
                  · have ic_202 : (g_o_r5 (Int32.toNatClampNeg x0)).toInt = (g_o_r3 (Int32.toNatClampNeg x0)).toInt := k_eq c_202 rfl rfl
                    refine lv_iconst (v := 1) hx hb dX9_mostAlike_49 (by decide) ?_
                    refine lv_goto (tgt := 54) hx hb dX9_mostAlike_50 (by decide) ?_
                    refine lv_iadd hx hb dX9_mostAlike_54 ?_
                    refine lv_topi (fun z_205 ez_205 => ?_)
                    refine lv_istore (lv' := [(4, .int z_205), (5, .int v5_18), (3, .int v3_4), (2, .int v2_4), (0, .ref o), (1, .int x0)]) hx hb dX9_mostAlike_55 hl (by decide) rfl (fun ls hl => ?_)
                    obtain ⟨z_206, ez_206⟩ : ∃ y : Int32, y = v5_18 + Int32.ofInt 1 := ⟨_, rfl⟩
                    have iz_206 : z_206.toInt = v5_18.toInt + 1 := k_addI ez_206 rfl (by decide) (by omega)
                    refine lv_iinc (v := z_206) (lv' := [(5, .int z_206), (4, .int z_205), (3, .int v3_4), (2, .int v2_4), (0, .ref o), (1, .int x0)]) hx hb dX9_mostAlike_57 hl (k := 1) rfl ez_206.symm (by decide) rfl (fun ls hl => ?_)
                    refine lv_goto (tgt := 18) hx hb dX9_mostAlike_60 (by decide) ?_
                    exact ih18 z_206 z_205 ls (by first | omega | assumption) (by first | omega | assumption) (by omega) (lv_sub hl [0, 1, 2, 3, 4, 5] rfl)
                · refine k_tv (z := .ref o_r4) (by rw [k_clE (k := 4) sp_186, hw_o4]; rfl) ?_
                  refine lv_iload_n hx hb dX9_mostAlike_44 rfl (lv_at hl 5 rfl) ?_
                  refine va_iald hx hb hE.1 hP 6 0 rfl rfl (k_in (by omega)) dX9_mostAlike_45 ?_
                  refine k_top (z := (g_o_r4 (Int32.toNatClampNeg x0))) rfl ?_
                  refine lv_icmp_ne (tgt := 53) hx hb dX9_mostAlike_46 (by decide) (fun c_207 => ?_) (fun c_207 => ?_)
                  · have ic_207 : (g_o_r5 (Int32.toNatClampNeg x0)).toInt ≠ (g_o_r4 (Int32.toNatClampNeg x0)).toInt := k_ne c_207 rfl rfl
                    refine lv_iconst (v := 0) hx hb dX9_mostAlike_53 (by decide) ?_
                    refine lv_iadd hx hb dX9_mostAlike_54 ?_
                    refine lv_topi (fun z_208 ez_208 => ?_)
                    refine lv_istore (lv' := [(4, .int z_208), (5, .int v5_18), (3, .int v3_4), (2, .int v2_4), (0, .ref o), (1, .int x0)]) hx hb dX9_mostAlike_55 hl (by decide) rfl (fun ls hl => ?_)
                    obtain ⟨z_209, ez_209⟩ : ∃ y : Int32, y = v5_18 + Int32.ofInt 1 := ⟨_, rfl⟩
                    have iz_209 : z_209.toInt = v5_18.toInt + 1 := k_addI ez_209 rfl (by decide) (by omega)
                    refine lv_iinc (v := z_209) (lv' := [(5, .int z_209), (4, .int z_208), (3, .int v3_4), (2, .int v2_4), (0, .ref o), (1, .int x0)]) hx hb dX9_mostAlike_57 hl (k := 1) rfl ez_209.symm (by decide) rfl (fun ls hl => ?_)
                    refine lv_goto (tgt := 18) hx hb dX9_mostAlike_60 (by decide) ?_
                    exact ih18 z_209 z_208 ls (by first | omega | assumption) (by first | omega | assumption) (by omega) (lv_sub hl [0, 1, 2, 3, 4, 5] rfl)
                  · have ic_207 : (g_o_r5 (Int32.toNatClampNeg x0)).toInt = (g_o_r4 (Int32.toNatClampNeg x0)).toInt := k_eq c_207 rfl rfl
                    refine lv_iconst (v := 1) hx hb dX9_mostAlike_49 (by decide) ?_
                    refine lv_goto (tgt := 54) hx hb dX9_mostAlike_50 (by decide) ?_
                    refine lv_iadd hx hb dX9_mostAlike_54 ?_
                    refine lv_topi (fun z_210 ez_210 => ?_)
                    refine lv_istore (lv' := [(4, .int z_210), (5, .int v5_18), (3, .int v3_4), (2, .int v2_4), (0, .ref o), (1, .int x0)]) hx hb dX9_mostAlike_55 hl (by decide) rfl (fun ls hl => ?_)
                    obtain ⟨z_211, ez_211⟩ : ∃ y : Int32, y = v5_18 + Int32.ofInt 1 := ⟨_, rfl⟩
                    have iz_211 : z_211.toInt = v5_18.toInt + 1 := k_addI ez_211 rfl (by decide) (by omega)
                    refine lv_iinc (v := z_211) (lv' := [(5, .int z_211), (4, .int z_210), (3, .int v3_4), (2, .int v2_4), (0, .ref o), (1, .int x0)]) hx hb dX9_mostAlike_57 hl (k := 1) rfl ez_211.symm (by decide) rfl (fun ls hl => ?_)
                    refine lv_goto (tgt := 18) hx hb dX9_mostAlike_60 (by decide) ?_
                    exact ih18 z_211 z_210 ls (by first | omega | assumption) (by first | omega | assumption) (by omega) (lv_sub hl [0, 1, 2, 3, 4, 5] rfl)
                · refine k_tv (z := .ref o_r5) (by rw [k_clE (k := 5) sp_186, hw_o5]; rfl) ?_
                  refine lv_iload_n hx hb dX9_mostAlike_44 rfl (lv_at hl 5 rfl) ?_
                  refine va_iald hx hb hE.1 hP 7 0 rfl rfl (k_in (by omega)) dX9_mostAlike_45 ?_
                  refine k_top (z := (g_o_r5 (Int32.toNatClampNeg x0))) rfl ?_
                  refine lv_icmp_ne (tgt := 53) hx hb dX9_mostAlike_46 (by decide) (fun c_212 => ?_) (fun c_212 => ?_)
                  · have ic_212 : (g_o_r5 (Int32.toNatClampNeg x0)).toInt ≠ (g_o_r5 (Int32.toNatClampNeg x0)).toInt := k_ne c_212 rfl rfl
                    refine lv_iconst (v := 0) hx hb dX9_mostAlike_53 (by decide) ?_
                    refine lv_iadd hx hb dX9_mostAlike_54 ?_
                    refine lv_topi (fun z_213 ez_213 => ?_)
                    refine lv_istore (lv' := [(4, .int z_213), (5, .int v5_18), (3, .int v3_4), (2, .int v2_4), (0, .ref o), (1, .int x0)]) hx hb dX9_mostAlike_55 hl (by decide) rfl (fun ls hl => ?_)
                    obtain ⟨z_214, ez_214⟩ : ∃ y : Int32, y = v5_18 + Int32.ofInt 1 := ⟨_, rfl⟩
                    have iz_214 : z_214.toInt = v5_18.toInt + 1 := k_addI ez_214 rfl (by decide) (by omega)
                    refine lv_iinc (v := z_214) (lv' := [(5, .int z_214), (4, .int z_213), (3, .int v3_4), (2, .int v2_4), (0, .ref o), (1, .int x0)]) hx hb dX9_mostAlike_57 hl (k := 1) rfl ez_214.symm (by decide) rfl (fun ls hl => ?_)
                    refine lv_goto (tgt := 18) hx hb dX9_mostAlike_60 (by decide) ?_
                    exact ih18 z_214 z_213 ls (by first | omega | assumption) (by first | omega | assumption) (by omega) (lv_sub hl [0, 1, 2, 3, 4, 5] rfl)
                  · have ic_212 : (g_o_r5 (Int32.toNatClampNeg x0)).toInt = (g_o_r5 (Int32.toNatClampNeg x0)).toInt := k_eq c_212 rfl rfl
                    refine lv_iconst (v := 1) hx hb dX9_mostAlike_49 (by decide) ?_
                    refine lv_goto (tgt := 54) hx hb dX9_mostAlike_50 (by decide) ?_
                    refine lv_iadd hx hb dX9_mostAlike_54 ?_
                    refine lv_topi (fun z_215 ez_215 => ?_)
                    refine lv_istore (lv' := [(4, .int z_215), (5, .int v5_18), (3, .int v3_4), (2, .int v2_4), (0, .ref o), (1, .int x0)]) hx hb dX9_mostAlike_55 hl (by decide) rfl (fun ls hl => ?_)
                    obtain ⟨z_216, ez_216⟩ : ∃ y : Int32, y = v5_18 + Int32.ofInt 1 := ⟨_, rfl⟩
                    have iz_216 : z_216.toInt = v5_18.toInt + 1 := k_addI ez_216 rfl (by decide) (by omega)
                    refine lv_iinc (v := z_216) (lv' := [(5, .int z_216), (4, .int z_215), (3, .int v3_4), (2, .int v2_4), (0, .ref o), (1, .int x0)]) hx hb dX9_mostAlike_57 hl (k := 1) rfl ez_216.symm (by decide) rfl (fun ls hl => ?_)
                    refine lv_goto (tgt := 18) hx hb dX9_mostAlike_60 (by decide) ?_
                    exact ih18 z_216 z_215 ls (by first | omega | assumption) (by first | omega | assumption) (by omega) (lv_sub hl [0, 1, 2, 3, 4, 5] rfl)
                · refine k_tv (z := .ref o_r6) (by rw [k_clE (k := 6) sp_186, hw_o6]; rfl) ?_
                  refine lv_iload_n hx hb dX9_mostAlike_44 rfl (lv_at hl 5 rfl) ?_
                  refine va_iald hx hb hE.1 hP 8 0 rfl rfl (k_in (by omega)) dX9_mostAlike_45 ?_
                  refine k_top (z := (g_o_r6 (Int32.toNatClampNeg x0))) rfl ?_
                  refine lv_icmp_ne (tgt := 53) hx hb dX9_mostAlike_46 (by decide) (fun c_217 => ?_) (fun c_217 => ?_)
                  · have ic_217 : (g_o_r5 (Int32.toNatClampNeg x0)).toInt ≠ (g_o_r6 (Int32.toNatClampNeg x0)).toInt := k_ne c_217 rfl rfl
                    refine lv_iconst (v := 0) hx hb dX9_mostAlike_53 (by decide) ?_
                    refine lv_iadd hx hb dX9_mostAlike_54 ?_
                    refine lv_topi (fun z_218 ez_218 => ?_)
                    refine lv_istore (lv' := [(4, .int z_218), (5, .int v5_18), (3, .int v3_4), (2, .int v2_4), (0, .ref o), (1, .int x0)]) hx hb dX9_mostAlike_55 hl (by decide) rfl (fun ls hl => ?_)
                    obtain ⟨z_219, ez_219⟩ : ∃ y : Int32, y = v5_18 + Int32.ofInt 1 := ⟨_, rfl⟩
                    have iz_219 : z_219.toInt = v5_18.toInt + 1 := k_addI ez_219 rfl (by decide) (by omega)
                    refine lv_iinc (v := z_219) (lv' := [(5, .int z_219), (4, .int z_218), (3, .int v3_4), (2, .int v2_4), (0, .ref o), (1, .int x0)]) hx hb dX9_mostAlike_57 hl (k := 1) rfl ez_219.symm (by decide) rfl (fun ls hl => ?_)
                    refine lv_goto (tgt := 18) hx hb dX9_mostAlike_60 (by decide) ?_
                    exact ih18 z_219 z_218 ls (by first | omega | assumption) (by first | omega | assumption) (by omega) (lv_sub hl [0, 1, 2, 3, 4, 5] rfl)
                  · have ic_217 : (g_o_r5 (Int32.toNatClampNeg x0)).toInt = (g_o_r6 (Int32.toNatClampNeg x0)).toInt := k_eq c_217 rfl rfl
                    refine lv_iconst (v := 1) hx hb dX9_mostAlike_49 (by decide) ?_
                    refine lv_goto (tgt := 54) hx hb dX9_mostAlike_50 (by decide) ?_
                    refine lv_iadd hx hb dX9_mostAlike_54 ?_
                    refine lv_topi (fun z_220 ez_220 => ?_)
                    refine lv_istore (lv' := [(4, .int z_220), (5, .int v5_18), (3, .int v3_4), (2, .int v2_4), (0, .ref o), (1, .int x0)]) hx hb dX9_mostAlike_55 hl (by decide) rfl (fun ls hl => ?_)
                    obtain ⟨z_221, ez_221⟩ : ∃ y : Int32, y = v5_18 + Int32.ofInt 1 := ⟨_, rfl⟩
                    have iz_221 : z_221.toInt = v5_18.toInt + 1 := k_addI ez_221 rfl (by decide) (by omega)
                    refine lv_iinc (v := z_221) (lv' := [(5, .int z_221), (4, .int z_220), (3, .int v3_4), (2, .int v2_4), (0, .ref o), (1, .int x0)]) hx hb dX9_mostAlike_57 hl (k := 1) rfl ez_221.symm (by decide) rfl (fun ls hl => ?_)
                    refine lv_goto (tgt := 18) hx hb dX9_mostAlike_60 (by decide) ?_
                    exact ih18 z_221 z_220 ls (by first | omega | assumption) (by first | omega | assumption) (by omega) (lv_sub hl [0, 1, 2, 3, 4, 5] rfl)
              · refine k_tv (z := .ref o_r6) (by rw [k_clE (k := 6) sp_5, hw_o6]; rfl) ?_
                refine lv_iload_n hx hb dX9_mostAlike_35 rfl (lv_at hl 5 rfl) ?_
                refine va_iald hx hb hE.1 hP 8 0 rfl rfl (k_in (by omega)) dX9_mostAlike_36 ?_
                refine k_top (z := (g_o_r6 (Int32.toNatClampNeg x0))) rfl ?_
                refine lv_aload_n hx hb dX9_mostAlike_37 rfl (lv_at hl 4 rfl) ?_
                refine va_get (D := D) (ci := 9) (v := .ref o_cm) (C := RX9) (T := TX9) (N := 3) hx hb hG inG_X9 hown hE.1 hP 0 rfl rfl 2 (by decide) (hG _ q_f_X9_20) (fun _ h9 => h9) rfl dX9_mostAlike_38 ?_
                refine lv_iload hx hb dX9_mostAlike_41 (lv_at hl 0 rfl) ?_
                refine k_aldr hx hb hE.1 hP 1 6 rfl rfl (k_in (by omega)) dX9_mostAlike_43 ?_
                have sp_222 : v5_18.toInt = 0 ∨ v5_18.toInt = 1 ∨ v5_18.toInt = 2 ∨ v5_18.toInt = 3 ∨ v5_18.toInt = 4 ∨ v5_18.toInt = 5 ∨ v5_18.toInt = 6 := by omega
                rcases sp_222 with sp_222 | sp_222 | sp_222 | sp_222 | sp_222 | sp_222 | sp_222
                · refine k_tv (z := .ref o_r0) (by rw [k_clE (k := 0) sp_222, hw_o0]; rfl) ?_
                  refine lv_iload_n hx hb dX9_mostAlike_44 rfl (lv_at hl 5 rfl) ?_
                  refine va_iald hx hb hE.1 hP 2 0 rfl rfl (k_in (by omega)) dX9_mostAlike_45 ?_
                  refine k_top (z := (g_o_r0 (Int32.toNatClampNeg x0))) rfl ?_
                  refine lv_icmp_ne (tgt := 53) hx hb dX9_mostAlike_46 (by decide) (fun c_223 => ?_) (fun c_223 => ?_)
                  · have ic_223 : (g_o_r6 (Int32.toNatClampNeg x0)).toInt ≠ (g_o_r0 (Int32.toNatClampNeg x0)).toInt := k_ne c_223 rfl rfl
                    refine lv_iconst (v := 0) hx hb dX9_mostAlike_53 (by decide) ?_
                    refine lv_iadd hx hb dX9_mostAlike_54 ?_
                    refine lv_topi (fun z_224 ez_224 => ?_)
                    refine lv_istore (lv' := [(4, .int z_224), (5, .int v5_18), (3, .int v3_4), (2, .int v2_4), (0, .ref o), (1, .int x0)]) hx hb dX9_mostAlike_55 hl (by decide) rfl (fun ls hl => ?_)
                    obtain ⟨z_225, ez_225⟩ : ∃ y : Int32, y = v5_18 + Int32.ofInt 1 := ⟨_, rfl⟩
                    have iz_225 : z_225.toInt = v5_18.toInt + 1 := k_addI ez_225 rfl (by decide) (by omega)
                    refine lv_iinc (v := z_225) (lv' := [(5, .int z_225), (4, .int z_224), (3, .int v3_4), (2, .int v2_4), (0, .ref o), (1, .int x0)]) hx hb dX9_mostAlike_57 hl (k := 1) rfl ez_225.symm (by decide) rfl (fun ls hl => ?_)
                    refine lv_goto (tgt := 18) hx hb dX9_mostAlike_60 (by decide) ?_
                    exact ih18 z_225 z_224 ls (by first | omega | assumption) (by first | omega | assumption) (by omega) (lv_sub hl [0, 1, 2, 3, 4, 5] rfl)
                  · have ic_223 : (g_o_r6 (Int32.toNatClampNeg x0)).toInt = (g_o_r0 (Int32.toNatClampNeg x0)).toInt := k_eq c_223 rfl rfl
                    refine lv_iconst (v := 1) hx hb dX9_mostAlike_49 (by decide) ?_
                    refine lv_goto (tgt := 54) hx hb dX9_mostAlike_50 (by decide) ?_
                    refine lv_iadd hx hb dX9_mostAlike_54 ?_
                    refine lv_topi (fun z_226 ez_226 => ?_)
                    refine lv_istore (lv' := [(4, .int z_226), (5, .int v5_18), (3, .int v3_4), (2, .int v2_4), (0, .ref o), (1, .int x0)]) hx hb dX9_mostAlike_55 hl (by decide) rfl (fun ls hl => ?_)
                    obtain ⟨z_227, ez_227⟩ : ∃ y : Int32, y = v5_18 + Int32.ofInt 1 := ⟨_, rfl⟩
                    have iz_227 : z_227.toInt = v5_18.toInt + 1 := k_addI ez_227 rfl (by decide) (by omega)
                    refine lv_iinc (v := z_227) (lv' := [(5, .int z_227), (4, .int z_226), (3, .int v3_4), (2, .int v2_4), (0, .ref o), (1, .int x0)]) hx hb dX9_mostAlike_57 hl (k := 1) rfl ez_227.symm (by decide) rfl (fun ls hl => ?_)
                    refine lv_goto (tgt := 18) hx hb dX9_mostAlike_60 (by decide) ?_
                    exact ih18 z_227 z_226 ls (by first | omega | assumption) (by first | omega | assumption) (by omega) (lv_sub hl [0, 1, 2, 3, 4, 5] rfl)
                · refine k_tv (z := .ref o_r1) (by rw [k_clE (k := 1) sp_222, hw_o1]; rfl) ?_
                  refine lv_iload_n hx hb dX9_mostAlike_44 rfl (lv_at hl 5 rfl) ?_
                  refine va_iald hx hb hE.1 hP 3 0 rfl rfl (k_in (by omega)) dX9_mostAlike_45 ?_
                  refine k_top (z := (g_o_r1 (Int32.toNatClampNeg x0))) rfl ?_
                  refine lv_icmp_ne (tgt := 53) hx hb dX9_mostAlike_46 (by decide) (fun c_228 => ?_) (fun c_228 => ?_)
                  · have ic_228 : (g_o_r6 (Int32.toNatClampNeg x0)).toInt ≠ (g_o_r1 (Int32.toNatClampNeg x0)).toInt := k_ne c_228 rfl rfl
                    refine lv_iconst (v := 0) hx hb dX9_mostAlike_53 (by decide) ?_
                    refine lv_iadd hx hb dX9_mostAlike_54 ?_
                    refine lv_topi (fun z_229 ez_229 => ?_)
                    refine lv_istore (lv' := [(4, .int z_229), (5, .int v5_18), (3, .int v3_4), (2, .int v2_4), (0, .ref o), (1, .int x0)]) hx hb dX9_mostAlike_55 hl (by decide) rfl (fun ls hl => ?_)
                    obtain ⟨z_230, ez_230⟩ : ∃ y : Int32, y = v5_18 + Int32.ofInt 1 := ⟨_, rfl⟩
                    have iz_230 : z_230.toInt = v5_18.toInt + 1 := k_addI ez_230 rfl (by decide) (by omega)
                    refine lv_iinc (v := z_230) (lv' := [(5, .int z_230), (4, .int z_229), (3, .int v3_4), (2, .int v2_4), (0, .ref o), (1, .int x0)]) hx hb dX9_mostAlike_57 hl (k := 1) rfl ez_230.symm (by decide) rfl (fun ls hl => ?_)
                    refine lv_goto (tgt := 18) hx hb dX9_mostAlike_60 (by decide) ?_
                    exact ih18 z_230 z_229 ls (by first | omega | assumption) (by first | omega | assumption) (by omega) (lv_sub hl [0, 1, 2, 3, 4, 5] rfl)
                  · have ic_228 : (g_o_r6 (Int32.toNatClampNeg x0)).toInt = (g_o_r1 (Int32.toNatClampNeg x0)).toInt := k_eq c_228 rfl rfl
                    refine lv_iconst (v := 1) hx hb dX9_mostAlike_49 (by decide) ?_
                    refine lv_goto (tgt := 54) hx hb dX9_mostAlike_50 (by decide) ?_
                    refine lv_iadd hx hb dX9_mostAlike_54 ?_
                    refine lv_topi (fun z_231 ez_231 => ?_)
                    refine lv_istore (lv' := [(4, .int z_231), (5, .int v5_18), (3, .int v3_4), (2, .int v2_4), (0, .ref o), (1, .int x0)]) hx hb dX9_mostAlike_55 hl (by decide) rfl (fun ls hl => ?_)
                    obtain ⟨z_232, ez_232⟩ : ∃ y : Int32, y = v5_18 + Int32.ofInt 1 := ⟨_, rfl⟩
                    have iz_232 : z_232.toInt = v5_18.toInt + 1 := k_addI ez_232 rfl (by decide) (by omega)
                    refine lv_iinc (v := z_232) (lv' := [(5, .int z_232), (4, .int z_231), (3, .int v3_4), (2, .int v2_4), (0, .ref o), (1, .int x0)]) hx hb dX9_mostAlike_57 hl (k := 1) rfl ez_232.symm (by decide) rfl (fun ls hl => ?_)
                    refine lv_goto (tgt := 18) hx hb dX9_mostAlike_60 (by decide) ?_
                    exact ih18 z_232 z_231 ls (by first | omega | assumption) (by first | omega | assumption) (by omega) (lv_sub hl [0, 1, 2, 3, 4, 5] rfl)
                · refine k_tv (z := .ref o_r2) (by rw [k_clE (k := 2) sp_222, hw_o2]; rfl) ?_
                  refine lv_iload_n hx hb dX9_mostAlike_44 rfl (lv_at hl 5 rfl) ?_
                  refine va_iald hx hb hE.1 hP 4 0 rfl rfl (k_in (by omega)) dX9_mostAlike_45 ?_
                  refine k_top (z := (g_o_r2 (Int32.toNatClampNeg x0))) rfl ?_
                  refine lv_icmp_ne (tgt := 53) hx hb dX9_mostAlike_46 (by decide) (fun c_233 => ?_) (fun c_233 => ?_)
                  · have ic_233 : (g_o_r6 (Int32.toNatClampNeg x0)).toInt ≠ (g_o_r2 (Int32.toNatClampNeg x0)).toInt := k_ne c_233 rfl rfl
                    refine lv_iconst (v := 0) hx hb dX9_mostAlike_53 (by decide) ?_
                    refine lv_iadd hx hb dX9_mostAlike_54 ?_
                    refine lv_topi (fun z_234 ez_234 => ?_)
                    refine lv_istore (lv' := [(4, .int z_234), (5, .int v5_18), (3, .int v3_4), (2, .int v2_4), (0, .ref o), (1, .int x0)]) hx hb dX9_mostAlike_55 hl (by decide) rfl (fun ls hl => ?_)
                    obtain ⟨z_235, ez_235⟩ : ∃ y : Int32, y = v5_18 + Int32.ofInt 1 := ⟨_, rfl⟩
                    have iz_235 : z_235.toInt = v5_18.toInt + 1 := k_addI ez_235 rfl (by decide) (by omega)
                    refine lv_iinc (v := z_235) (lv' := [(5, .int z_235), (4, .int z_234), (3, .int v3_4), (2, .int v2_4), (0, .ref o), (1, .int x0)]) hx hb dX9_mostAlike_57 hl (k := 1) rfl ez_235.symm (by decide) rfl (fun ls hl => ?_)
                    refine lv_goto (tgt := 18) hx hb dX9_mostAlike_60 (by decide) ?_
                    exact ih18 z_235 z_234 ls (by first | omega | assumption) (by first | omega | assumption) (by omega) (lv_sub hl [0, 1, 2, 3, 4, 5] rfl)
                  · have ic_233 : (g_o_r6 (Int32.toNatClampNeg x0)).toInt = (g_o_r2 (Int32.toNatClampNeg x0)).toInt := k_eq c_233 rfl rfl
                    refine lv_iconst (v := 1) hx hb dX9_mostAlike_49 (by decide) ?_
                    refine lv_goto (tgt := 54) hx hb dX9_mostAlike_50 (by decide) ?_
                    refine lv_iadd hx hb dX9_mostAlike_54 ?_
                    refine lv_topi (fun z_236 ez_236 => ?_)
                    refine lv_istore (lv' := [(4, .int z_236), (5, .int v5_18), (3, .int v3_4), (2, .int v2_4), (0, .ref o), (1, .int x0)]) hx hb dX9_mostAlike_55 hl (by decide) rfl (fun ls hl => ?_)
                    obtain ⟨z_237, ez_237⟩ : ∃ y : Int32, y = v5_18 + Int32.ofInt 1 := ⟨_, rfl⟩
                    have iz_237 : z_237.toInt = v5_18.toInt + 1 := k_addI ez_237 rfl (by decide) (by omega)
                    refine lv_iinc (v := z_237) (lv' := [(5, .int z_237), (4, .int z_236), (3, .int v3_4), (2, .int v2_4), (0, .ref o), (1, .int x0)]) hx hb dX9_mostAlike_57 hl (k := 1) rfl ez_237.symm (by decide) rfl (fun ls hl => ?_)
                    refine lv_goto (tgt := 18) hx hb dX9_mostAlike_60 (by decide) ?_
                    exact ih18 z_237 z_236 ls (by first | omega | assumption) (by first | omega | assumption) (by omega) (lv_sub hl [0, 1, 2, 3, 4, 5] rfl)
                · refine k_tv (z := .ref o_r3) (by rw [k_clE (k := 3) sp_222, hw_o3]; rfl) ?_
                  refine lv_iload_n hx hb dX9_mostAlike_44 rfl (lv_at hl 5 rfl) ?_
                  refine va_iald hx hb hE.1 hP 5 0 rfl rfl (k_in (by omega)) dX9_mostAlike_45 ?_
                  refine k_top (z := (g_o_r3 (Int32.toNatClampNeg x0))) rfl ?_
                  refine lv_icmp_ne (tgt := 53) hx hb dX9_mostAlike_46 (by decide) (fun c_238 => ?_) (fun c_238 => ?_)
                  · have ic_238 : (g_o_r6 (Int32.toNatClampNeg x0)).toInt ≠ (g_o_r3 (Int32.toNatClampNeg x0)).toInt := k_ne c_238 rfl rfl
                    refine lv_iconst (v := 0) hx hb dX9_mostAlike_53 (by decide) ?_
                    refine lv_iadd hx hb dX9_mostAlike_54 ?_
                    refine lv_topi (fun z_239 ez_239 => ?_)
                    refine lv_istore (lv' := [(4, .int z_239), (5, .int v5_18), (3, .int v3_4), (2, .int v2_4), (0, .ref o), (1, .int x0)]) hx hb dX9_mostAlike_55 hl (by decide) rfl (fun ls hl => ?_)
                    obtain ⟨z_240, ez_240⟩ : ∃ y : Int32, y = v5_18 + Int32.ofInt 1 := ⟨_, rfl⟩
                    have iz_240 : z_240.toInt = v5_18.toInt + 1 := k_addI ez_240 rfl (by decide) (by omega)
                    refine lv_iinc (v := z_240) (lv' := [(5, .int z_240), (4, .int z_239), (3, .int v3_4), (2, .int v2_4), (0, .ref o), (1, .int x0)]) hx hb dX9_mostAlike_57 hl (k := 1) rfl ez_240.symm (by decide) rfl (fun ls hl => ?_)
                    refine lv_goto (tgt := 18) hx hb dX9_mostAlike_60 (by decide) ?_
                    exact ih18 z_240 z_239 ls (by first | omega | assumption) (by first | omega | assumption) (by omega) (lv_sub hl [0, 1, 2, 3, 4, 5] rfl)
                  · have ic_238 : (g_o_r6 (Int32.toNatClampNeg x0)).toInt = (g_o_r3 (Int32.toNatClampNeg x0)).toInt := k_eq c_238 rfl rfl
                    refine lv_iconst (v := 1) hx hb dX9_mostAlike_49 (by decide) ?_
                    refine lv_goto (tgt := 54) hx hb dX9_mostAlike_50 (by decide) ?_
                    refine lv_iadd hx hb dX9_mostAlike_54 ?_
                    refine lv_topi (fun z_241 ez_241 => ?_)
                    refine lv_istore (lv' := [(4, .int z_241), (5, .int v5_18), (3, .int v3_4), (2, .int v2_4), (0, .ref o), (1, .int x0)]) hx hb dX9_mostAlike_55 hl (by decide) rfl (fun ls hl => ?_)
                    obtain ⟨z_242, ez_242⟩ : ∃ y : Int32, y = v5_18 + Int32.ofInt 1 := ⟨_, rfl⟩
                    have iz_242 : z_242.toInt = v5_18.toInt + 1 := k_addI ez_242 rfl (by decide) (by omega)
                    refine lv_iinc (v := z_242) (lv' := [(5, .int z_242), (4, .int z_241), (3, .int v3_4), (2, .int v2_4), (0, .ref o), (1, .int x0)]) hx hb dX9_mostAlike_57 hl (k := 1) rfl ez_242.symm (by decide) rfl (fun ls hl => ?_)
                    refine lv_goto (tgt := 18) hx hb dX9_mostAlike_60 (by decide) ?_
                    exact ih18 z_242 z_241 ls (by first | omega | assumption) (by first | omega | assumption) (by omega) (lv_sub hl [0, 1, 2, 3, 4, 5] rfl)
                · refine k_tv (z := .ref o_r4) (by rw [k_clE (k := 4) sp_222, hw_o4]; rfl) ?_
                  refine lv_iload_n hx hb dX9_mostAlike_44 rfl (lv_at hl 5 rfl) ?_
                  refine va_iald hx hb hE.1 hP 6 0 rfl rfl (k_in (by omega)) dX9_mostAlike_45 ?_
                  refine k_top (z := (g_o_r4 (Int32.toNatClampNeg x0))) rfl ?_
                  refine lv_icmp_ne (tgt := 53) hx hb dX9_mostAlike_46 (by decide) (fun c_243 => ?_) (fun c_243 => ?_)
                  · have ic_243 : (g_o_r6 (Int32.toNatClampNeg x0)).toInt ≠ (g_o_r4 (Int32.toNatClampNeg x0)).toInt := k_ne c_243 rfl rfl
                    refine lv_iconst (v := 0) hx hb dX9_mostAlike_53 (by decide) ?_
                    refine lv_iadd hx hb dX9_mostAlike_54 ?_
                    refine lv_topi (fun z_244 ez_244 => ?_)
                    refine lv_istore (lv' := [(4, .int z_244), (5, .int v5_18), (3, .int v3_4), (2, .int v2_4), (0, .ref o), (1, .int x0)]) hx hb dX9_mostAlike_55 hl (by decide) rfl (fun ls hl => ?_)
                    obtain ⟨z_245, ez_245⟩ : ∃ y : Int32, y = v5_18 + Int32.ofInt 1 := ⟨_, rfl⟩
                    have iz_245 : z_245.toInt = v5_18.toInt + 1 := k_addI ez_245 rfl (by decide) (by omega)
                    refine lv_iinc (v := z_245) (lv' := [(5, .int z_245), (4, .int z_244), (3, .int v3_4), (2, .int v2_4), (0, .ref o), (1, .int x0)]) hx hb dX9_mostAlike_57 hl (k := 1) rfl ez_245.symm (by decide) rfl (fun ls hl => ?_)
                    refine lv_goto (tgt := 18) hx hb dX9_mostAlike_60 (by decide) ?_
                    exact ih18 z_245 z_244 ls (by first | omega | assumption) (by first | omega | assumption) (by omega) (lv_sub hl [0, 1, 2, 3, 4, 5] rfl)
                  · have ic_243 : (g_o_r6 (Int32.toNatClampNeg x0)).toInt = (g_o_r4 (Int32.toNatClampNeg x0)).toInt := k_eq c_243 rfl rfl
                    refine lv_iconst (v := 1) hx hb dX9_mostAlike_49 (by decide) ?_
                    refine lv_goto (tgt := 54) hx hb dX9_mostAlike_50 (by decide) ?_
                    refine lv_iadd hx hb dX9_mostAlike_54 ?_
                    refine lv_topi (fun z_246 ez_246 => ?_)
                    refine lv_istore (lv' := [(4, .int z_246), (5, .int v5_18), (3, .int v3_4), (2, .int v2_4), (0, .ref o), (1, .int x0)]) hx hb dX9_mostAlike_55 hl (by decide) rfl (fun ls hl => ?_)
                    obtain ⟨z_247, ez_247⟩ : ∃ y : Int32, y = v5_18 + Int32.ofInt 1 := ⟨_, rfl⟩
                    have iz_247 : z_247.toInt = v5_18.toInt + 1 := k_addI ez_247 rfl (by decide) (by omega)
                    refine lv_iinc (v := z_247) (lv' := [(5, .int z_247), (4, .int z_246), (3, .int v3_4), (2, .int v2_4), (0, .ref o), (1, .int x0)]) hx hb dX9_mostAlike_57 hl (k := 1) rfl ez_247.symm (by decide) rfl (fun ls hl => ?_)
                    refine lv_goto (tgt := 18) hx hb dX9_mostAlike_60 (by decide) ?_
                    exact ih18 z_247 z_246 ls (by first | omega | assumption) (by first | omega | assumption) (by omega) (lv_sub hl [0, 1, 2, 3, 4, 5] rfl)
                · refine k_tv (z := .ref o_r5) (by rw [k_clE (k := 5) sp_222, hw_o5]; rfl) ?_
                  refine lv_iload_n hx hb dX9_mostAlike_44 rfl (lv_at hl 5 rfl) ?_
                  refine va_iald hx hb hE.1 hP 7 0 rfl rfl (k_in (by omega)) dX9_mostAlike_45 ?_
                  refine k_top (z := (g_o_r5 (Int32.toNatClampNeg x0))) rfl ?_
                  refine lv_icmp_ne (tgt := 53) hx hb dX9_mostAlike_46 (by decide) (fun c_248 => ?_) (fun c_248 => ?_)
                  · have ic_248 : (g_o_r6 (Int32.toNatClampNeg x0)).toInt ≠ (g_o_r5 (Int32.toNatClampNeg x0)).toInt := k_ne c_248 rfl rfl
                    refine lv_iconst (v := 0) hx hb dX9_mostAlike_53 (by decide) ?_
                    refine lv_iadd hx hb dX9_mostAlike_54 ?_
                    refine lv_topi (fun z_249 ez_249 => ?_)
                    refine lv_istore (lv' := [(4, .int z_249), (5, .int v5_18), (3, .int v3_4), (2, .int v2_4), (0, .ref o), (1, .int x0)]) hx hb dX9_mostAlike_55 hl (by decide) rfl (fun ls hl => ?_)
                    obtain ⟨z_250, ez_250⟩ : ∃ y : Int32, y = v5_18 + Int32.ofInt 1 := ⟨_, rfl⟩
                    have iz_250 : z_250.toInt = v5_18.toInt + 1 := k_addI ez_250 rfl (by decide) (by omega)
                    refine lv_iinc (v := z_250) (lv' := [(5, .int z_250), (4, .int z_249), (3, .int v3_4), (2, .int v2_4), (0, .ref o), (1, .int x0)]) hx hb dX9_mostAlike_57 hl (k := 1) rfl ez_250.symm (by decide) rfl (fun ls hl => ?_)
                    refine lv_goto (tgt := 18) hx hb dX9_mostAlike_60 (by decide) ?_
                    exact ih18 z_250 z_249 ls (by first | omega | assumption) (by first | omega | assumption) (by omega) (lv_sub hl [0, 1, 2, 3, 4, 5] rfl)
                  · have ic_248 : (g_o_r6 (Int32.toNatClampNeg x0)).toInt = (g_o_r5 (Int32.toNatClampNeg x0)).toInt := k_eq c_248 rfl rfl
                    refine lv_iconst (v := 1) hx hb dX9_mostAlike_49 (by decide) ?_
                    refine lv_goto (tgt := 54) hx hb dX9_mostAlike_50 (by decide) ?_
                    refine lv_iadd hx hb dX9_mostAlike_54 ?_
                    refine lv_topi (fun z_251 ez_251 => ?_)
                    refine lv_istore (lv' := [(4, .int z_251), (5, .int v5_18), (3, .int v3_4), (2, .int v2_4), (0, .ref o), (1, .int x0)]) hx hb dX9_mostAlike_55 hl (by decide) rfl (fun ls hl => ?_)
                    obtain ⟨z_252, ez_252⟩ : ∃ y : Int32, y = v5_18 + Int32.ofInt 1 := ⟨_, rfl⟩
                    have iz_252 : z_252.toInt = v5_18.toInt + 1 := k_addI ez_252 rfl (by decide) (by omega)
                    refine lv_iinc (v := z_252) (lv' := [(5, .int z_252), (4, .int z_251), (3, .int v3_4), (2, .int v2_4), (0, .ref o), (1, .int x0)]) hx hb dX9_mostAlike_57 hl (k := 1) rfl ez_252.symm (by decide) rfl (fun ls hl => ?_)
                    refine lv_goto (tgt := 18) hx hb dX9_mostAlike_60 (by decide) ?_
                    exact ih18 z_252 z_251 ls (by first | omega | assumption) (by first | omega | assumption) (by omega) (lv_sub hl [0, 1, 2, 3, 4, 5] rfl)
                · refine k_tv (z := .ref o_r6) (by rw [k_clE (k := 6) sp_222, hw_o6]; rfl) ?_
                  refine lv_iload_n hx hb dX9_mostAlike_44 rfl (lv_at hl 5 rfl) ?_
                  refine va_iald hx hb hE.1 hP 8 0 rfl rfl (k_in (by omega)) dX9_mostAlike_45 ?_
                  refine k_top (z := (g_o_r6 (Int32.toNatClampNeg x0))) rfl ?_
                  refine lv_icmp_ne (tgt := 53) hx hb dX9_mostAlike_46 (by decide) (fun c_253 => ?_) (fun c_253 => ?_)
                  · have ic_253 : (g_o_r6 (Int32.toNatClampNeg x0)).toInt ≠ (g_o_r6 (Int32.toNatClampNeg x0)).toInt := k_ne c_253 rfl rfl
                    refine lv_iconst (v := 0) hx hb dX9_mostAlike_53 (by decide) ?_
                    refine lv_iadd hx hb dX9_mostAlike_54 ?_
                    refine lv_topi (fun z_254 ez_254 => ?_)
                    refine lv_istore (lv' := [(4, .int z_254), (5, .int v5_18), (3, .int v3_4), (2, .int v2_4), (0, .ref o), (1, .int x0)]) hx hb dX9_mostAlike_55 hl (by decide) rfl (fun ls hl => ?_)
                    obtain ⟨z_255, ez_255⟩ : ∃ y : Int32, y = v5_18 + Int32.ofInt 1 := ⟨_, rfl⟩
                    have iz_255 : z_255.toInt = v5_18.toInt + 1 := k_addI ez_255 rfl (by decide) (by omega)
                    refine lv_iinc (v := z_255) (lv' := [(5, .int z_255), (4, .int z_254), (3, .int v3_4), (2, .int v2_4), (0, .ref o), (1, .int x0)]) hx hb dX9_mostAlike_57 hl (k := 1) rfl ez_255.symm (by decide) rfl (fun ls hl => ?_)
                    refine lv_goto (tgt := 18) hx hb dX9_mostAlike_60 (by decide) ?_
                    exact ih18 z_255 z_254 ls (by first | omega | assumption) (by first | omega | assumption) (by omega) (lv_sub hl [0, 1, 2, 3, 4, 5] rfl)
                  · have ic_253 : (g_o_r6 (Int32.toNatClampNeg x0)).toInt = (g_o_r6 (Int32.toNatClampNeg x0)).toInt := k_eq c_253 rfl rfl
                    refine lv_iconst (v := 1) hx hb dX9_mostAlike_49 (by decide) ?_
                    refine lv_goto (tgt := 54) hx hb dX9_mostAlike_50 (by decide) ?_
                    refine lv_iadd hx hb dX9_mostAlike_54 ?_
                    refine lv_topi (fun z_256 ez_256 => ?_)
                    refine lv_istore (lv' := [(4, .int z_256), (5, .int v5_18), (3, .int v3_4), (2, .int v2_4), (0, .ref o), (1, .int x0)]) hx hb dX9_mostAlike_55 hl (by decide) rfl (fun ls hl => ?_)
                    obtain ⟨z_257, ez_257⟩ : ∃ y : Int32, y = v5_18 + Int32.ofInt 1 := ⟨_, rfl⟩
                    have iz_257 : z_257.toInt = v5_18.toInt + 1 := k_addI ez_257 rfl (by decide) (by omega)
                    refine lv_iinc (v := z_257) (lv' := [(5, .int z_257), (4, .int z_256), (3, .int v3_4), (2, .int v2_4), (0, .ref o), (1, .int x0)]) hx hb dX9_mostAlike_57 hl (k := 1) rfl ez_257.symm (by decide) rfl (fun ls hl => ?_)
                    refine lv_goto (tgt := 18) hx hb dX9_mostAlike_60 (by decide) ?_
                    exact ih18 z_257 z_256 ls (by first | omega | assumption) (by first | omega | assumption) (by omega) (lv_sub hl [0, 1, 2, 3, 4, 5] rfl)
        have lt_258 : (0 : Int32).toInt = 0 := by decide
        exact lp18 100000 0 0 ls (by first | omega | assumption) (by first | omega | assumption) (by omega) hl
  have lt_259 : (0 : Int32).toInt = 0 := by decide
  exact lp4 100000 0 0 ls (by first | omega | assumption) (by first | omega | assumption) (by omega) hl
