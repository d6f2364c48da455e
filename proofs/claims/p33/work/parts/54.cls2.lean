/-- a rule, or none, among what is frozen -/
def RIn (T : va_W) (cA : ClassId) (v : Value) : Prop := v = .null ∨ ∃ (r st : Nat) (ra : Int32) (rn : Nat) (rg : Nat → Int32) (ri rj : Nat), v = .ref r ∧ T[ri]? = some (r, .inr (7, [.ref st, .int ra])) ∧ T[rj]? = some (st, .inl (cA, rn, .inl rg)) ∧ rn ≤ 412 ∧ ∀ k : Nat, k < rn → 0 ≤ (rg k).toInt

set_option maxHeartbeats 4000000 in
set_option maxRecDepth 100000 in
theorem cc_joined (l : Launch) (D : va_G) (cy : Nat → ClassId) (x0 : Int32) (y0 : Int64) (y1 : Int64)  : KL l yX7_joined cX7_joined 5 (some .long) 0 0 D (kTY cy) [.int x0, .long y0, .long y1] [] (S := Unit) (fun r u => True) (fun _ => []) 0 0 := by
  refine KL.of (by decide) (Nat.le_of_ble_eq_true rfl) (fun p e s m below meth c ls A F hE hP hD hA hS hl => ?_)
  have F : kF p s m meth c cX7_joined 5 (some .long) _ RX7 := F
  obtain ⟨hx, hb, hr, hml, hown, hG, hlk⟩ := id F
  have hl : lv_has ls 5 [(0, .int x0), (1, .long y0), (3, .long y1)] := hl
  refine lv_iload_n hx hb dX7_joined_0 rfl (lv_at hl 0 rfl) ?_
  by_cases c_1 : x0.toInt = 5
  · refine lv_tableIn (off := 59) (tgt := 60) hx hb dX7_joined_1 (by omega) (by omega) (by rw [c_1]; rfl) (by decide) ?_
    refine lv_lload_n hx hb dX7_joined_60 rfl (lv_at hl 1 rfl) ?_
    refine lv_lload_n hx hb dX7_joined_61 rfl (lv_at hl 2 rfl) ?_
    refine lv_ladd hx hb dX7_joined_62 ?_
    refine lv_topl (fun z_2 ez_2 => ?_)
    exact KL.rt () F (hP.sub [] rfl) (hD.sub [] (by decide) rfl) hS trivial (Nat.le_of_ble_eq_true rfl) (Nat.le_of_ble_eq_true rfl) dX7_joined_63
  by_cases c_3 : x0.toInt = 6
  · refine lv_tableIn (off := 63) (tgt := 64) hx hb dX7_joined_1 (by omega) (by omega) (by rw [c_3]; rfl) (by decide) ?_
    refine lv_lload_n hx hb dX7_joined_64 rfl (lv_at hl 1 rfl) ?_
    refine lv_lload_n hx hb dX7_joined_65 rfl (lv_at hl 2 rfl) ?_
    refine lv_lsub hx hb dX7_joined_66 ?_
    refine lv_topl (fun z_4 ez_4 => ?_)
    exact KL.rt () F (hP.sub [] rfl) (hD.sub [] (by decide) rfl) hS trivial (Nat.le_of_ble_eq_true rfl) (Nat.le_of_ble_eq_true rfl) dX7_joined_67
  by_cases c_5 : x0.toInt = 7
  · refine lv_tableIn (off := 67) (tgt := 68) hx hb dX7_joined_1 (by omega) (by omega) (by rw [c_5]; rfl) (by decide) ?_
    refine lv_lload_n hx hb dX7_joined_68 rfl (lv_at hl 1 rfl) ?_
    refine lv_lload_n hx hb dX7_joined_69 rfl (lv_at hl 2 rfl) ?_
    refine lv_lmul hx hb dX7_joined_70 ?_
    refine lv_topl (fun z_6 ez_6 => ?_)
    exact KL.rt () F (hP.sub [] rfl) (hD.sub [] (by decide) rfl) hS trivial (Nat.le_of_ble_eq_true rfl) (Nat.le_of_ble_eq_true rfl) dX7_joined_71
  by_cases c_7 : x0.toInt = 8
  · refine lv_tableIn (off := 71) (tgt := 72) hx hb dX7_joined_1 (by omega) (by omega) (by rw [c_7]; rfl) (by decide) ?_
    refine lv_lload_n hx hb dX7_joined_72 rfl (lv_at hl 2 rfl) ?_
    refine lv_lconst (v := 0) hx hb dX7_joined_73 (by decide) ?_
    refine W.lcmp hx hb dX7_joined_74 ?_
    refine lv_topi (fun z_8 ez_8 => ?_)
    refine lv_if_ne (tgt := 82) hx hb dX7_joined_75 (by decide) (fun c_9 => ?_) (fun c_9 => ?_)
    · have ic_9 : z_8.toInt ≠ 0 := k_ne c_9 rfl (by decide)
      refine lv_lload_n hx hb dX7_joined_82 rfl (lv_at hl 1 rfl) ?_
      refine lv_lload_n hx hb dX7_joined_83 rfl (lv_at hl 2 rfl) ?_
      refine lv_ldiv hx hb dX7_joined_84 (fun q => ic_9 (by rw [ez_8, (lg_cmp_eq _ _).mpr q]; decide)) ?_
      refine lv_topl (fun z_10 ez_10 => ?_)
      exact KL.rt () F (hP.sub [] rfl) (hD.sub [] (by decide) rfl) hS trivial (Nat.le_of_ble_eq_true rfl) (Nat.le_of_ble_eq_true rfl) dX7_joined_85
    · have ic_9 : z_8.toInt = 0 := k_eq c_9 rfl (by decide)
      refine lv_lconst (v := 0) hx hb dX7_joined_78 (by decide) ?_
      refine lv_goto (tgt := 85) hx hb dX7_joined_79 (by decide) ?_
      exact KL.rt () F (hP.sub [] rfl) (hD.sub [] (by decide) rfl) hS trivial (Nat.le_of_ble_eq_true rfl) (Nat.le_of_ble_eq_true rfl) dX7_joined_85
  by_cases c_11 : x0.toInt = 9
  · refine lv_tableIn (off := 85) (tgt := 86) hx hb dX7_joined_1 (by omega) (by omega) (by rw [c_11]; rfl) (by decide) ?_
    refine lv_lload_n hx hb dX7_joined_86 rfl (lv_at hl 2 rfl) ?_
    refine lv_lconst (v := 0) hx hb dX7_joined_87 (by decide) ?_
    refine W.lcmp hx hb dX7_joined_88 ?_
    refine lv_topi (fun z_12 ez_12 => ?_)
    refine lv_if_ne (tgt := 96) hx hb dX7_joined_89 (by decide) (fun c_13 => ?_) (fun c_13 => ?_)
    · have ic_13 : z_12.toInt ≠ 0 := k_ne c_13 rfl (by decide)
      refine lv_lload_n hx hb dX7_joined_96 rfl (lv_at hl 1 rfl) ?_
      refine lv_lload_n hx hb dX7_joined_97 rfl (lv_at hl 2 rfl) ?_
      refine lv_lrem hx hb dX7_joined_98 (fun q => ic_13 (by rw [ez_12, (lg_cmp_eq _ _).mpr q]; decide)) ?_
      refine lv_topl (fun z_14 ez_14 => ?_)
      exact KL.rt () F (hP.sub [] rfl) (hD.sub [] (by decide) rfl) hS trivial (Nat.le_of_ble_eq_true rfl) (Nat.le_of_ble_eq_true rfl) dX7_joined_99
    · have ic_13 : z_12.toInt = 0 := k_eq c_13 rfl (by decide)
      refine lv_lconst (v := 0) hx hb dX7_joined_92 (by decide) ?_
      refine lv_goto (tgt := 99) hx hb dX7_joined_93 (by decide) ?_
      exact KL.rt () F (hP.sub [] rfl) (hD.sub [] (by decide) rfl) hS trivial (Nat.le_of_ble_eq_true rfl) (Nat.le_of_ble_eq_true rfl) dX7_joined_99
  by_cases c_15 : x0.toInt = 10
  · refine lv_tableIn (off := 99) (tgt := 100) hx hb dX7_joined_1 (by omega) (by omega) (by rw [c_15]; rfl) (by decide) ?_
    refine lv_lload_n hx hb dX7_joined_100 rfl (lv_at hl 1 rfl) ?_
    refine lv_lload_n hx hb dX7_joined_101 rfl (lv_at hl 2 rfl) ?_
    refine W.lcmp hx hb dX7_joined_102 ?_
    refine lv_topi (fun z_16 ez_16 => ?_)
    refine lv_if_ge (tgt := 110) hx hb dX7_joined_103 (by decide) (fun c_17 => ?_) (fun c_17 => ?_)
    · have ic_17 : 0 ≤ z_16.toInt := k_le c_17 (by decide) rfl
      refine lv_lconst (v := 0) hx hb dX7_joined_110 (by decide) ?_
      exact KL.rt () F (hP.sub [] rfl) (hD.sub [] (by decide) rfl) hS trivial (Nat.le_of_ble_eq_true rfl) (Nat.le_of_ble_eq_true rfl) dX7_joined_111
    · have ic_17 : z_16.toInt < 0 := k_nle c_17 (by decide) rfl
      refine lv_lconst (v := 1) hx hb dX7_joined_106 (by decide) ?_
      refine lv_goto (tgt := 111) hx hb dX7_joined_107 (by decide) ?_
      exact KL.rt () F (hP.sub [] rfl) (hD.sub [] (by decide) rfl) hS trivial (Nat.le_of_ble_eq_true rfl) (Nat.le_of_ble_eq_true rfl) dX7_joined_111
  by_cases c_18 : x0.toInt = 11
  · refine lv_tableIn (off := 111) (tgt := 112) hx hb dX7_joined_1 (by omega) (by omega) (by rw [c_18]; rfl) (by decide) ?_
    refine lv_lload_n hx hb dX7_joined_112 rfl (lv_at hl 1 rfl) ?_
    refine lv_lload_n hx hb dX7_joined_113 rfl (lv_at hl 2 rfl) ?_
    refine W.lcmp hx hb dX7_joined_114 ?_
    refine lv_topi (fun z_19 ez_19 => ?_)
    refine lv_if_gt (tgt := 122) hx hb dX7_joined_115 (by decide) (fun c_20 => ?_) (fun c_20 => ?_)
    · have ic_20 : 0 < z_19.toInt := k_lt c_20 (by decide) rfl
      refine lv_lconst (v := 0) hx hb dX7_joined_122 (by decide) ?_
      exact KL.rt () F (hP.sub [] rfl) (hD.sub [] (by decide) rfl) hS trivial (Nat.le_of_ble_eq_true rfl) (Nat.le_of_ble_eq_true rfl) dX7_joined_123
    · have ic_20 : z_19.toInt ≤ 0 := k_nlt c_20 (by decide) rfl
      refine lv_lconst (v := 1) hx hb dX7_joined_118 (by decide) ?_
      refine lv_goto (tgt := 123) hx hb dX7_joined_119 (by decide) ?_
      exact KL.rt () F (hP.sub [] rfl) (hD.sub [] (by decide) rfl) hS trivial (Nat.le_of_ble_eq_true rfl) (Nat.le_of_ble_eq_true rfl) dX7_joined_123
  by_cases c_21 : x0.toInt = 12
  · refine lv_tableIn (off := 123) (tgt := 124) hx hb dX7_joined_1 (by omega) (by omega) (by rw [c_21]; rfl) (by decide) ?_
    refine lv_lload_n hx hb dX7_joined_124 rfl (lv_at hl 1 rfl) ?_
    refine lv_lload_n hx hb dX7_joined_125 rfl (lv_at hl 2 rfl) ?_
    refine W.lcmp hx hb dX7_joined_126 ?_
    refine lv_topi (fun z_22 ez_22 => ?_)
    refine lv_if_ne (tgt := 134) hx hb dX7_joined_127 (by decide) (fun c_23 => ?_) (fun c_23 => ?_)
    · have ic_23 : z_22.toInt ≠ 0 := k_ne c_23 rfl (by decide)
      refine lv_lconst (v := 0) hx hb dX7_joined_134 (by decide) ?_
      exact KL.rt () F (hP.sub [] rfl) (hD.sub [] (by decide) rfl) hS trivial (Nat.le_of_ble_eq_true rfl) (Nat.le_of_ble_eq_true rfl) dX7_joined_135
    · have ic_23 : z_22.toInt = 0 := k_eq c_23 rfl (by decide)
      refine lv_lconst (v := 1) hx hb dX7_joined_130 (by decide) ?_
      refine lv_goto (tgt := 135) hx hb dX7_joined_131 (by decide) ?_
      exact KL.rt () F (hP.sub [] rfl) (hD.sub [] (by decide) rfl) hS trivial (Nat.le_of_ble_eq_true rfl) (Nat.le_of_ble_eq_true rfl) dX7_joined_135
  by_cases c_24 : x0.toInt = 13
  · refine lv_tableIn (off := 135) (tgt := 136) hx hb dX7_joined_1 (by omega) (by omega) (by rw [c_24]; rfl) (by decide) ?_
    refine lv_lload_n hx hb dX7_joined_136 rfl (lv_at hl 1 rfl) ?_
    refine lv_lload_n hx hb dX7_joined_137 rfl (lv_at hl 2 rfl) ?_
    refine W.lcmp hx hb dX7_joined_138 ?_
    refine lv_topi (fun z_25 ez_25 => ?_)
    refine lv_if_lt (tgt := 146) hx hb dX7_joined_139 (by decide) (fun c_26 => ?_) (fun c_26 => ?_)
    · have ic_26 : z_25.toInt < 0 := k_lt c_26 rfl (by decide)
      refine lv_lconst (v := 0) hx hb dX7_joined_146 (by decide) ?_
      exact KL.rt () F (hP.sub [] rfl) (hD.sub [] (by decide) rfl) hS trivial (Nat.le_of_ble_eq_true rfl) (Nat.le_of_ble_eq_true rfl) dX7_joined_147
    · have ic_26 : 0 ≤ z_25.toInt := k_nlt c_26 rfl (by decide)
      refine lv_lconst (v := 1) hx hb dX7_joined_142 (by decide) ?_
      refine lv_goto (tgt := 147) hx hb dX7_joined_143 (by decide) ?_
      exact KL.rt () F (hP.sub [] rfl) (hD.sub [] (by decide) rfl) hS trivial (Nat.le_of_ble_eq_true rfl) (Nat.le_of_ble_eq_true rfl) dX7_joined_147
  by_cases c_27 : x0.toInt = 14
  · refine lv_tableIn (off := 147) (tgt := 148) hx hb dX7_joined_1 (by omega) (by omega) (by rw [c_27]; rfl) (by decide) ?_
    refine lv_lload_n hx hb dX7_joined_148 rfl (lv_at hl 1 rfl) ?_
    refine lv_lload_n hx hb dX7_joined_149 rfl (lv_at hl 2 rfl) ?_
    refine W.lcmp hx hb dX7_joined_150 ?_
    refine lv_topi (fun z_28 ez_28 => ?_)
    refine lv_if_le (tgt := 158) hx hb dX7_joined_151 (by decide) (fun c_29 => ?_) (fun c_29 => ?_)
    · have ic_29 : z_28.toInt ≤ 0 := k_le c_29 rfl (by decide)
      refine lv_lconst (v := 0) hx hb dX7_joined_158 (by decide) ?_
      exact KL.rt () F (hP.sub [] rfl) (hD.sub [] (by decide) rfl) hS trivial (Nat.le_of_ble_eq_true rfl) (Nat.le_of_ble_eq_true rfl) dX7_joined_159
    · have ic_29 : 0 < z_28.toInt := k_nle c_29 rfl (by decide)
      refine lv_lconst (v := 1) hx hb dX7_joined_154 (by decide) ?_
      refine lv_goto (tgt := 159) hx hb dX7_joined_155 (by decide) ?_
      exact KL.rt () F (hP.sub [] rfl) (hD.sub [] (by decide) rfl) hS trivial (Nat.le_of_ble_eq_true rfl) (Nat.le_of_ble_eq_true rfl) dX7_joined_159
  by_cases c_30 : x0.toInt = 15
  · refine lv_tableIn (off := 159) (tgt := 160) hx hb dX7_joined_1 (by omega) (by omega) (by rw [c_30]; rfl) (by decide) ?_
    refine lv_lload_n hx hb dX7_joined_160 rfl (lv_at hl 1 rfl) ?_
    refine lv_lload_n hx hb dX7_joined_161 rfl (lv_at hl 2 rfl) ?_
    refine lv_land hx hb dX7_joined_162 ?_
    refine lv_topl (fun z_31 ez_31 => ?_)
    exact KL.rt () F (hP.sub [] rfl) (hD.sub [] (by decide) rfl) hS trivial (Nat.le_of_ble_eq_true rfl) (Nat.le_of_ble_eq_true rfl) dX7_joined_163
  refine lv_tableOut (tgt := 164) hx hb dX7_joined_1 (by omega) (by decide) ?_
  refine lv_lload_n hx hb dX7_joined_164 rfl (lv_at hl 1 rfl) ?_
  refine lv_lload_n hx hb dX7_joined_165 rfl (lv_at hl 2 rfl) ?_
  refine lv_lor hx hb dX7_joined_166 ?_
  refine lv_topl (fun z_32 ez_32 => ?_)
  exact KL.rt () F (hP.sub [] rfl) (hD.sub [] (by decide) rfl) hS trivial (Nat.le_of_ble_eq_true rfl) (Nat.le_of_ble_eq_true rfl) dX7_joined_167

set_option maxHeartbeats 4000000 in
set_option maxRecDepth 100000 in
theorem cc_worth (l : Launch) (D : va_G) (cy : Nat → ClassId) {Z : (Nat → Prop) → State → Heap → Prop} (hz : zOK Z) {TT : va_W} (zt : ∀ (A : Nat → Prop) (U : State) (H : Heap), Z A U H → va_P D vwCl TT H) (r : Nat) (wd : Nat) (sk : Nat) (g_wd : Nat → Int64) (g_sk : Nat → Int64) (st : Nat) (ra : Int32) (rn : Nat) (rg : Nat → Int32) (ri : Nat) (rj : Nat) (hTi : TT[ri]? = some (r, .inr (7, [.ref st, .int ra]))) (hTj : TT[rj]? = some (st, .inl (cy 0, rn, .inl rg))) (hn4 : rn ≤ 412) (hg : ∀ k : Nat, k < rn → 0 ≤ (rg k).toInt) : JL l yX7_worth cX7_worth 7 (some .long) 1 24 D (kTY cy) [.ref r, .ref wd, .ref sk] [(wd, .inl (cy 1, 13, .inr (.inl g_wd))), (sk, .inl (cy 1, 64, .inr (.inl g_sk)))] Z (S := (Nat → Int64)) (fun r u => True) (fun u => [(wd, .inl (cy 1, 13, .inr (.inl g_wd))), (sk, .inl (cy 1, 64, .inr (.inl u)))]) 0 0 := by
  refine JL.of (by decide) (Nat.le_of_ble_eq_true rfl) (fun p e s m below meth c ls A F hE hP hD hA hS hl hZ => ?_)
  have F : kF p s m meth c cX7_worth 7 (some .long) _ RX7 := F
  obtain ⟨hx, hb, hr, hml, hown, hG, hlk⟩ := id F
  have hl : lv_has ls 7 [(0, .ref r), (1, .ref wd), (2, .ref sk)] := hl
  refine lv_iconst (v := 0) hx hb dX7_worth_0 (by decide) ?_
  refine lv_istore_n (lv' := [(3, .int 0), (0, .ref r), (1, .ref wd), (2, .ref sk)]) hx hb dX7_worth_1 rfl hl (by decide) rfl (fun ls hl => ?_)
  refine lv_iconst (v := 0) hx hb dX7_worth_2 (by decide) ?_
  refine lv_istore (lv' := [(4, .int 0), (3, .int 0), (0, .ref r), (1, .ref wd), (2, .ref sk)]) hx hb dX7_worth_3 hl (by decide) rfl (fun ls hl => ?_)
  have lp5 : ∀ (fu : Nat) (v4_5 : Int32) (v3_5 : Int32) (gsk_5 : Nat → Int64) (H : Heap) (locs : List Loc) (ls : Array Slot), (0 ≤ v3_5.toInt) → (v3_5.toInt ≤ 64) → (0 ≤ v4_5.toInt) → (v4_5.toInt ≤ (rn : Int)) → (rn : Int) - v4_5.toInt < (fu : Int) → va_P D vwCl [(wd, .inl (cy 1, 13, .inr (.inl g_wd))), (sk, .inl (cy 1, 64, .inr (.inl gsk_5)))] H → va_D A [(wd, .inl (cy 1, 13, .inr (.inl g_wd))), (sk, .inl (cy 1, 64, .inr (.inl gsk_5)))] → va_S A s.heap H locs → lv_has ls 7 [(4, .int v4_5), (3, .int v3_5), (0, .ref r), (1, .ref wd), (2, .ref sk)] → W p l e (kRm 1 24 0 0) s m ([.ref r, .ref wd, .ref sk] : List Value).toArray below meth c H locs 0 0 (MQ below (va_Ql (S := (Nat → Int64)) (fun r u => True) (kBw D A (fun u => [(wd, .inl (cy 1, 13, .inr (.inl g_wd))), (sk, .inl (cy 1, 64, .inr (.inl u)))])) A) ([.ref r, .ref wd, .ref sk] : List Value).toArray s 0 0 A) (F0 m 5 ls []) := by
    intro fu5
    induction fu5 with
    | zero =>
      intro v4_5 v3_5 gsk_5 H locs ls j0_5 j1_5 j2_5 j3_5 hm5 hP hD hS hl
      exact absurd hm5 (by omega)
    | succ fu5 ih5 =>
      intro v4_5 v3_5 gsk_5 H locs ls j0_5 j1_5 j2_5 j3_5 hm5 hP hD hS hl
      refine lv_iload hx hb dX7_worth_5 (lv_at hl 0 rfl) ?_
      refine lv_aload_n hx hb dX7_worth_7 rfl (lv_at hl 2 rfl) ?_
      refine va_get (D := D) (ci := 7) (v := .ref st) (C := RX7) (T := TX7) (N := 2) hx hb hG inG_X7 hown hE.1 (zt _ _ _ (j_at hz hZ hS)) ri hTi rfl 0 (by decide) (hG _ q_f_X7_7) (fun _ h9 => h9) rfl dX7_worth_8 ?_
      refine va_alen (v := nI rn) hx hb hE.1 (zt _ _ _ (j_at hz hZ hS)) rj 0 hTj rfl rfl dX7_worth_11 ?_
      refine lv_topi (fun z_1 ez_1 => ?_)
      have iz_1 : z_1.toInt = (rn : Int) := by rw [ez_1]; exact nI_toInt (by omega)
      refine lv_icmp_ge (tgt := 191) hx hb dX7_worth_12 (by decide) (fun c_2 => ?_) (fun c_2 => ?_)
      · have ic_2 : z_1.toInt ≤ v4_5.toInt := k_le c_2 rfl rfl
        refine lv_lconst (v := 0) hx hb dX7_worth_191 (by decide) ?_
        exact KL.rt gsk_5 F (hP.sub [0, 1] rfl) (hD.sub [0, 1] (by decide) rfl) hS trivial (Nat.le_of_ble_eq_true rfl) (Nat.le_of_ble_eq_true rfl) dX7_worth_192
      · have ic_2 : v4_5.toInt < z_1.toInt := k_nle c_2 rfl rfl
        refine lv_aload_n hx hb dX7_worth_15 rfl (lv_at hl 2 rfl) ?_
        refine va_get (D := D) (ci := 7) (v := .ref st) (C := RX7) (T := TX7) (N := 2) hx hb hG inG_X7 hown hE.1 (zt _ _ _ (j_at hz hZ hS)) ri hTi rfl 0 (by decide) (hG _ q_f_X7_7) (fun _ h9 => h9) rfl dX7_worth_16 ?_
        refine lv_iload hx hb dX7_worth_19 (lv_at hl 0 rfl) ?_
        refine va_iald hx hb hE.1 (zt _ _ _ (j_at hz hZ hS)) rj 0 hTj rfl (k_in (by omega)) dX7_worth_21 ?_
        refine k_top (z := (rg (Int32.toNatClampNeg v4_5))) rfl ?_
        have sg_3 := hg (Int32.toNatClampNeg v4_5) (by rw [k_cl]; omega)
        refine lv_bipush (v := 32) hx hb dX7_worth_22 (by decide) ?_
        refine lv_irem hx hb dX7_worth_24 (by decide) ?_
        refine lv_topi (fun z_4 ez_4 => ?_)
        have iz_4 := k_remI (b := 32) ez_4 (by decide) (by omega)
        obtain ⟨iz_4a, iz_4b, iz_4c⟩ := iz_4
        refine lv_istore (lv' := [(5, .int z_4), (4, .int v4_5), (3, .int v3_5), (0, .ref r), (1, .ref wd), (2, .ref sk)]) hx hb dX7_worth_25 hl (by decide) rfl (fun ls hl => ?_)
        refine lv_aload_n hx hb dX7_worth_27 rfl (lv_at hl 3 rfl) ?_
        refine va_get (D := D) (ci := 7) (v := .ref st) (C := RX7) (T := TX7) (N := 2) hx hb hG inG_X7 hown hE.1 (zt _ _ _ (j_at hz hZ hS)) ri hTi rfl 0 (by decide) (hG _ q_f_X7_7) (fun _ h9 => h9) rfl dX7_worth_28 ?_
        refine lv_iload hx hb dX7_worth_31 (lv_at hl 1 rfl) ?_
        refine va_iald hx hb hE.1 (zt _ _ _ (j_at hz hZ hS)) rj 0 hTj rfl (k_in (by omega)) dX7_worth_33 ?_
        refine k_top (z := (rg (Int32.toNatClampNeg v4_5))) rfl ?_
        have sg_5 := hg (Int32.toNatClampNeg v4_5) (by rw [k_cl]; omega)
        refine lv_bipush (v := 32) hx hb dX7_worth_34 (by decide) ?_
        refine lv_idiv hx hb dX7_worth_36 (by decide) ?_
        refine lv_topi (fun z_6 ez_6 => ?_)
        have iz_6 : z_6.toInt = (rg (Int32.toNatClampNeg v4_5)).toInt / 32 := k_divI ez_6 rfl (by decide) (by omega) (by omega)
        refine lv_istore (lv' := [(6, .int z_6), (5, .int z_4), (4, .int v4_5), (3, .int v3_5), (0, .ref r), (1, .ref wd), (2, .ref sk)]) hx hb dX7_worth_37 hl (by decide) rfl (fun ls hl => ?_)
        refine lv_iload hx hb dX7_worth_39 (lv_at hl 1 rfl) ?_
        refine lv_iconst (v := 1) hx hb dX7_worth_41 (by decide) ?_
        refine lv_icmp_gt (tgt := 90) hx hb dX7_worth_42 (by decide) (fun c_7 => ?_) (fun c_7 => ?_)
        · have ic_7 : 1 < z_4.toInt := k_lt c_7 (by decide) rfl
          refine lv_iload_n hx hb dX7_worth_90 rfl (lv_at hl 3 rfl) ?_
          refine lv_iconst (v := 1) hx hb dX7_worth_91 (by decide) ?_
          refine lv_icmp_lt (tgt := 106) hx hb dX7_worth_92 (by decide) (fun c_8 => ?_) (fun c_8 => ?_)
          · have ic_8 : v3_5.toInt < 1 := k_lt c_8 rfl (by decide)
            refine lv_lconst (v := 0) hx hb dX7_worth_106 (by decide) ?_
            exact KL.rt gsk_5 F (hP.sub [0, 1] rfl) (hD.sub [0, 1] (by decide) rfl) hS trivial (Nat.le_of_ble_eq_true rfl) (Nat.le_of_ble_eq_true rfl) dX7_worth_107
          · have ic_8 : 1 ≤ v3_5.toInt := k_nlt c_8 rfl (by decide)
            refine lv_iload_n hx hb dX7_worth_95 rfl (lv_at hl 3 rfl) ?_
            refine lv_iconst (v := 2) hx hb dX7_worth_96 (by decide) ?_
            refine lv_icmp_ge (tgt := 108) hx hb dX7_worth_97 (by decide) (fun c_9 => ?_) (fun c_9 => ?_)
            · have ic_9 : 2 ≤ v3_5.toInt := k_le c_9 (by decide) rfl
              refine lv_iload hx hb dX7_worth_108 (lv_at hl 1 rfl) ?_
              refine lv_iconst (v := 2) hx hb dX7_worth_110 (by decide) ?_
              refine lv_icmp_ne (tgt := 129) hx hb dX7_worth_111 (by decide) (fun c_10 => ?_) (fun c_10 => ?_)
              · have ic_10 : z_4.toInt ≠ 2 := k_ne c_10 rfl (by decide)
                refine lv_iload hx hb dX7_worth_129 (lv_at hl 1 rfl) ?_
                refine lv_iconst (v := 3) hx hb dX7_worth_131 (by decide) ?_
                refine lv_icmp_ne (tgt := 141) hx hb dX7_worth_132 (by decide) (fun c_11 => ?_) (fun c_11 => ?_)
                · have ic_11 : z_4.toInt ≠ 3 := k_ne c_11 rfl (by decide)
                  refine lv_iload hx hb dX7_worth_141 (lv_at hl 1 rfl) ?_
                  refine lv_iconst (v := 4) hx hb dX7_worth_143 (by decide) ?_
                  refine lv_icmp_ne (tgt := 164) hx hb dX7_worth_144 (by decide) (fun c_12 => ?_) (fun c_12 => ?_)
                  · have ic_12 : z_4.toInt ≠ 4 := k_ne c_12 rfl (by decide)
                    obtain ⟨z_13, ez_13⟩ : ∃ y : Int32, y = v3_5 + Int32.ofInt (-1) := ⟨_, rfl⟩
                    have iz_13 : z_13.toInt = v3_5.toInt + (-1) := k_addI ez_13 rfl (by decide) (by omega)
                    refine lv_iinc (v := z_13) (lv' := [(3, .int z_13), (6, .int z_6), (5, .int z_4), (4, .int v4_5), (0, .ref r), (1, .ref wd), (2, .ref sk)]) hx hb dX7_worth_164 hl (k := 3) rfl ez_13.symm (by decide) rfl (fun ls hl => ?_)
                    refine lv_aload_n hx hb dX7_worth_167 rfl (lv_at hl 6 rfl) ?_
                    refine lv_iload_n hx hb dX7_worth_168 rfl (lv_at hl 0 rfl) ?_
                    refine lv_iconst (v := 1) hx hb dX7_worth_169 (by decide) ?_
                    refine lv_isub hx hb dX7_worth_170 ?_
                    refine lv_topi (fun z_14 ez_14 => ?_)
                    have iz_14 : z_14.toInt = z_13.toInt - 1 := k_subI ez_14 rfl (by decide) (by omega)
                    refine lv_iload hx hb dX7_worth_171 (lv_at hl 2 rfl) ?_
                    refine lv_aload_n hx hb dX7_worth_173 rfl (lv_at hl 6 rfl) ?_
                    refine lv_iload_n hx hb dX7_worth_174 rfl (lv_at hl 0 rfl) ?_
                    refine lv_iconst (v := 1) hx hb dX7_worth_175 (by decide) ?_
                    refine lv_isub hx hb dX7_worth_176 ?_
                    refine lv_topi (fun z_15 ez_15 => ?_)
                    have iz_15 : z_15.toInt = z_13.toInt - 1 := k_subI ez_15 rfl (by decide) (by omega)
                    refine va_lald hx hb hE.1 hP 1 1 rfl rfl (k_in (by omega)) dX7_worth_177 ?_
                    refine lv_topl (fun z_16 ez_16 => ?_)
                    refine lv_aload_n hx hb dX7_worth_178 rfl (lv_at hl 6 rfl) ?_
                    refine lv_iload_n hx hb dX7_worth_179 rfl (lv_at hl 0 rfl) ?_
                    refine va_lald hx hb hE.1 hP 1 1 rfl rfl (k_in (by omega)) dX7_worth_180 ?_
                    refine lv_topl (fun z_17 ez_17 => ?_)
                    refine kwSL (wr := [(wd, .inl (cy 1, 13, .inr (.inl g_wd))), (sk, .inl (cy 1, 64, .inr (.inl gsk_5)))]) (As := [.int z_4, .long z_16, .long z_17]) (rest := [.int z_14, .ref sk]) F hE hP hD hS hA hl.1 (cc_joined l D cy (x0 := z_4) (y0 := z_16) (y1 := z_17)) q_m_X7_17 ms_X7_joined ⟨(Nat.le_of_ble_eq_true rfl), (Nat.le_of_ble_eq_true rfl)⟩ [] [0, 1] (by decide) rfl rfl (by decide) (by decide) rfl rfl (Nat.le_of_ble_eq_true rfl) ⟨(Nat.le_of_ble_eq_true rfl), (Nat.le_of_ble_eq_true rfl)⟩ dX7_worth_181 (fun r_19 u_18 H locs eu_18 hP hD hS => ?_)
                    have hP : va_P D vwCl [(wd, .inl (cy 1, 13, .inr (.inl g_wd))), (sk, .inl (cy 1, 64, .inr (.inl gsk_5)))] H := hP
                    have hD : va_D A [(wd, .inl (cy 1, 13, .inr (.inl g_wd))), (sk, .inl (cy 1, 64, .inr (.inl gsk_5)))] := hD
                    refine va_last hx hb hE.1 hP hD hS 1 1 rfl rfl (k_in (by omega)) dX7_worth_184 (fun H locs hP hD hS => ?_)
                    generalize vp_updL gsk_5 (Int32.toNatClampNeg z_14) r_19 = fn_20 at hP hD
                    have hP : va_P D vwCl [(wd, .inl (cy 1, 13, .inr (.inl g_wd))), (sk, .inl (cy 1, 64, .inr (.inl fn_20)))] H := hP
                    have hD : va_D A [(wd, .inl (cy 1, 13, .inr (.inl g_wd))), (sk, .inl (cy 1, 64, .inr (.inl fn_20)))] := hD
                    obtain ⟨z_21, ez_21⟩ : ∃ y : Int32, y = v4_5 + Int32.ofInt 1 := ⟨_, rfl⟩
                    have iz_21 : z_21.toInt = v4_5.toInt + 1 := k_addI ez_21 rfl (by decide) (by omega)
                    refine lv_iinc (v := z_21) (lv' := [(4, .int z_21), (3, .int z_13), (6, .int z_6), (5, .int z_4), (0, .ref r), (1, .ref wd), (2, .ref sk)]) hx hb dX7_worth_185 hl (k := 3) rfl ez_21.symm (by decide) rfl (fun ls hl => ?_)
                    refine lv_goto (tgt := 5) hx hb dX7_worth_188 (by decide) ?_
                    exact ih5 z_21 z_13 fn_20 _ _ ls (by first | omega | assumption) (by first | omega | assumption) (by first | omega | assumption) (by first | omega | assumption) (by omega) hP hD hS (lv_sub hl [0, 1, 4, 5, 6] rfl)
                  · have ic_12 : z_4.toInt = 4 := k_eq c_12 rfl (by decide)
                    obtain ⟨z_22, ez_22⟩ : ∃ y : Int32, y = v3_5 + Int32.ofInt (-2) := ⟨_, rfl⟩
                    have iz_22 : z_22.toInt = v3_5.toInt + (-2) := k_addI ez_22 rfl (by decide) (by omega)
                    refine lv_iinc (v := z_22) (lv' := [(3, .int z_22), (6, .int z_6), (5, .int z_4), (4, .int v4_5), (0, .ref r), (1, .ref wd), (2, .ref sk)]) hx hb dX7_worth_147 hl (k := 3) rfl ez_22.symm (by decide) rfl (fun ls hl => ?_)
                    refine lv_aload_n hx hb dX7_worth_150 rfl (lv_at hl 6 rfl) ?_
                    refine lv_iload_n hx hb dX7_worth_151 rfl (lv_at hl 0 rfl) ?_
                    refine lv_iconst (v := 1) hx hb dX7_worth_152 (by decide) ?_
                    refine lv_iadd hx hb dX7_worth_153 ?_
                    refine lv_topi (fun z_23 ez_23 => ?_)
                    have iz_23 : z_23.toInt = z_22.toInt + 1 := k_addI ez_23 rfl (by decide) (by omega)
                    refine va_lald hx hb hE.1 hP 1 1 rfl rfl (k_in (by omega)) dX7_worth_154 ?_
                    refine lv_topl (fun z_24 ez_24 => ?_)
                    refine lv_lconst (v := 0) hx hb dX7_worth_155 (by decide) ?_
                    refine W.lcmp hx hb dX7_worth_156 ?_
                    refine lv_topi (fun z_25 ez_25 => ?_)
                    refine lv_if_eq (tgt := 185) hx hb dX7_worth_157 (by decide) (fun c_26 => ?_) (fun c_26 => ?_)
                    · have ic_26 : z_25.toInt = 0 := k_eq c_26 rfl (by decide)
                      obtain ⟨z_27, ez_27⟩ : ∃ y : Int32, y = v4_5 + Int32.ofInt 1 := ⟨_, rfl⟩
                      have iz_27 : z_27.toInt = v4_5.toInt + 1 := k_addI ez_27 rfl (by decide) (by omega)
                      refine lv_iinc (v := z_27) (lv' := [(4, .int z_27), (3, .int z_22), (6, .int z_6), (5, .int z_4), (0, .ref r), (1, .ref wd), (2, .ref sk)]) hx hb dX7_worth_185 hl (k := 3) rfl ez_27.symm (by decide) rfl (fun ls hl => ?_)
                      refine lv_goto (tgt := 5) hx hb dX7_worth_188 (by decide) ?_
                      exact ih5 z_27 z_22 gsk_5 _ _ ls (by first | omega | assumption) (by first | omega | assumption) (by first | omega | assumption) (by first | omega | assumption) (by omega) hP hD hS (lv_sub hl [0, 1, 4, 5, 6] rfl)
                    · have ic_26 : z_25.toInt ≠ 0 := k_ne c_26 rfl (by decide)
                      refine lv_aload_n hx hb dX7_worth_160 rfl (lv_at hl 6 rfl) ?_
                      refine lv_iload_n hx hb dX7_worth_161 rfl (lv_at hl 0 rfl) ?_
                      refine va_lald hx hb hE.1 hP 1 1 rfl rfl (k_in (by omega)) dX7_worth_162 ?_
                      refine lv_topl (fun z_28 ez_28 => ?_)
                      exact KL.rt gsk_5 F (hP.sub [0, 1] rfl) (hD.sub [0, 1] (by decide) rfl) hS trivial (Nat.le_of_ble_eq_true rfl) (Nat.le_of_ble_eq_true rfl) dX7_worth_163
                · have ic_11 : z_4.toInt = 3 := k_eq c_11 rfl (by decide)
                  refine lv_aload_n hx hb dX7_worth_135 rfl (lv_at hl 6 rfl) ?_
                  refine lv_iload_n hx hb dX7_worth_136 rfl (lv_at hl 3 rfl) ?_
                  refine lv_iconst (v := 1) hx hb dX7_worth_137 (by decide) ?_
                  refine lv_isub hx hb dX7_worth_138 ?_
                  refine lv_topi (fun z_29 ez_29 => ?_)
                  have iz_29 : z_29.toInt = v3_5.toInt - 1 := k_subI ez_29 rfl (by decide) (by omega)
                  refine va_lald hx hb hE.1 hP 1 1 rfl rfl (k_in (by omega)) dX7_worth_139 ?_
                  refine lv_topl (fun z_30 ez_30 => ?_)
                  exact KL.rt gsk_5 F (hP.sub [0, 1] rfl) (hD.sub [0, 1] (by decide) rfl) hS trivial (Nat.le_of_ble_eq_true rfl) (Nat.le_of_ble_eq_true rfl) dX7_worth_140
              · have ic_10 : z_4.toInt = 2 := k_eq c_10 rfl (by decide)
                refine lv_aload_n hx hb dX7_worth_114 rfl (lv_at hl 6 rfl) ?_
                refine lv_iload_n hx hb dX7_worth_115 rfl (lv_at hl 3 rfl) ?_
                refine lv_iconst (v := 1) hx hb dX7_worth_116 (by decide) ?_
                refine lv_isub hx hb dX7_worth_117 ?_
                refine lv_topi (fun z_31 ez_31 => ?_)
                have iz_31 : z_31.toInt = v3_5.toInt - 1 := k_subI ez_31 rfl (by decide) (by omega)
                refine lv_lconst (v := 1) hx hb dX7_worth_118 (by decide) ?_
                refine lv_aload_n hx hb dX7_worth_119 rfl (lv_at hl 6 rfl) ?_
                refine lv_iload_n hx hb dX7_worth_120 rfl (lv_at hl 3 rfl) ?_
                refine lv_iconst (v := 1) hx hb dX7_worth_121 (by decide) ?_
                refine lv_isub hx hb dX7_worth_122 ?_
                refine lv_topi (fun z_32 ez_32 => ?_)
                have iz_32 : z_32.toInt = v3_5.toInt - 1 := k_subI ez_32 rfl (by decide) (by omega)
                refine va_lald hx hb hE.1 hP 1 1 rfl rfl (k_in (by omega)) dX7_worth_123 ?_
                refine lv_topl (fun z_33 ez_33 => ?_)
                refine lv_lsub hx hb dX7_worth_124 ?_
                refine lv_topl (fun z_34 ez_34 => ?_)
                refine va_last hx hb hE.1 hP hD hS 1 1 rfl rfl (k_in (by omega)) dX7_worth_125 (fun H locs hP hD hS => ?_)
                generalize vp_updL gsk_5 (Int32.toNatClampNeg z_31) z_34 = fn_35 at hP hD
                have hP : va_P D vwCl [(wd, .inl (cy 1, 13, .inr (.inl g_wd))), (sk, .inl (cy 1, 64, .inr (.inl fn_35)))] H := hP
                have hD : va_D A [(wd, .inl (cy 1, 13, .inr (.inl g_wd))), (sk, .inl (cy 1, 64, .inr (.inl fn_35)))] := hD
                refine lv_goto (tgt := 185) hx hb dX7_worth_126 (by decide) ?_
                obtain ⟨z_36, ez_36⟩ : ∃ y : Int32, y = v4_5 + Int32.ofInt 1 := ⟨_, rfl⟩
                have iz_36 : z_36.toInt = v4_5.toInt + 1 := k_addI ez_36 rfl (by decide) (by omega)
                refine lv_iinc (v := z_36) (lv' := [(4, .int z_36), (6, .int z_6), (5, .int z_4), (3, .int v3_5), (0, .ref r), (1, .ref wd), (2, .ref sk)]) hx hb dX7_worth_185 hl (k := 2) rfl ez_36.symm (by decide) rfl (fun ls hl => ?_)
                refine lv_goto (tgt := 5) hx hb dX7_worth_188 (by decide) ?_
                exact ih5 z_36 v3_5 fn_35 _ _ ls (by first | omega | assumption) (by first | omega | assumption) (by first | omega | assumption) (by first | omega | assumption) (by omega) hP hD hS (lv_sub hl [0, 3, 4, 5, 6] rfl)
            · have ic_9 : v3_5.toInt < 2 := k_nle c_9 (by decide) rfl
              refine lv_iload hx hb dX7_worth_100 (lv_at hl 1 rfl) ?_
              refine lv_iconst (v := 4) hx hb dX7_worth_102 (by decide) ?_
              refine lv_icmp_lt (tgt := 108) hx hb dX7_worth_103 (by decide) (fun c_37 => ?_) (fun c_37 => ?_)
              · have ic_37 : z_4.toInt < 4 := k_lt c_37 rfl (by decide)
                refine lv_iload hx hb dX7_worth_108 (lv_at hl 1 rfl) ?_
                refine lv_iconst (v := 2) hx hb dX7_worth_110 (by decide) ?_
                refine lv_icmp_ne (tgt := 129) hx hb dX7_worth_111 (by decide) (fun c_38 => ?_) (fun c_38 => ?_)
                · have ic_38 : z_4.toInt ≠ 2 := k_ne c_38 rfl (by decide)
                  refine lv_iload hx hb dX7_worth_129 (lv_at hl 1 rfl) ?_
                  refine lv_iconst (v := 3) hx hb dX7_worth_131 (by decide) ?_
                  refine lv_icmp_ne (tgt := 141) hx hb dX7_worth_132 (by decide) (fun c_39 => ?_) (fun c_39 => ?_)
                  · have ic_39 : z_4.toInt ≠ 3 := k_ne c_39 rfl (by decide)
                    refine lv_iload hx hb dX7_worth_141 (lv_at hl 1 rfl) ?_
                    refine lv_iconst (v := 4) hx hb dX7_worth_143 (by decide) ?_
                    refine lv_icmp_ne (tgt := 164) hx hb dX7_worth_144 (by decide) (fun c_40 => ?_) (fun c_40 => ?_)
                    · have ic_40 : z_4.toInt ≠ 4 := k_ne c_40 rfl (by decide)
                      obtain ⟨z_41, ez_41⟩ : ∃ y : Int32, y = v3_5 + Int32.ofInt (-1) := ⟨_, rfl⟩
                      have iz_41 : z_41.toInt = v3_5.toInt + (-1) := k_addI ez_41 rfl (by decide) (by omega)
                      refine lv_iinc (v := z_41) (lv' := [(3, .int z_41), (6, .int z_6), (5, .int z_4), (4, .int v4_5), (0, .ref r), (1, .ref wd), (2, .ref sk)]) hx hb dX7_worth_164 hl (k := 3) rfl ez_41.symm (by decide) rfl (fun ls hl => ?_)
                      refine lv_aload_n hx hb dX7_worth_167 rfl (lv_at hl 6 rfl) ?_
                      refine lv_iload_n hx hb dX7_worth_168 rfl (lv_at hl 0 rfl) ?_
                      refine lv_iconst (v := 1) hx hb dX7_worth_169 (by decide) ?_
                      refine lv_isub hx hb dX7_worth_170 ?_
                      refine lv_topi (fun z_42 ez_42 => ?_)
                      have iz_42 : z_42.toInt = z_41.toInt - 1 := k_subI ez_42 rfl (by decide) (by omega)
                      refine lv_iload hx hb dX7_worth_171 (lv_at hl 2 rfl) ?_
                      refine lv_aload_n hx hb dX7_worth_173 rfl (lv_at hl 6 rfl) ?_
                      refine lv_iload_n hx hb dX7_worth_174 rfl (lv_at hl 0 rfl) ?_
                      refine lv_iconst (v := 1) hx hb dX7_worth_175 (by decide) ?_
                      refine lv_isub hx hb dX7_worth_176 ?_
                      refine lv_topi (fun z_43 ez_43 => ?_)
                      have iz_43 : z_43.toInt = z_41.toInt - 1 := k_subI ez_43 rfl (by decide) (by omega)
                      refine va_lald hx hb hE.1 hP 1 1 rfl rfl (k_in (by omega)) dX7_worth_177 ?_
                      refine lv_topl (fun z_44 ez_44 => ?_)
                      refine lv_aload_n hx hb dX7_worth_178 rfl (lv_at hl 6 rfl) ?_
                      refine lv_iload_n hx hb dX7_worth_179 rfl (lv_at hl 0 rfl) ?_
                      refine va_lald hx hb hE.1 hP 1 1 rfl rfl (k_in (by omega)) dX7_worth_180 ?_
                      refine lv_topl (fun z_45 ez_45 => ?_)
                      refine kwSL (wr := [(wd, .inl (cy 1, 13, .inr (.inl g_wd))), (sk, .inl (cy 1, 64, .inr (.inl gsk_5)))]) (As := [.int z_4, .long z_44, .long z_45]) (rest := [.int z_42, .ref sk]) F hE hP hD hS hA hl.1 (cc_joined l D cy (x0 := z_4) (y0 := z_44) (y1 := z_45)) q_m_X7_17 ms_X7_joined ⟨(Nat.le_of_ble_eq_true rfl), (Nat.le_of_ble_eq_true rfl)⟩ [] [0, 1] (by decide) rfl rfl (by decide) (by decide) rfl rfl (Nat.le_of_ble_eq_true rfl) ⟨(Nat.le_of_ble_eq_true rfl), (Nat.le_of_ble_eq_true rfl)⟩ dX7_worth_181 (fun r_47 u_46 H locs eu_46 hP hD hS => ?_)
                      have hP : va_P D vwCl [(wd, .inl (cy 1, 13, .inr (.inl g_wd))), (sk, .inl (cy 1, 64, .inr (.inl gsk_5)))] H := hP
                      have hD : va_D A [(wd, .inl (cy 1, 13, .inr (.inl g_wd))), (sk, .inl (cy 1, 64, .inr (.inl gsk_5)))] := hD
                      refine va_last hx hb hE.1 hP hD hS 1 1 rfl rfl (k_in (by omega)) dX7_worth_184 (fun H locs hP hD hS => ?_)
                      generalize vp_updL gsk_5 (Int32.toNatClampNeg z_42) r_47 = fn_48 at hP hD
                      have hP : va_P D vwCl [(wd, .inl (cy 1, 13, .inr (.inl g_wd))), (sk, .inl (cy 1, 64, .inr (.inl fn_48)))] H := hP
                      have hD : va_D A [(wd, .inl (cy 1, 13, .inr (.inl g_wd))), (sk, .inl (cy 1, 64, .inr (.inl fn_48)))] := hD
                      obtain ⟨z_49, ez_49⟩ : ∃ y : Int32, y = v4_5 + Int32.ofInt 1 := ⟨_, rfl⟩
                      have iz_49 : z_49.toInt = v4_5.toInt + 1 := k_addI ez_49 rfl (by decide) (by omega)
                      refine lv_iinc (v := z_49) (lv' := [(4, .int z_49), (3, .int z_41), (6, .int z_6), (5, .int z_4), (0, .ref r), (1, .ref wd), (2, .ref sk)]) hx hb dX7_worth_185 hl (k := 3) rfl ez_49.symm (by decide) rfl (fun ls hl => ?_)
                      refine lv_goto (tgt := 5) hx hb dX7_worth_188 (by decide) ?_
                      exact ih5 z_49 z_41 fn_48 _ _ ls (by first | omega | assumption) (by first | omega | assumption) (by first | omega | assumption) (by first | omega | assumption) (by omega) hP hD hS (lv_sub hl [0, 1, 4, 5, 6] rfl)
                    · have ic_40 : z_4.toInt = 4 := k_eq c_40 rfl (by decide)
                      obtain ⟨z_50, ez_50⟩ : ∃ y : Int32, y = v3_5 + Int32.ofInt (-2) := ⟨_, rfl⟩
                      have iz_50 : z_50.toInt = v3_5.toInt + (-2) := k_addI ez_50 rfl (by decide) (by omega)
                      refine lv_iinc (v := z_50) (lv' := [(3, .int z_50), (6, .int z_6), (5, .int z_4), (4, .int v4_5), (0, .ref r), (1, .ref wd), (2, .ref sk)]) hx hb dX7_worth_147 hl (k := 3) rfl ez_50.symm (by decide) rfl (fun ls hl => ?_)
                      refine lv_aload_n hx hb dX7_worth_150 rfl (lv_at hl 6 rfl) ?_
                      refine lv_iload_n hx hb dX7_worth_151 rfl (lv_at hl 0 rfl) ?_
                      refine lv_iconst (v := 1) hx hb dX7_worth_152 (by decide) ?_
                      refine lv_iadd hx hb dX7_worth_153 ?_
                      refine lv_topi (fun z_51 ez_51 => ?_)
                      have iz_51 : z_51.toInt = z_50.toInt + 1 := k_addI ez_51 rfl (by decide) (by omega)
                      refine va_lald hx hb hE.1 hP 1 1 rfl rfl (k_in (by omega)) dX7_worth_154 ?_
                      refine lv_topl (fun z_52 ez_52 => ?_)
                      refine lv_lconst (v := 0) hx hb dX7_worth_155 (by decide) ?_
                      refine W.lcmp hx hb dX7_worth_156 ?_
                      refine lv_topi (fun z_53 ez_53 => ?_)
                      refine lv_if_eq (tgt := 185) hx hb dX7_worth_157 (by decide) (fun c_54 => ?_) (fun c_54 => ?_)
                      · have ic_54 : z_53.toInt = 0 := k_eq c_54 rfl (by decide)
                        obtain ⟨z_55, ez_55⟩ : ∃ y : Int32, y = v4_5 + Int32.ofInt 1 := ⟨_, rfl⟩
                        have iz_55 : z_55.toInt = v4_5.toInt + 1 := k_addI ez_55 rfl (by decide) (by omega)
                        refine lv_iinc (v := z_55) (lv' := [(4, .int z_55), (3, .int z_50), (6, .int z_6), (5, .int z_4), (0, .ref r), (1, .ref wd), (2, .ref sk)]) hx hb dX7_worth_185 hl (k := 3) rfl ez_55.symm (by decide) rfl (fun ls hl => ?_)
                        refine lv_goto (tgt := 5) hx hb dX7_worth_188 (by decide) ?_
                        exact ih5 z_55 z_50 gsk_5 _ _ ls (by first | omega | assumption) (by first | omega | assumption) (by first | omega | assumption) (by first | omega | assumption) (by omega) hP hD hS (lv_sub hl [0, 1, 4, 5, 6] rfl)
                      · have ic_54 : z_53.toInt ≠ 0 := k_ne c_54 rfl (by decide)
                        refine lv_aload_n hx hb dX7_worth_160 rfl (lv_at hl 6 rfl) ?_
                        refine lv_iload_n hx hb dX7_worth_161 rfl (lv_at hl 0 rfl) ?_
                        refine va_lald hx hb hE.1 hP 1 1 rfl rfl (k_in (by omega)) dX7_worth_162 ?_
                        refine lv_topl (fun z_56 ez_56 => ?_)
                        exact KL.rt gsk_5 F (hP.sub [0, 1] rfl) (hD.sub [0, 1] (by decide) rfl) hS trivial (Nat.le_of_ble_eq_true rfl) (Nat.le_of_ble_eq_true rfl) dX7_worth_163
                  · have ic_39 : z_4.toInt = 3 := k_eq c_39 rfl (by decide)
                    refine lv_aload_n hx hb dX7_worth_135 rfl (lv_at hl 6 rfl) ?_
                    refine lv_iload_n hx hb dX7_worth_136 rfl (lv_at hl 3 rfl) ?_
                    refine lv_iconst (v := 1) hx hb dX7_worth_137 (by decide) ?_
                    refine lv_isub hx hb dX7_worth_138 ?_
                    refine lv_topi (fun z_57 ez_57 => ?_)
                    have iz_57 : z_57.toInt = v3_5.toInt - 1 := k_subI ez_57 rfl (by decide) (by omega)
                    refine va_lald hx hb hE.1 hP 1 1 rfl rfl (k_in (by omega)) dX7_worth_139 ?_
                    refine lv_topl (fun z_58 ez_58 => ?_)
                    exact KL.rt gsk_5 F (hP.sub [0, 1] rfl) (hD.sub [0, 1] (by decide) rfl) hS trivial (Nat.le_of_ble_eq_true rfl) (Nat.le_of_ble_eq_true rfl) dX7_worth_140
                · have ic_38 : z_4.toInt = 2 := k_eq c_38 rfl (by decide)
                  refine lv_aload_n hx hb dX7_worth_114 rfl (lv_at hl 6 rfl) ?_
                  refine lv_iload_n hx hb dX7_worth_115 rfl (lv_at hl 3 rfl) ?_
                  refine lv_iconst (v := 1) hx hb dX7_worth_116 (by decide) ?_
                  refine lv_isub hx hb dX7_worth_117 ?_
                  refine lv_topi (fun z_59 ez_59 => ?_)
                  have iz_59 : z_59.toInt = v3_5.toInt - 1 := k_subI ez_59 rfl (by decide) (by omega)
                  refine lv_lconst (v := 1) hx hb dX7_worth_118 (by decide) ?_
                  refine lv_aload_n hx hb dX7_worth_119 rfl (lv_at hl 6 rfl) ?_
                  refine lv_iload_n hx hb dX7_worth_120 rfl (lv_at hl 3 rfl) ?_
                  refine lv_iconst (v := 1) hx hb dX7_worth_121 (by decide) ?_
                  refine lv_isub hx hb dX7_worth_122 ?_
                  refine lv_topi (fun z_60 ez_60 => ?_)
                  have iz_60 : z_60.toInt = v3_5.toInt - 1 := k_subI ez_60 rfl (by decide) (by omega)
                  refine va_lald hx hb hE.1 hP 1 1 rfl rfl (k_in (by omega)) dX7_worth_123 ?_
                  refine lv_topl (fun z_61 ez_61 => ?_)
                  refine lv_lsub hx hb dX7_worth_124 ?_
                  refine lv_topl (fun z_62 ez_62 => ?_)
                  refine va_last hx hb hE.1 hP hD hS 1 1 rfl rfl (k_in (by omega)) dX7_worth_125 (fun H locs hP hD hS => ?_)
                  generalize vp_updL gsk_5 (Int32.toNatClampNeg z_59) z_62 = fn_63 at hP hD
                  have hP : va_P D vwCl [(wd, .inl (cy 1, 13, .inr (.inl g_wd))), (sk, .inl (cy 1, 64, .inr (.inl fn_63)))] H := hP
                  have hD : va_D A [(wd, .inl (cy 1, 13, .inr (.inl g_wd))), (sk, .inl (cy 1, 64, .inr (.inl fn_63)))] := hD
                  refine lv_goto (tgt := 185) hx hb dX7_worth_126 (by decide) ?_
                  obtain ⟨z_64, ez_64⟩ : ∃ y : Int32, y = v4_5 + Int32.ofInt 1 := ⟨_, rfl⟩
                  have iz_64 : z_64.toInt = v4_5.toInt + 1 := k_addI ez_64 rfl (by decide) (by omega)
                  refine lv_iinc (v := z_64) (lv' := [(4, .int z_64), (6, .int z_6), (5, .int z_4), (3, .int v3_5), (0, .ref r), (1, .ref wd), (2, .ref sk)]) hx hb dX7_worth_185 hl (k := 2) rfl ez_64.symm (by decide) rfl (fun ls hl => ?_)
                  refine lv_goto (tgt := 5) hx hb dX7_worth_188 (by decide) ?_
                  exact ih5 z_64 v3_5 fn_63 _ _ ls (by first | omega | assumption) (by first | omega | assumption) (by first | omega | assumption) (by first | omega | assumption) (by omega) hP hD hS (lv_sub hl [0, 3, 4, 5, 6] rfl)
              · have ic_37 : 4 ≤ z_4.toInt := k_nlt c_37 rfl (by decide)
                refine lv_lconst (v := 0) hx hb dX7_worth_106 (by decide) ?_
                exact KL.rt gsk_5 F (hP.sub [0, 1] rfl) (hD.sub [0, 1] (by decide) rfl) hS trivial (Nat.le_of_ble_eq_true rfl) (Nat.le_of_ble_eq_true rfl) dX7_worth_107
        · have ic_7 : z_4.toInt ≤ 1 := k_nlt c_7 (by decide) rfl
          refine lv_iload_n hx hb dX7_worth_45 rfl (lv_at hl 3 rfl) ?_
          refine lv_aload_n hx hb dX7_worth_46 rfl (lv_at hl 6 rfl) ?_
          refine va_alen (v := 64) hx hb hE.1 hP 1 1 rfl rfl rfl dX7_worth_47 ?_
          refine lv_icmp_ge (tgt := 64) hx hb dX7_worth_48 (by decide) (fun c_65 => ?_) (fun c_65 => ?_)
          · have ic_65 : 64 ≤ v3_5.toInt := k_le c_65 (by decide) rfl
            refine lv_lconst (v := 0) hx hb dX7_worth_64 (by decide) ?_
            exact KL.rt gsk_5 F (hP.sub [0, 1] rfl) (hD.sub [0, 1] (by decide) rfl) hS trivial (Nat.le_of_ble_eq_true rfl) (Nat.le_of_ble_eq_true rfl) dX7_worth_65
          · have ic_65 : v3_5.toInt < 64 := k_nle c_65 (by decide) rfl
            refine lv_iload hx hb dX7_worth_51 (lv_at hl 1 rfl) ?_
            refine lv_iconst (v := 1) hx hb dX7_worth_53 (by decide) ?_
            refine lv_icmp_ne (tgt := 66) hx hb dX7_worth_54 (by decide) (fun c_66 => ?_) (fun c_66 => ?_)
            · have ic_66 : z_4.toInt ≠ 1 := k_ne c_66 rfl (by decide)
              refine lv_aload_n hx hb dX7_worth_66 rfl (lv_at hl 6 rfl) ?_
              refine lv_iload_n hx hb dX7_worth_67 rfl (lv_at hl 3 rfl) ?_
              refine lv_iload hx hb dX7_worth_68 (lv_at hl 1 rfl) ?_
              refine lv_if_ne (tgt := 79) hx hb dX7_worth_70 (by decide) (fun c_67 => ?_) (fun c_67 => ?_)
              · have ic_67 : z_4.toInt ≠ 0 := k_ne c_67 rfl (by decide)
                refine lv_aload_n hx hb dX7_worth_79 rfl (lv_at hl 5 rfl) ?_
                refine lv_iload hx hb dX7_worth_80 (lv_at hl 0 rfl) ?_
                refine va_lald hx hb hE.1 hP 0 1 rfl rfl (k_in (by omega)) dX7_worth_82 ?_
                refine lv_topl (fun z_68 ez_68 => ?_)
                refine va_last hx hb hE.1 hP hD hS 1 1 rfl rfl (k_in (by omega)) dX7_worth_83 (fun H locs hP hD hS => ?_)
                generalize vp_updL gsk_5 (Int32.toNatClampNeg v3_5) z_68 = fn_69 at hP hD
                have hP : va_P D vwCl [(wd, .inl (cy 1, 13, .inr (.inl g_wd))), (sk, .inl (cy 1, 64, .inr (.inl fn_69)))] H := hP
                have hD : va_D A [(wd, .inl (cy 1, 13, .inr (.inl g_wd))), (sk, .inl (cy 1, 64, .inr (.inl fn_69)))] := hD
                obtain ⟨z_70, ez_70⟩ : ∃ y : Int32, y = v3_5 + Int32.ofInt 1 := ⟨_, rfl⟩
                have iz_70 : z_70.toInt = v3_5.toInt + 1 := k_addI ez_70 rfl (by decide) (by omega)
                refine lv_iinc (v := z_70) (lv' := [(3, .int z_70), (6, .int z_6), (5, .int z_4), (4, .int v4_5), (0, .ref r), (1, .ref wd), (2, .ref sk)]) hx hb dX7_worth_84 hl (k := 3) rfl ez_70.symm (by decide) rfl (fun ls hl => ?_)
                refine lv_goto (tgt := 185) hx hb dX7_worth_87 (by decide) ?_
                obtain ⟨z_71, ez_71⟩ : ∃ y : Int32, y = v4_5 + Int32.ofInt 1 := ⟨_, rfl⟩
                have iz_71 : z_71.toInt = v4_5.toInt + 1 := k_addI ez_71 rfl (by decide) (by omega)
                refine lv_iinc (v := z_71) (lv' := [(4, .int z_71), (3, .int z_70), (6, .int z_6), (5, .int z_4), (0, .ref r), (1, .ref wd), (2, .ref sk)]) hx hb dX7_worth_185 hl (k := 3) rfl ez_71.symm (by decide) rfl (fun ls hl => ?_)
                refine lv_goto (tgt := 5) hx hb dX7_worth_188 (by decide) ?_
                exact ih5 z_71 z_70 fn_69 _ _ ls (by first | omega | assumption) (by first | omega | assumption) (by first | omega | assumption) (by first | omega | assumption) (by omega) hP hD hS (lv_sub hl [0, 1, 4, 5, 6] rfl)
              · have ic_67 : z_4.toInt = 0 := k_eq c_67 rfl (by decide)
                refine lv_iload hx hb dX7_worth_73 (lv_at hl 0 rfl) ?_
                refine lv_i2l hx hb dX7_worth_75 rfl ?_
                refine lv_goto (tgt := 83) hx hb dX7_worth_76 (by decide) ?_
                refine va_last hx hb hE.1 hP hD hS 1 1 rfl rfl (k_in (by omega)) dX7_worth_83 (fun H locs hP hD hS => ?_)
                generalize vp_updL gsk_5 (Int32.toNatClampNeg v3_5) ((z_6).toInt64) = fn_72 at hP hD
                have hP : va_P D vwCl [(wd, .inl (cy 1, 13, .inr (.inl g_wd))), (sk, .inl (cy 1, 64, .inr (.inl fn_72)))] H := hP
                have hD : va_D A [(wd, .inl (cy 1, 13, .inr (.inl g_wd))), (sk, .inl (cy 1, 64, .inr (.inl fn_72)))] := hD
                obtain ⟨z_73, ez_73⟩ : ∃ y : Int32, y = v3_5 + Int32.ofInt 1 := ⟨_, rfl⟩
                have iz_73 : z_73.toInt = v3_5.toInt + 1 := k_addI ez_73 rfl (by decide) (by omega)
                refine lv_iinc (v := z_73) (lv' := [(3, .int z_73), (6, .int z_6), (5, .int z_4), (4, .int v4_5), (0, .ref r), (1, .ref wd), (2, .ref sk)]) hx hb dX7_worth_84 hl (k := 3) rfl ez_73.symm (by decide) rfl (fun ls hl => ?_)
                refine lv_goto (tgt := 185) hx hb dX7_worth_87 (by decide) ?_
                obtain ⟨z_74, ez_74⟩ : ∃ y : Int32, y = v4_5 + Int32.ofInt 1 := ⟨_, rfl⟩
                have iz_74 : z_74.toInt = v4_5.toInt + 1 := k_addI ez_74 rfl (by decide) (by omega)
                refine lv_iinc (v := z_74) (lv' := [(4, .int z_74), (3, .int z_73), (6, .int z_6), (5, .int z_4), (0, .ref r), (1, .ref wd), (2, .ref sk)]) hx hb dX7_worth_185 hl (k := 3) rfl ez_74.symm (by decide) rfl (fun ls hl => ?_)
                refine lv_goto (tgt := 5) hx hb dX7_worth_188 (by decide) ?_
                exact ih5 z_74 z_73 fn_72 _ _ ls (by first | omega | assumption) (by first | omega | assumption) (by first | omega | assumption) (by first | omega | assumption) (by omega) hP hD hS (lv_sub hl [0, 1, 4, 5, 6] rfl)
            · have ic_66 : z_4.toInt = 1 := k_eq c_66 rfl (by decide)
              refine lv_iload hx hb dX7_worth_57 (lv_at hl 0 rfl) ?_
              refine lv_aload_n hx hb dX7_worth_59 rfl (lv_at hl 5 rfl) ?_
              refine va_alen (v := 13) hx hb hE.1 hP 0 1 rfl rfl rfl dX7_worth_60 ?_
              refine lv_icmp_lt (tgt := 66) hx hb dX7_worth_61 (by decide) (fun c_75 => ?_) (fun c_75 => ?_)
              · have ic_75 : z_6.toInt < 13 := k_lt c_75 rfl (by decide)
                refine lv_aload_n hx hb dX7_worth_66 rfl (lv_at hl 6 rfl) ?_
                refine lv_iload_n hx hb dX7_worth_67 rfl (lv_at hl 3 rfl) ?_
                refine lv_iload hx hb dX7_worth_68 (lv_at hl 1 rfl) ?_
                refine lv_if_ne (tgt := 79) hx hb dX7_worth_70 (by decide) (fun c_76 => ?_) (fun c_76 => ?_)
                · have ic_76 : z_4.toInt ≠ 0 := k_ne c_76 rfl (by decide)
                  refine lv_aload_n hx hb dX7_worth_79 rfl (lv_at hl 5 rfl) ?_
                  refine lv_iload hx hb dX7_worth_80 (lv_at hl 0 rfl) ?_
                  refine va_lald hx hb hE.1 hP 0 1 rfl rfl (k_in (by omega)) dX7_worth_82 ?_
                  refine lv_topl (fun z_77 ez_77 => ?_)
                  refine va_last hx hb hE.1 hP hD hS 1 1 rfl rfl (k_in (by omega)) dX7_worth_83 (fun H locs hP hD hS => ?_)
                  generalize vp_updL gsk_5 (Int32.toNatClampNeg v3_5) z_77 = fn_78 at hP hD
                  have hP : va_P D vwCl [(wd, .inl (cy 1, 13, .inr (.inl g_wd))), (sk, .inl (cy 1, 64, .inr (.inl fn_78)))] H := hP
                  have hD : va_D A [(wd, .inl (cy 1, 13, .inr (.inl g_wd))), (sk, .inl (cy 1, 64, .inr (.inl fn_78)))] := hD
                  obtain ⟨z_79, ez_79⟩ : ∃ y : Int32, y = v3_5 + Int32.ofInt 1 := ⟨_, rfl⟩
                  have iz_79 : z_79.toInt = v3_5.toInt + 1 := k_addI ez_79 rfl (by decide) (by omega)
                  refine lv_iinc (v := z_79) (lv' := [(3, .int z_79), (6, .int z_6), (5, .int z_4), (4, .int v4_5), (0, .ref r), (1, .ref wd), (2, .ref sk)]) hx hb dX7_worth_84 hl (k := 3) rfl ez_79.symm (by decide) rfl (fun ls hl => ?_)
                  refine lv_goto (tgt := 185) hx hb dX7_worth_87 (by decide) ?_
                  obtain ⟨z_80, ez_80⟩ : ∃ y : Int32, y = v4_5 + Int32.ofInt 1 := ⟨_, rfl⟩
                  have iz_80 : z_80.toInt = v4_5.toInt + 1 := k_addI ez_80 rfl (by decide) (by omega)
                  refine lv_iinc (v := z_80) (lv' := [(4, .int z_80), (3, .int z_79), (6, .int z_6), (5, .int z_4), (0, .ref r), (1, .ref wd), (2, .ref sk)]) hx hb dX7_worth_185 hl (k := 3) rfl ez_80.symm (by decide) rfl (fun ls hl => ?_)
                  refine lv_goto (tgt := 5) hx hb dX7_worth_188 (by decide) ?_
                  exact ih5 z_80 z_79 fn_78 _ _ ls (by first | omega | assumption) (by first | omega | assumption) (by first | omega | assumption) (by first | omega | assumption) (by omega) hP hD hS (lv_sub hl [0, 1, 4, 5, 6] rfl)
                · have ic_76 : z_4.toInt = 0 := k_eq c_76 rfl (by decide)
                  refine lv_iload hx hb dX7_worth_73 (lv_at hl 0 rfl) ?_
                  refine lv_i2l hx hb dX7_worth_75 rfl ?_
                  refine lv_goto (tgt := 83) hx hb dX7_worth_76 (by decide) ?_
                  refine va_last hx hb hE.1 hP hD hS 1 1 rfl rfl (k_in (by omega)) dX7_worth_83 (fun H locs hP hD hS => ?_)
                  generalize vp_updL gsk_5 (Int32.toNatClampNeg v3_5) ((z_6).toInt64) = fn_81 at hP hD
                  have hP : va_P D vwCl [(wd, .inl (cy 1, 13, .inr (.inl g_wd))), (sk, .inl (cy 1, 64, .inr (.inl fn_81)))] H := hP
                  have hD : va_D A [(wd, .inl (cy 1, 13, .inr (.inl g_wd))), (sk, .inl (cy 1, 64, .inr (.inl fn_81)))] := hD
                  obtain ⟨z_82, ez_82⟩ : ∃ y : Int32, y = v3_5 + Int32.ofInt 1 := ⟨_, rfl⟩
                  have iz_82 : z_82.toInt = v3_5.toInt + 1 := k_addI ez_82 rfl (by decide) (by omega)
                  refine lv_iinc (v := z_82) (lv' := [(3, .int z_82), (6, .int z_6), (5, .int z_4), (4, .int v4_5), (0, .ref r), (1, .ref wd), (2, .ref sk)]) hx hb dX7_worth_84 hl (k := 3) rfl ez_82.symm (by decide) rfl (fun ls hl => ?_)
                  refine lv_goto (tgt := 185) hx hb dX7_worth_87 (by decide) ?_
                  obtain ⟨z_83, ez_83⟩ : ∃ y : Int32, y = v4_5 + Int32.ofInt 1 := ⟨_, rfl⟩
                  have iz_83 : z_83.toInt = v4_5.toInt + 1 := k_addI ez_83 rfl (by decide) (by omega)
                  refine lv_iinc (v := z_83) (lv' := [(4, .int z_83), (3, .int z_82), (6, .int z_6), (5, .int z_4), (0, .ref r), (1, .ref wd), (2, .ref sk)]) hx hb dX7_worth_185 hl (k := 3) rfl ez_83.symm (by decide) rfl (fun ls hl => ?_)
                  refine lv_goto (tgt := 5) hx hb dX7_worth_188 (by decide) ?_
                  exact ih5 z_83 z_82 fn_81 _ _ ls (by first | omega | assumption) (by first | omega | assumption) (by first | omega | assumption) (by first | omega | assumption) (by omega) hP hD hS (lv_sub hl [0, 1, 4, 5, 6] rfl)
              · have ic_75 : 13 ≤ z_6.toInt := k_nlt c_75 rfl (by decide)
                refine lv_lconst (v := 0) hx hb dX7_worth_64 (by decide) ?_
                exact KL.rt gsk_5 F (hP.sub [0, 1] rfl) (hD.sub [0, 1] (by decide) rfl) hS trivial (Nat.le_of_ble_eq_true rfl) (Nat.le_of_ble_eq_true rfl) dX7_worth_65
  have lt_84 : (0 : Int32).toInt = 0 := by decide
  exact lp5 100000 0 0 g_sk _ _ ls (by first | omega | assumption) (by first | omega | assumption) (by first | omega | assumption) (by first | omega | assumption) (by omega) hP hD hS hl
