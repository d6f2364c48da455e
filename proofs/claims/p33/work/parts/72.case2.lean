set_option maxHeartbeats 4000000 in
set_option maxRecDepth 100000 in
theorem lc_skilled {p : Program} {l : Launch} {e : Env} {s : State} {m : MethodId} {below : List Frame} {meth : Method} {c : Code} {b L : Nat} {xs : Nat → Int32} {D : va_G} {cy : Nat → ClassId} {A : Nat → Prop} {kt vt : Nat} (F : kF p s m meth c code 4 ret #[Value.ref b] RL) (hE : kE D (kTY cy) s) (hX : va_X b L xs s s.heap) (hbl : b < s.heap.size) (hAA : ∀ q : Nat, A q → s.heap.size ≤ q) (hA : ∀ q : Nat, s.heap.size ≤ q → A q) (hZ : ZT kt vt A s s.heap) (hL : L ≤ 3072) (i : Int32) (hi0 : 0 ≤ i.toInt) (hi6 : i.toInt + 6 ≤ (L : Int)) (o m0 : Nat) {cw rw T : va_W} {x : Int32} {ix md : Nat → Int32} (hcb : LCB cy T o x ix md cw) (hrb : LRB cy m0 x ix md rw) {H : Heap} {locs : List Loc} (hP : va_P D vwCl (cw ++ (rw ++ T)) H) (hD : va_D A (cw ++ (rw ++ T))) (hS : va_S A s.heap H locs) {ls : Array Slot} (hl : lv_has ls 4 [(3, .int i), (2, .ref m0), (1, .ref o), (0, .ref b)]) {C S : Nat} (hC : C + 2 ≤ 600000) (hSl : S + 414 ≤ 7302250) (kk : ∀ (cw rw T : va_W) (x : Int32) (ix md : Nat → Int32) (H : Heap) (locs : List Loc) (ls : Array Slot) (C1 S1 : Nat), C1 ≤ C + 2 → S1 ≤ S + 414 → LCB cy T o x ix md cw → LRB cy m0 x ix md rw → va_P D vwCl (cw ++ (rw ++ T)) H → va_D A (cw ++ (rw ++ T)) → va_S A s.heap H locs → lv_has ls 4 [(3, .int i), (2, .ref m0), (1, .ref o), (0, .ref b)] → W p l e room_1 s m #[Value.ref b] below meth c H locs C1 S1 (lw_Z below #[Value.ref b] s) (F0 m 1260 ls [])) : W p l e room_1 s m #[Value.ref b] below meth c H locs C S (lw_Z below #[Value.ref b] s) (F0 m 884 ls []) := by
  obtain ⟨hx, hb, hr, hml, hown, hG, hlk⟩ := id F
  have hbA : ¬ A b := fun h => absurd (hAA b h) (Nat.not_le.mpr hbl)
  have j1 : (i + 1).toInt = i.toInt + 1 := k_addI rfl rfl (by decide) (by omega)
  have j2 : (i + 2).toInt = i.toInt + 2 := k_addI rfl rfl (by decide) (by omega)
  have j3 : (i + 3).toInt = i.toInt + 3 := k_addI rfl rfl (by decide) (by omega)
  have j4 : (i + 4).toInt = i.toInt + 4 := k_addI rfl rfl (by decide) (by omega)
  have j5 : (i + 5).toInt = i.toInt + 5 := k_addI rfl rfl (by decide) (by omega)
  refine lv_aload_n hx hb dL_law_884 rfl (lv_at hl 2 rfl) ?_
  refine lv_aload_n hx hb dL_law_885 rfl (lv_at hl 3 rfl) ?_
  refine lv_iload_n hx hb dL_law_886 rfl (lv_at hl 0 rfl) ?_
  refine lv_iconst (v := 1) hx hb dL_law_887 (by decide) ?_
  refine lv_iadd hx hb dL_law_888 ?_
  refine va_sld hx hb hX hbl hbA hS (k_in (by omega)) dL_law_889 ?_
  obtain ⟨fsu, hfsu⟩ := hcb.recv
  refine lwI (w := cw) (wr := rw ++ T) (TT := T) (As := [.int (xs (Int32.toNatClampNeg (i + 1)))]) (rest := []) F hE hP hD hS hA hl.1 (List.Perm.refl _) (fun q hq => List.mem_append_right _ hq) hZ (bx_skilled l D cy T kt vt o x ix md cw (xs (Int32.toNatClampNeg (i + 1))) hcb) q_m_L_114 mv_X11_skilled ⟨(Nat.le_of_ble_eq_true rfl), (Nat.le_of_ble_eq_true rfl)⟩ hfsu rfl rfl rfl rfl (Nat.le_of_ble_eq_true rfl) ⟨by show C + 0 ≤ 600000; omega, by show S + 0 ≤ 7302250; omega⟩ dL_law_890 (fun r u H locs hu hP hD hS => ?_)
  refine lv_pop hx hb dL_law_893 rfl ?_
  refine lv_aload_n hx hb dL_law_894 rfl (lv_at hl 1 rfl) ?_
  refine lv_aload_n hx hb dL_law_895 rfl (lv_at hl 3 rfl) ?_
  refine lv_iload_n hx hb dL_law_896 rfl (lv_at hl 0 rfl) ?_
  refine lv_iconst (v := 1) hx hb dL_law_897 (by decide) ?_
  refine lv_iadd hx hb dL_law_898 ?_
  refine va_sld hx hb hX hbl hbA hS (k_in (by omega)) dL_law_899 ?_
  obtain ⟨fsu2, hfsu2⟩ := hrb.recv
  refine lwI (w := rw) (wr := u ++ T) (TT := T) (As := [.int (xs (Int32.toNatClampNeg (i + 1)))]) (rest := []) F hE hP hD hS hA hl.1 (perm_of (fun c f h h1 h0 => by simp only [h] <;> ac_rfl)) (fun q hq => List.mem_append_right _ hq) hZ (rx_skilled l D cy T kt vt m0 x ix md rw (xs (Int32.toNatClampNeg (i + 1))) hrb) q_m_L_117 mv_X12_skilled ⟨(Nat.le_of_ble_eq_true rfl), (Nat.le_of_ble_eq_true rfl)⟩ hfsu2 rfl rfl rfl rfl (Nat.le_of_ble_eq_true rfl) ⟨by show C + 0 + 0 ≤ 600000; omega, by show S + 0 + 0 ≤ 7302250; omega⟩ dL_law_900 (fun r2 u2 H locs hu2 hP hD hS => ?_)
  refine lv_pop hx hb dL_law_903 rfl ?_
  refine lv_goto (tgt := 1260) hx hb dL_law_904 (by decide) ?_
  exact kk u u2 T x ix md H locs ls _ _ (by omega) (by omega) hu hu2 (hP.perm (perm_of (fun c f h h1 h0 => by simp only [h] <;> ac_rfl))) (hD.perm (perm_of (fun c f h h1 h0 => by simp only [h] <;> ac_rfl))) hS hl

set_option maxHeartbeats 4000000 in
set_option maxRecDepth 100000 in
theorem lc_ails {p : Program} {l : Launch} {e : Env} {s : State} {m : MethodId} {below : List Frame} {meth : Method} {c : Code} {b L : Nat} {xs : Nat → Int32} {D : va_G} {cy : Nat → ClassId} {A : Nat → Prop} {kt vt : Nat} (F : kF p s m meth c code 4 ret #[Value.ref b] RL) (hE : kE D (kTY cy) s) (hX : va_X b L xs s s.heap) (hbl : b < s.heap.size) (hAA : ∀ q : Nat, A q → s.heap.size ≤ q) (hA : ∀ q : Nat, s.heap.size ≤ q → A q) (hZ : ZT kt vt A s s.heap) (hL : L ≤ 3072) (i : Int32) (hi0 : 0 ≤ i.toInt) (hi6 : i.toInt + 6 ≤ (L : Int)) (o m0 : Nat) {cw rw T : va_W} {x : Int32} {ix md : Nat → Int32} (hcb : LCB cy T o x ix md cw) (hrb : LRB cy m0 x ix md rw) {H : Heap} {locs : List Loc} (hP : va_P D vwCl (cw ++ (rw ++ T)) H) (hD : va_D A (cw ++ (rw ++ T))) (hS : va_S A s.heap H locs) {ls : Array Slot} (hl : lv_has ls 4 [(3, .int i), (2, .ref m0), (1, .ref o), (0, .ref b)]) {C S : Nat} (hC : C + 2 ≤ 600000) (hSl : S + 414 ≤ 7302250) (kk : ∀ (cw rw T : va_W) (x : Int32) (ix md : Nat → Int32) (H : Heap) (locs : List Loc) (ls : Array Slot) (C1 S1 : Nat), C1 ≤ C + 2 → S1 ≤ S + 414 → LCB cy T o x ix md cw → LRB cy m0 x ix md rw → va_P D vwCl (cw ++ (rw ++ T)) H → va_D A (cw ++ (rw ++ T)) → va_S A s.heap H locs → lv_has ls 4 [(3, .int i), (2, .ref m0), (1, .ref o), (0, .ref b)] → W p l e room_1 s m #[Value.ref b] below meth c H locs C1 S1 (lw_Z below #[Value.ref b] s) (F0 m 1260 ls [])) : W p l e room_1 s m #[Value.ref b] below meth c H locs C S (lw_Z below #[Value.ref b] s) (F0 m 907 ls []) := by
  obtain ⟨hx, hb, hr, hml, hown, hG, hlk⟩ := id F
  have hbA : ¬ A b := fun h => absurd (hAA b h) (Nat.not_le.mpr hbl)
  have j1 : (i + 1).toInt = i.toInt + 1 := k_addI rfl rfl (by decide) (by omega)
  have j2 : (i + 2).toInt = i.toInt + 2 := k_addI rfl rfl (by decide) (by omega)
  have j3 : (i + 3).toInt = i.toInt + 3 := k_addI rfl rfl (by decide) (by omega)
  have j4 : (i + 4).toInt = i.toInt + 4 := k_addI rfl rfl (by decide) (by omega)
  have j5 : (i + 5).toInt = i.toInt + 5 := k_addI rfl rfl (by decide) (by omega)
  refine lv_aload_n hx hb dL_law_907 rfl (lv_at hl 2 rfl) ?_
  refine lv_aload_n hx hb dL_law_908 rfl (lv_at hl 3 rfl) ?_
  refine lv_iload_n hx hb dL_law_909 rfl (lv_at hl 0 rfl) ?_
  refine lv_iconst (v := 1) hx hb dL_law_910 (by decide) ?_
  refine lv_iadd hx hb dL_law_911 ?_
  refine va_sld hx hb hX hbl hbA hS (k_in (by omega)) dL_law_912 ?_
  obtain ⟨fsu, hfsu⟩ := hcb.recv
  refine lwI (w := cw) (wr := rw ++ T) (TT := T) (As := [.int (xs (Int32.toNatClampNeg (i + 1)))]) (rest := []) F hE hP hD hS hA hl.1 (List.Perm.refl _) (fun q hq => List.mem_append_right _ hq) hZ (bx_ails l D cy T kt vt o x ix md cw (xs (Int32.toNatClampNeg (i + 1))) hcb) q_m_L_118 mv_X11_ails ⟨(Nat.le_of_ble_eq_true rfl), (Nat.le_of_ble_eq_true rfl)⟩ hfsu rfl rfl rfl rfl (Nat.le_of_ble_eq_true rfl) ⟨by show C + 0 ≤ 600000; omega, by show S + 0 ≤ 7302250; omega⟩ dL_law_913 (fun r u H locs hu hP hD hS => ?_)
  refine lv_pop hx hb dL_law_916 rfl ?_
  refine lv_aload_n hx hb dL_law_917 rfl (lv_at hl 1 rfl) ?_
  refine lv_aload_n hx hb dL_law_918 rfl (lv_at hl 3 rfl) ?_
  refine lv_iload_n hx hb dL_law_919 rfl (lv_at hl 0 rfl) ?_
  refine lv_iconst (v := 1) hx hb dL_law_920 (by decide) ?_
  refine lv_iadd hx hb dL_law_921 ?_
  refine va_sld hx hb hX hbl hbA hS (k_in (by omega)) dL_law_922 ?_
  obtain ⟨fsu2, hfsu2⟩ := hrb.recv
  refine lwI (w := rw) (wr := u ++ T) (TT := T) (As := [.int (xs (Int32.toNatClampNeg (i + 1)))]) (rest := []) F hE hP hD hS hA hl.1 (perm_of (fun c f h h1 h0 => by simp only [h] <;> ac_rfl)) (fun q hq => List.mem_append_right _ hq) hZ (rx_ails l D cy T kt vt m0 x ix md rw (xs (Int32.toNatClampNeg (i + 1))) hrb) q_m_L_121 mv_X12_ails ⟨(Nat.le_of_ble_eq_true rfl), (Nat.le_of_ble_eq_true rfl)⟩ hfsu2 rfl rfl rfl rfl (Nat.le_of_ble_eq_true rfl) ⟨by show C + 0 + 0 ≤ 600000; omega, by show S + 0 + 0 ≤ 7302250; omega⟩ dL_law_923 (fun r2 u2 H locs hu2 hP hD hS => ?_)
  refine lv_pop hx hb dL_law_926 rfl ?_
  refine lv_goto (tgt := 1260) hx hb dL_law_927 (by decide) ?_
  exact kk u u2 T x ix md H locs ls _ _ (by omega) (by omega) hu hu2 (hP.perm (perm_of (fun c f h h1 h0 => by simp only [h] <;> ac_rfl))) (hD.perm (perm_of (fun c f h h1 h0 => by simp only [h] <;> ac_rfl))) hS hl

set_option maxHeartbeats 4000000 in
set_option maxRecDepth 100000 in
theorem lc_rests {p : Program} {l : Launch} {e : Env} {s : State} {m : MethodId} {below : List Frame} {meth : Method} {c : Code} {b L : Nat} {xs : Nat → Int32} {D : va_G} {cy : Nat → ClassId} {A : Nat → Prop} {kt vt : Nat} (F : kF p s m meth c code 4 ret #[Value.ref b] RL) (hE : kE D (kTY cy) s) (hX : va_X b L xs s s.heap) (hbl : b < s.heap.size) (hAA : ∀ q : Nat, A q → s.heap.size ≤ q) (hA : ∀ q : Nat, s.heap.size ≤ q → A q) (hZ : ZT kt vt A s s.heap) (hL : L ≤ 3072) (i : Int32) (hi0 : 0 ≤ i.toInt) (hi6 : i.toInt + 6 ≤ (L : Int)) (o m0 : Nat) {cw rw T : va_W} {x : Int32} {ix md : Nat → Int32} (hcb : LCB cy T o x ix md cw) (hrb : LRB cy m0 x ix md rw) {H : Heap} {locs : List Loc} (hP : va_P D vwCl (cw ++ (rw ++ T)) H) (hD : va_D A (cw ++ (rw ++ T))) (hS : va_S A s.heap H locs) {ls : Array Slot} (hl : lv_has ls 4 [(3, .int i), (2, .ref m0), (1, .ref o), (0, .ref b)]) {C S : Nat} (hC : C + 2 ≤ 600000) (hSl : S + 414 ≤ 7302250) (kk : ∀ (cw rw T : va_W) (x : Int32) (ix md : Nat → Int32) (H : Heap) (locs : List Loc) (ls : Array Slot) (C1 S1 : Nat), C1 ≤ C + 2 → S1 ≤ S + 414 → LCB cy T o x ix md cw → LRB cy m0 x ix md rw → va_P D vwCl (cw ++ (rw ++ T)) H → va_D A (cw ++ (rw ++ T)) → va_S A s.heap H locs → lv_has ls 4 [(3, .int i), (2, .ref m0), (1, .ref o), (0, .ref b)] → W p l e room_1 s m #[Value.ref b] below meth c H locs C1 S1 (lw_Z below #[Value.ref b] s) (F0 m 1260 ls [])) : W p l e room_1 s m #[Value.ref b] below meth c H locs C S (lw_Z below #[Value.ref b] s) (F0 m 930 ls []) := by
  obtain ⟨hx, hb, hr, hml, hown, hG, hlk⟩ := id F
  have hbA : ¬ A b := fun h => absurd (hAA b h) (Nat.not_le.mpr hbl)
  have j1 : (i + 1).toInt = i.toInt + 1 := k_addI rfl rfl (by decide) (by omega)
  have j2 : (i + 2).toInt = i.toInt + 2 := k_addI rfl rfl (by decide) (by omega)
  have j3 : (i + 3).toInt = i.toInt + 3 := k_addI rfl rfl (by decide) (by omega)
  have j4 : (i + 4).toInt = i.toInt + 4 := k_addI rfl rfl (by decide) (by omega)
  have j5 : (i + 5).toInt = i.toInt + 5 := k_addI rfl rfl (by decide) (by omega)
  refine lv_aload_n hx hb dL_law_930 rfl (lv_at hl 2 rfl) ?_
  refine lv_aload_n hx hb dL_law_931 rfl (lv_at hl 3 rfl) ?_
  refine lv_iload_n hx hb dL_law_932 rfl (lv_at hl 0 rfl) ?_
  refine lv_iconst (v := 1) hx hb dL_law_933 (by decide) ?_
  refine lv_iadd hx hb dL_law_934 ?_
  refine va_sld hx hb hX hbl hbA hS (k_in (by omega)) dL_law_935 ?_
  refine lv_aload_n hx hb dL_law_936 rfl (lv_at hl 3 rfl) ?_
  refine lv_iload_n hx hb dL_law_937 rfl (lv_at hl 0 rfl) ?_
  refine lv_iconst (v := 2) hx hb dL_law_938 (by decide) ?_
  refine lv_iadd hx hb dL_law_939 ?_
  refine va_sld hx hb hX hbl hbA hS (k_in (by omega)) dL_law_940 ?_
  refine lv_aload_n hx hb dL_law_941 rfl (lv_at hl 3 rfl) ?_
  refine lv_iload_n hx hb dL_law_942 rfl (lv_at hl 0 rfl) ?_
  refine lv_iconst (v := 3) hx hb dL_law_943 (by decide) ?_
  refine lv_iadd hx hb dL_law_944 ?_
  refine va_sld hx hb hX hbl hbA hS (k_in (by omega)) dL_law_945 ?_
  refine lv_aload_n hx hb dL_law_946 rfl (lv_at hl 3 rfl) ?_
  refine lv_iload_n hx hb dL_law_947 rfl (lv_at hl 0 rfl) ?_
  refine lv_iconst (v := 4) hx hb dL_law_948 (by decide) ?_
  refine lv_iadd hx hb dL_law_949 ?_
  refine va_sld hx hb hX hbl hbA hS (k_in (by omega)) dL_law_950 ?_
  obtain ⟨fsu, hfsu⟩ := hcb.recv
  refine lwI (w := cw) (wr := rw ++ T) (TT := T) (As := [.int (xs (Int32.toNatClampNeg (i + 1))), .int (xs (Int32.toNatClampNeg (i + 2))), .int (xs (Int32.toNatClampNeg (i + 3))), .int (xs (Int32.toNatClampNeg (i + 4)))]) (rest := []) F hE hP hD hS hA hl.1 (List.Perm.refl _) (fun q hq => List.mem_append_right _ hq) hZ (bx_rests l D cy T kt vt o x ix md cw (xs (Int32.toNatClampNeg (i + 1))) (xs (Int32.toNatClampNeg (i + 2))) (xs (Int32.toNatClampNeg (i + 3))) (xs (Int32.toNatClampNeg (i + 4))) hcb) q_m_L_122 mv_X11_rests ⟨(Nat.le_of_ble_eq_true rfl), (Nat.le_of_ble_eq_true rfl)⟩ hfsu rfl rfl rfl rfl (Nat.le_of_ble_eq_true rfl) ⟨by show C + 0 ≤ 600000; omega, by show S + 0 ≤ 7302250; omega⟩ dL_law_951 (fun r u H locs hu hP hD hS => ?_)
  refine lv_pop hx hb dL_law_954 rfl ?_
  refine lv_aload_n hx hb dL_law_955 rfl (lv_at hl 1 rfl) ?_
  refine lv_aload_n hx hb dL_law_956 rfl (lv_at hl 3 rfl) ?_
  refine lv_iload_n hx hb dL_law_957 rfl (lv_at hl 0 rfl) ?_
  refine lv_iconst (v := 1) hx hb dL_law_958 (by decide) ?_
  refine lv_iadd hx hb dL_law_959 ?_
  refine va_sld hx hb hX hbl hbA hS (k_in (by omega)) dL_law_960 ?_
  refine lv_aload_n hx hb dL_law_961 rfl (lv_at hl 3 rfl) ?_
  refine lv_iload_n hx hb dL_law_962 rfl (lv_at hl 0 rfl) ?_
  refine lv_iconst (v := 2) hx hb dL_law_963 (by decide) ?_
  refine lv_iadd hx hb dL_law_964 ?_
  refine va_sld hx hb hX hbl hbA hS (k_in (by omega)) dL_law_965 ?_
  refine lv_aload_n hx hb dL_law_966 rfl (lv_at hl 3 rfl) ?_
  refine lv_iload_n hx hb dL_law_967 rfl (lv_at hl 0 rfl) ?_
  refine lv_iconst (v := 3) hx hb dL_law_968 (by decide) ?_
  refine lv_iadd hx hb dL_law_969 ?_
  refine va_sld hx hb hX hbl hbA hS (k_in (by omega)) dL_law_970 ?_
  refine lv_aload_n hx hb dL_law_971 rfl (lv_at hl 3 rfl) ?_
  refine lv_iload_n hx hb dL_law_972 rfl (lv_at hl 0 rfl) ?_
  refine lv_iconst (v := 4) hx hb dL_law_973 (by decide) ?_
  refine lv_iadd hx hb dL_law_974 ?_
  refine va_sld hx hb hX hbl hbA hS (k_in (by omega)) dL_law_975 ?_
  obtain ⟨fsu2, hfsu2⟩ := hrb.recv
  refine lwI (w := rw) (wr := u ++ T) (TT := T) (As := [.int (xs (Int32.toNatClampNeg (i + 1))), .int (xs (Int32.toNatClampNeg (i + 2))), .int (xs (Int32.toNatClampNeg (i + 3))), .int (xs (Int32.toNatClampNeg (i + 4)))]) (rest := []) F hE hP hD hS hA hl.1 (perm_of (fun c f h h1 h0 => by simp only [h] <;> ac_rfl)) (fun q hq => List.mem_append_right _ hq) hZ (rx_rests l D cy T kt vt m0 x ix md rw (xs (Int32.toNatClampNeg (i + 1))) (xs (Int32.toNatClampNeg (i + 2))) (xs (Int32.toNatClampNeg (i + 3))) (xs (Int32.toNatClampNeg (i + 4))) hrb) q_m_L_126 mv_X12_rests ⟨(Nat.le_of_ble_eq_true rfl), (Nat.le_of_ble_eq_true rfl)⟩ hfsu2 rfl rfl rfl rfl (Nat.le_of_ble_eq_true rfl) ⟨by show C + 0 + 0 ≤ 600000; omega, by show S + 0 + 0 ≤ 7302250; omega⟩ dL_law_976 (fun r2 u2 H locs hu2 hP hD hS => ?_)
  refine lv_pop hx hb dL_law_979 rfl ?_
  refine lv_goto (tgt := 1260) hx hb dL_law_980 (by decide) ?_
  exact kk u u2 T x ix md H locs ls _ _ (by omega) (by omega) hu hu2 (hP.perm (perm_of (fun c f h h1 h0 => by simp only [h] <;> ac_rfl))) (hD.perm (perm_of (fun c f h h1 h0 => by simp only [h] <;> ac_rfl))) hS hl

set_option maxHeartbeats 4000000 in
set_option maxRecDepth 100000 in
theorem lc_pence {p : Program} {l : Launch} {e : Env} {s : State} {m : MethodId} {below : List Frame} {meth : Method} {c : Code} {b L : Nat} {xs : Nat → Int32} {D : va_G} {cy : Nat → ClassId} {A : Nat → Prop} {kt vt : Nat} (F : kF p s m meth c code 4 ret #[Value.ref b] RL) (hE : kE D (kTY cy) s) (hX : va_X b L xs s s.heap) (hbl : b < s.heap.size) (hAA : ∀ q : Nat, A q → s.heap.size ≤ q) (hA : ∀ q : Nat, s.heap.size ≤ q → A q) (hZ : ZT kt vt A s s.heap) (hL : L ≤ 3072) (i : Int32) (hi0 : 0 ≤ i.toInt) (hi6 : i.toInt + 6 ≤ (L : Int)) (o m0 : Nat) {cw rw T : va_W} {x : Int32} {ix md : Nat → Int32} (hcb : LCB cy T o x ix md cw) (hrb : LRB cy m0 x ix md rw) {H : Heap} {locs : List Loc} (hP : va_P D vwCl (cw ++ (rw ++ T)) H) (hD : va_D A (cw ++ (rw ++ T))) (hS : va_S A s.heap H locs) {ls : Array Slot} (hl : lv_has ls 4 [(3, .int i), (2, .ref m0), (1, .ref o), (0, .ref b)]) {C S : Nat} (hC : C + 2 ≤ 600000) (hSl : S + 414 ≤ 7302250) (kk : ∀ (cw rw T : va_W) (x : Int32) (ix md : Nat → Int32) (H : Heap) (locs : List Loc) (ls : Array Slot) (C1 S1 : Nat), C1 ≤ C + 2 → S1 ≤ S + 414 → LCB cy T o x ix md cw → LRB cy m0 x ix md rw → va_P D vwCl (cw ++ (rw ++ T)) H → va_D A (cw ++ (rw ++ T)) → va_S A s.heap H locs → lv_has ls 4 [(3, .int i), (2, .ref m0), (1, .ref o), (0, .ref b)] → W p l e room_1 s m #[Value.ref b] below meth c H locs C1 S1 (lw_Z below #[Value.ref b] s) (F0 m 1260 ls [])) : W p l e room_1 s m #[Value.ref b] below meth c H locs C S (lw_Z below #[Value.ref b] s) (F0 m 983 ls []) := by
  obtain ⟨hx, hb, hr, hml, hown, hG, hlk⟩ := id F
  have hbA : ¬ A b := fun h => absurd (hAA b h) (Nat.not_le.mpr hbl)
  have j1 : (i + 1).toInt = i.toInt + 1 := k_addI rfl rfl (by decide) (by omega)
  have j2 : (i + 2).toInt = i.toInt + 2 := k_addI rfl rfl (by decide) (by omega)
  have j3 : (i + 3).toInt = i.toInt + 3 := k_addI rfl rfl (by decide) (by omega)
  have j4 : (i + 4).toInt = i.toInt + 4 := k_addI rfl rfl (by decide) (by omega)
  have j5 : (i + 5).toInt = i.toInt + 5 := k_addI rfl rfl (by decide) (by omega)
  refine lv_aload_n hx hb dL_law_983 rfl (lv_at hl 2 rfl) ?_
  refine lv_aload_n hx hb dL_law_984 rfl (lv_at hl 3 rfl) ?_
  refine lv_iload_n hx hb dL_law_985 rfl (lv_at hl 0 rfl) ?_
  refine lv_iconst (v := 1) hx hb dL_law_986 (by decide) ?_
  refine lv_iadd hx hb dL_law_987 ?_
  refine va_sld hx hb hX hbl hbA hS (k_in (by omega)) dL_law_988 ?_
  refine lv_aload_n hx hb dL_law_989 rfl (lv_at hl 3 rfl) ?_
  refine lv_iload_n hx hb dL_law_990 rfl (lv_at hl 0 rfl) ?_
  refine lv_iconst (v := 2) hx hb dL_law_991 (by decide) ?_
  refine lv_iadd hx hb dL_law_992 ?_
  refine va_sld hx hb hX hbl hbA hS (k_in (by omega)) dL_law_993 ?_
  obtain ⟨fsu, hfsu⟩ := hcb.recv
  refine lwI (w := cw) (wr := rw ++ T) (TT := T) (As := [.int (xs (Int32.toNatClampNeg (i + 1))), .int (xs (Int32.toNatClampNeg (i + 2)))]) (rest := []) F hE hP hD hS hA hl.1 (List.Perm.refl _) (fun q hq => List.mem_append_right _ hq) hZ (bx_pence l D cy T kt vt o x ix md cw (xs (Int32.toNatClampNeg (i + 1))) (xs (Int32.toNatClampNeg (i + 2))) hcb) q_m_L_127 mv_X11_pence ⟨(Nat.le_of_ble_eq_true rfl), (Nat.le_of_ble_eq_true rfl)⟩ hfsu rfl rfl rfl rfl (Nat.le_of_ble_eq_true rfl) ⟨by show C + 0 ≤ 600000; omega, by show S + 0 ≤ 7302250; omega⟩ dL_law_994 (fun r u H locs hu hP hD hS => ?_)
  refine lv_pop hx hb dL_law_997 rfl ?_
  refine lv_aload_n hx hb dL_law_998 rfl (lv_at hl 1 rfl) ?_
  refine lv_aload_n hx hb dL_law_999 rfl (lv_at hl 3 rfl) ?_
  refine lv_iload_n hx hb dL_law_1000 rfl (lv_at hl 0 rfl) ?_
  refine lv_iconst (v := 1) hx hb dL_law_1001 (by decide) ?_
  refine lv_iadd hx hb dL_law_1002 ?_
  refine va_sld hx hb hX hbl hbA hS (k_in (by omega)) dL_law_1003 ?_
  refine lv_aload_n hx hb dL_law_1004 rfl (lv_at hl 3 rfl) ?_
  refine lv_iload_n hx hb dL_law_1005 rfl (lv_at hl 0 rfl) ?_
  refine lv_iconst (v := 2) hx hb dL_law_1006 (by decide) ?_
  refine lv_iadd hx hb dL_law_1007 ?_
  refine va_sld hx hb hX hbl hbA hS (k_in (by omega)) dL_law_1008 ?_
  obtain ⟨fsu2, hfsu2⟩ := hrb.recv
  refine lwI (w := rw) (wr := u ++ T) (TT := T) (As := [.int (xs (Int32.toNatClampNeg (i + 1))), .int (xs (Int32.toNatClampNeg (i + 2)))]) (rest := []) F hE hP hD hS hA hl.1 (perm_of (fun c f h h1 h0 => by simp only [h] <;> ac_rfl)) (fun q hq => List.mem_append_right _ hq) hZ (rx_pence l D cy T kt vt m0 x ix md rw (xs (Int32.toNatClampNeg (i + 1))) (xs (Int32.toNatClampNeg (i + 2))) hrb) q_m_L_130 mv_X12_pence ⟨(Nat.le_of_ble_eq_true rfl), (Nat.le_of_ble_eq_true rfl)⟩ hfsu2 rfl rfl rfl rfl (Nat.le_of_ble_eq_true rfl) ⟨by show C + 0 + 0 ≤ 600000; omega, by show S + 0 + 0 ≤ 7302250; omega⟩ dL_law_1009 (fun r2 u2 H locs hu2 hP hD hS => ?_)
  refine lv_pop hx hb dL_law_1012 rfl ?_
  refine lv_goto (tgt := 1260) hx hb dL_law_1013 (by decide) ?_
  exact kk u u2 T x ix md H locs ls _ _ (by omega) (by omega) hu hu2 (hP.perm (perm_of (fun c f h h1 h0 => by simp only [h] <;> ac_rfl))) (hD.perm (perm_of (fun c f h h1 h0 => by simp only [h] <;> ac_rfl))) hS hl

set_option maxHeartbeats 4000000 in
set_option maxRecDepth 100000 in
theorem lc_note {p : Program} {l : Launch} {e : Env} {s : State} {m : MethodId} {below : List Frame} {meth : Method} {c : Code} {b L : Nat} {xs : Nat → Int32} {D : va_G} {cy : Nat → ClassId} {A : Nat → Prop} {kt vt : Nat} (F : kF p s m meth c code 4 ret #[Value.ref b] RL) (hE : kE D (kTY cy) s) (hX : va_X b L xs s s.heap) (hbl : b < s.heap.size) (hAA : ∀ q : Nat, A q → s.heap.size ≤ q) (hA : ∀ q : Nat, s.heap.size ≤ q → A q) (hZ : ZT kt vt A s s.heap) (hL : L ≤ 3072) (i : Int32) (hi0 : 0 ≤ i.toInt) (hi6 : i.toInt + 6 ≤ (L : Int)) (o m0 : Nat) {cw rw T : va_W} {x : Int32} {ix md : Nat → Int32} (hcb : LCB cy T o x ix md cw) (hrb : LRB cy m0 x ix md rw) {H : Heap} {locs : List Loc} (hP : va_P D vwCl (cw ++ (rw ++ T)) H) (hD : va_D A (cw ++ (rw ++ T))) (hS : va_S A s.heap H locs) {ls : Array Slot} (hl : lv_has ls 4 [(3, .int i), (2, .ref m0), (1, .ref o), (0, .ref b)]) {C S : Nat} (hC : C + 2 ≤ 600000) (hSl : S + 414 ≤ 7302250) (kk : ∀ (cw rw T : va_W) (x : Int32) (ix md : Nat → Int32) (H : Heap) (locs : List Loc) (ls : Array Slot) (C1 S1 : Nat), C1 ≤ C + 2 → S1 ≤ S + 414 → LCB cy T o x ix md cw → LRB cy m0 x ix md rw → va_P D vwCl (cw ++ (rw ++ T)) H → va_D A (cw ++ (rw ++ T)) → va_S A s.heap H locs → lv_has ls 4 [(3, .int i), (2, .ref m0), (1, .ref o), (0, .ref b)] → W p l e room_1 s m #[Value.ref b] below meth c H locs C1 S1 (lw_Z below #[Value.ref b] s) (F0 m 1260 ls [])) : W p l e room_1 s m #[Value.ref b] below meth c H locs C S (lw_Z below #[Value.ref b] s) (F0 m 1016 ls []) := by
  obtain ⟨hx, hb, hr, hml, hown, hG, hlk⟩ := id F
  have hbA : ¬ A b := fun h => absurd (hAA b h) (Nat.not_le.mpr hbl)
  have j1 : (i + 1).toInt = i.toInt + 1 := k_addI rfl rfl (by decide) (by omega)
  have j2 : (i + 2).toInt = i.toInt + 2 := k_addI rfl rfl (by decide) (by omega)
  have j3 : (i + 3).toInt = i.toInt + 3 := k_addI rfl rfl (by decide) (by omega)
  have j4 : (i + 4).toInt = i.toInt + 4 := k_addI rfl rfl (by decide) (by omega)
  have j5 : (i + 5).toInt = i.toInt + 5 := k_addI rfl rfl (by decide) (by omega)
  refine lv_aload_n hx hb dL_law_1016 rfl (lv_at hl 2 rfl) ?_
  refine lv_aload_n hx hb dL_law_1017 rfl (lv_at hl 3 rfl) ?_
  refine lv_iload_n hx hb dL_law_1018 rfl (lv_at hl 0 rfl) ?_
  refine lv_iconst (v := 1) hx hb dL_law_1019 (by decide) ?_
  refine lv_iadd hx hb dL_law_1020 ?_
  refine va_sld hx hb hX hbl hbA hS (k_in (by omega)) dL_law_1021 ?_
  refine lv_aload_n hx hb dL_law_1022 rfl (lv_at hl 3 rfl) ?_
  refine lv_iload_n hx hb dL_law_1023 rfl (lv_at hl 0 rfl) ?_
  refine lv_iconst (v := 2) hx hb dL_law_1024 (by decide) ?_
  refine lv_iadd hx hb dL_law_1025 ?_
  refine va_sld hx hb hX hbl hbA hS (k_in (by omega)) dL_law_1026 ?_
  refine lv_aload_n hx hb dL_law_1027 rfl (lv_at hl 3 rfl) ?_
  refine lv_iload_n hx hb dL_law_1028 rfl (lv_at hl 0 rfl) ?_
  refine lv_iconst (v := 3) hx hb dL_law_1029 (by decide) ?_
  refine lv_iadd hx hb dL_law_1030 ?_
  refine va_sld hx hb hX hbl hbA hS (k_in (by omega)) dL_law_1031 ?_
  obtain ⟨fsu, hfsu⟩ := hcb.recv
  refine lwI (w := cw) (wr := rw ++ T) (TT := T) (As := [.int (xs (Int32.toNatClampNeg (i + 1))), .int (xs (Int32.toNatClampNeg (i + 2))), .int (xs (Int32.toNatClampNeg (i + 3)))]) (rest := []) F hE hP hD hS hA hl.1 (List.Perm.refl _) (fun q hq => List.mem_append_right _ hq) hZ (bx_note l D cy T kt vt o x ix md cw (xs (Int32.toNatClampNeg (i + 1))) (xs (Int32.toNatClampNeg (i + 2))) (xs (Int32.toNatClampNeg (i + 3))) hcb) q_m_L_131 mv_X11_note ⟨(Nat.le_of_ble_eq_true rfl), (Nat.le_of_ble_eq_true rfl)⟩ hfsu rfl rfl rfl rfl (Nat.le_of_ble_eq_true rfl) ⟨by show C + 0 ≤ 600000; omega, by show S + 0 ≤ 7302250; omega⟩ dL_law_1032 (fun r u H locs hu hP hD hS => ?_)
  refine lv_pop hx hb dL_law_1035 rfl ?_
  refine lv_aload_n hx hb dL_law_1036 rfl (lv_at hl 1 rfl) ?_
  refine lv_aload_n hx hb dL_law_1037 rfl (lv_at hl 3 rfl) ?_
  refine lv_iload_n hx hb dL_law_1038 rfl (lv_at hl 0 rfl) ?_
  refine lv_iconst (v := 1) hx hb dL_law_1039 (by decide) ?_
  refine lv_iadd hx hb dL_law_1040 ?_
  refine va_sld hx hb hX hbl hbA hS (k_in (by omega)) dL_law_1041 ?_
  refine lv_aload_n hx hb dL_law_1042 rfl (lv_at hl 3 rfl) ?_
  refine lv_iload_n hx hb dL_law_1043 rfl (lv_at hl 0 rfl) ?_
  refine lv_iconst (v := 2) hx hb dL_law_1044 (by decide) ?_
  refine lv_iadd hx hb dL_law_1045 ?_
  refine va_sld hx hb hX hbl hbA hS (k_in (by omega)) dL_law_1046 ?_
  refine lv_aload_n hx hb dL_law_1047 rfl (lv_at hl 3 rfl) ?_
  refine lv_iload_n hx hb dL_law_1048 rfl (lv_at hl 0 rfl) ?_
  refine lv_iconst (v := 3) hx hb dL_law_1049 (by decide) ?_
  refine lv_iadd hx hb dL_law_1050 ?_
  refine va_sld hx hb hX hbl hbA hS (k_in (by omega)) dL_law_1051 ?_
  obtain ⟨fsu2, hfsu2⟩ := hrb.recv
  refine lwI (w := rw) (wr := u ++ T) (TT := T) (As := [.int (xs (Int32.toNatClampNeg (i + 1))), .int (xs (Int32.toNatClampNeg (i + 2))), .int (xs (Int32.toNatClampNeg (i + 3)))]) (rest := []) F hE hP hD hS hA hl.1 (perm_of (fun c f h h1 h0 => by simp only [h] <;> ac_rfl)) (fun q hq => List.mem_append_right _ hq) hZ (rx_note l D cy T kt vt m0 x ix md rw (xs (Int32.toNatClampNeg (i + 1))) (xs (Int32.toNatClampNeg (i + 2))) (xs (Int32.toNatClampNeg (i + 3))) hrb) q_m_L_134 mv_X12_note ⟨(Nat.le_of_ble_eq_true rfl), (Nat.le_of_ble_eq_true rfl)⟩ hfsu2 rfl rfl rfl rfl (Nat.le_of_ble_eq_true rfl) ⟨by show C + 0 + 0 ≤ 600000; omega, by show S + 0 + 0 ≤ 7302250; omega⟩ dL_law_1052 (fun r2 u2 H locs hu2 hP hD hS => ?_)
  refine lv_pop hx hb dL_law_1055 rfl ?_
  refine lv_goto (tgt := 1260) hx hb dL_law_1056 (by decide) ?_
  exact kk u u2 T x ix md H locs ls _ _ (by omega) (by omega) hu hu2 (hP.perm (perm_of (fun c f h h1 h0 => by simp only [h] <;> ac_rfl))) (hD.perm (perm_of (fun c f h h1 h0 => by simp only [h] <;> ac_rfl))) hS hl

set_option maxHeartbeats 4000000 in
set_option maxRecDepth 100000 in
theorem lc_ruled {p : Program} {l : Launch} {e : Env} {s : State} {m : MethodId} {below : List Frame} {meth : Method} {c : Code} {b L : Nat} {xs : Nat → Int32} {D : va_G} {cy : Nat → ClassId} {A : Nat → Prop} {kt vt : Nat} (F : kF p s m meth c code 4 ret #[Value.ref b] RL) (hE : kE D (kTY cy) s) (hX : va_X b L xs s s.heap) (hbl : b < s.heap.size) (hAA : ∀ q : Nat, A q → s.heap.size ≤ q) (hA : ∀ q : Nat, s.heap.size ≤ q → A q) (hZ : ZT kt vt A s s.heap) (hL : L ≤ 3072) (i : Int32) (hi0 : 0 ≤ i.toInt) (hi6 : i.toInt + 6 ≤ (L : Int)) (o m0 : Nat) {cw rw T : va_W} {x : Int32} {ix md : Nat → Int32} (hcb : LCB cy T o x ix md cw) (hrb : LRB cy m0 x ix md rw) {H : Heap} {locs : List Loc} (hP : va_P D vwCl (cw ++ (rw ++ T)) H) (hD : va_D A (cw ++ (rw ++ T))) (hS : va_S A s.heap H locs) {ls : Array Slot} (hl : lv_has ls 4 [(3, .int i), (2, .ref m0), (1, .ref o), (0, .ref b)]) {C S : Nat} (hC : C + 2 ≤ 600000) (hSl : S + 414 ≤ 7302250) (kk : ∀ (cw rw T : va_W) (x : Int32) (ix md : Nat → Int32) (H : Heap) (locs : List Loc) (ls : Array Slot) (C1 S1 : Nat), C1 ≤ C + 2 → S1 ≤ S + 414 → LCB cy T o x ix md cw → LRB cy m0 x ix md rw → va_P D vwCl (cw ++ (rw ++ T)) H → va_D A (cw ++ (rw ++ T)) → va_S A s.heap H locs → lv_has ls 4 [(3, .int i), (2, .ref m0), (1, .ref o), (0, .ref b)] → W p l e room_1 s m #[Value.ref b] below meth c H locs C1 S1 (lw_Z below #[Value.ref b] s) (F0 m 1260 ls [])) : W p l e room_1 s m #[Value.ref b] below meth c H locs C S (lw_Z below #[Value.ref b] s) (F0 m 1059 ls []) := by
  obtain ⟨hx, hb, hr, hml, hown, hG, hlk⟩ := id F
  have hbA : ¬ A b := fun h => absurd (hAA b h) (Nat.not_le.mpr hbl)
  have j1 : (i + 1).toInt = i.toInt + 1 := k_addI rfl rfl (by decide) (by omega)
  have j2 : (i + 2).toInt = i.toInt + 2 := k_addI rfl rfl (by decide) (by omega)
  have j3 : (i + 3).toInt = i.toInt + 3 := k_addI rfl rfl (by decide) (by omega)
  have j4 : (i + 4).toInt = i.toInt + 4 := k_addI rfl rfl (by decide) (by omega)
  have j5 : (i + 5).toInt = i.toInt + 5 := k_addI rfl rfl (by decide) (by omega)
  refine lv_aload_n hx hb dL_law_1059 rfl (lv_at hl 2 rfl) ?_
  refine lv_aload_n hx hb dL_law_1060 rfl (lv_at hl 3 rfl) ?_
  refine lv_iload_n hx hb dL_law_1061 rfl (lv_at hl 0 rfl) ?_
  refine lv_iconst (v := 1) hx hb dL_law_1062 (by decide) ?_
  refine lv_iadd hx hb dL_law_1063 ?_
  refine va_sld hx hb hX hbl hbA hS (k_in (by omega)) dL_law_1064 ?_
  obtain ⟨fsu, hfsu⟩ := hcb.recv
  refine lwI (w := cw) (wr := rw ++ T) (TT := T) (As := [.int (xs (Int32.toNatClampNeg (i + 1)))]) (rest := []) F hE hP hD hS hA hl.1 (List.Perm.refl _) (fun q hq => List.mem_append_right _ hq) hZ (bx_ruled l D cy T kt vt o x ix md cw (xs (Int32.toNatClampNeg (i + 1))) hcb) q_m_L_135 mv_X11_ruled ⟨(Nat.le_of_ble_eq_true rfl), (Nat.le_of_ble_eq_true rfl)⟩ hfsu rfl rfl rfl rfl (Nat.le_of_ble_eq_true rfl) ⟨by show C + 0 ≤ 600000; omega, by show S + 0 ≤ 7302250; omega⟩ dL_law_1065 (fun r u H locs hu hP hD hS => ?_)
  refine lv_pop hx hb dL_law_1068 rfl ?_
  refine lv_aload_n hx hb dL_law_1069 rfl (lv_at hl 1 rfl) ?_
  refine lv_aload_n hx hb dL_law_1070 rfl (lv_at hl 3 rfl) ?_
  refine lv_iload_n hx hb dL_law_1071 rfl (lv_at hl 0 rfl) ?_
  refine lv_iconst (v := 1) hx hb dL_law_1072 (by decide) ?_
  refine lv_iadd hx hb dL_law_1073 ?_
  refine va_sld hx hb hX hbl hbA hS (k_in (by omega)) dL_law_1074 ?_
  obtain ⟨fsu2, hfsu2⟩ := hrb.recv
  refine lwI (w := rw) (wr := u ++ T) (TT := T) (As := [.int (xs (Int32.toNatClampNeg (i + 1)))]) (rest := []) F hE hP hD hS hA hl.1 (perm_of (fun c f h h1 h0 => by simp only [h] <;> ac_rfl)) (fun q hq => List.mem_append_right _ hq) hZ (rx_ruled l D cy T kt vt m0 x ix md rw (xs (Int32.toNatClampNeg (i + 1))) hrb) q_m_L_138 mv_X12_ruled ⟨(Nat.le_of_ble_eq_true rfl), (Nat.le_of_ble_eq_true rfl)⟩ hfsu2 rfl rfl rfl rfl (Nat.le_of_ble_eq_true rfl) ⟨by show C + 0 + 0 ≤ 600000; omega, by show S + 0 + 0 ≤ 7302250; omega⟩ dL_law_1075 (fun r2 u2 H locs hu2 hP hD hS => ?_)
  refine lv_pop hx hb dL_law_1078 rfl ?_
  refine lv_goto (tgt := 1260) hx hb dL_law_1079 (by decide) ?_
  exact kk u u2 T x ix md H locs ls _ _ (by omega) (by omega) hu hu2 (hP.perm (perm_of (fun c f h h1 h0 => by simp only [h] <;> ac_rfl))) (hD.perm (perm_of (fun c f h h1 h0 => by simp only [h] <;> ac_rfl))) hS hl

set_option maxHeartbeats 4000000 in
set_option maxRecDepth 100000 in
theorem lc_look {p : Program} {l : Launch} {e : Env} {s : State} {m : MethodId} {below : List Frame} {meth : Method} {c : Code} {b L : Nat} {xs : Nat → Int32} {D : va_G} {cy : Nat → ClassId} {A : Nat → Prop} {kt vt : Nat} (F : kF p s m meth c code 4 ret #[Value.ref b] RL) (hE : kE D (kTY cy) s) (hX : va_X b L xs s s.heap) (hbl : b < s.heap.size) (hAA : ∀ q : Nat, A q → s.heap.size ≤ q) (hA : ∀ q : Nat, s.heap.size ≤ q → A q) (hZ : ZT kt vt A s s.heap) (hL : L ≤ 3072) (i : Int32) (hi0 : 0 ≤ i.toInt) (hi6 : i.toInt + 6 ≤ (L : Int)) (o m0 : Nat) {cw rw T : va_W} {x : Int32} {ix md : Nat → Int32} (hcb : LCB cy T o x ix md cw) (hrb : LRB cy m0 x ix md rw) {H : Heap} {locs : List Loc} (hP : va_P D vwCl (cw ++ (rw ++ T)) H) (hD : va_D A (cw ++ (rw ++ T))) (hS : va_S A s.heap H locs) {ls : Array Slot} (hl : lv_has ls 4 [(3, .int i), (2, .ref m0), (1, .ref o), (0, .ref b)]) {C S : Nat} (hC : C + 2 ≤ 600000) (hSl : S + 414 ≤ 7302250) (kk : ∀ (cw rw T : va_W) (x : Int32) (ix md : Nat → Int32) (H : Heap) (locs : List Loc) (ls : Array Slot) (C1 S1 : Nat), C1 ≤ C + 2 → S1 ≤ S + 414 → LCB cy T o x ix md cw → LRB cy m0 x ix md rw → va_P D vwCl (cw ++ (rw ++ T)) H → va_D A (cw ++ (rw ++ T)) → va_S A s.heap H locs → lv_has ls 4 [(3, .int i), (2, .ref m0), (1, .ref o), (0, .ref b)] → W p l e room_1 s m #[Value.ref b] below meth c H locs C1 S1 (lw_Z below #[Value.ref b] s) (F0 m 1260 ls [])) : W p l e room_1 s m #[Value.ref b] below meth c H locs C S (lw_Z below #[Value.ref b] s) (F0 m 1082 ls []) := by
  obtain ⟨hx, hb, hr, hml, hown, hG, hlk⟩ := id F
  have hbA : ¬ A b := fun h => absurd (hAA b h) (Nat.not_le.mpr hbl)
  have j1 : (i + 1).toInt = i.toInt + 1 := k_addI rfl rfl (by decide) (by omega)
  have j2 : (i + 2).toInt = i.toInt + 2 := k_addI rfl rfl (by decide) (by omega)
  have j3 : (i + 3).toInt = i.toInt + 3 := k_addI rfl rfl (by decide) (by omega)
  have j4 : (i + 4).toInt = i.toInt + 4 := k_addI rfl rfl (by decide) (by omega)
  have j5 : (i + 5).toInt = i.toInt + 5 := k_addI rfl rfl (by decide) (by omega)
  refine lv_aload_n hx hb dL_law_1082 rfl (lv_at hl 2 rfl) ?_
  refine lv_aload_n hx hb dL_law_1083 rfl (lv_at hl 3 rfl) ?_
  refine lv_iload_n hx hb dL_law_1084 rfl (lv_at hl 0 rfl) ?_
  refine lv_iconst (v := 1) hx hb dL_law_1085 (by decide) ?_
  refine lv_iadd hx hb dL_law_1086 ?_
  refine va_sld hx hb hX hbl hbA hS (k_in (by omega)) dL_law_1087 ?_
  refine lv_aload_n hx hb dL_law_1088 rfl (lv_at hl 3 rfl) ?_
  refine lv_iload_n hx hb dL_law_1089 rfl (lv_at hl 0 rfl) ?_
  refine lv_iconst (v := 2) hx hb dL_law_1090 (by decide) ?_
  refine lv_iadd hx hb dL_law_1091 ?_
  refine va_sld hx hb hX hbl hbA hS (k_in (by omega)) dL_law_1092 ?_
  obtain ⟨fsu, hfsu⟩ := hcb.recv
  refine lwI (w := cw) (wr := rw ++ T) (TT := T) (As := [.int (xs (Int32.toNatClampNeg (i + 1))), .int (xs (Int32.toNatClampNeg (i + 2)))]) (rest := []) F hE hP hD hS hA hl.1 (List.Perm.refl _) (fun q hq => List.mem_append_right _ hq) hZ (bx_look l D cy T kt vt o x ix md cw (xs (Int32.toNatClampNeg (i + 1))) (xs (Int32.toNatClampNeg (i + 2))) hcb) q_m_L_139 mv_X11_look ⟨(Nat.le_of_ble_eq_true rfl), (Nat.le_of_ble_eq_true rfl)⟩ hfsu rfl rfl rfl rfl (Nat.le_of_ble_eq_true rfl) ⟨by show C + 0 ≤ 600000; omega, by show S + 0 ≤ 7302250; omega⟩ dL_law_1093 (fun r u H locs hu hP hD hS => ?_)
  refine lv_pop hx hb dL_law_1096 rfl ?_
  refine lv_aload_n hx hb dL_law_1097 rfl (lv_at hl 1 rfl) ?_
  refine lv_aload_n hx hb dL_law_1098 rfl (lv_at hl 3 rfl) ?_
  refine lv_iload_n hx hb dL_law_1099 rfl (lv_at hl 0 rfl) ?_
  refine lv_iconst (v := 1) hx hb dL_law_1100 (by decide) ?_
  refine lv_iadd hx hb dL_law_1101 ?_
  refine va_sld hx hb hX hbl hbA hS (k_in (by omega)) dL_law_1102 ?_
  refine lv_aload_n hx hb dL_law_1103 rfl (lv_at hl 3 rfl) ?_
  refine lv_iload_n hx hb dL_law_1104 rfl (lv_at hl 0 rfl) ?_
  refine lv_iconst (v := 2) hx hb dL_law_1105 (by decide) ?_
  refine lv_iadd hx hb dL_law_1106 ?_
  refine va_sld hx hb hX hbl hbA hS (k_in (by omega)) dL_law_1107 ?_
  obtain ⟨fsu2, hfsu2⟩ := hrb.recv
  refine lwI (w := rw) (wr := u ++ T) (TT := T) (As := [.int (xs (Int32.toNatClampNeg (i + 1))), .int (xs (Int32.toNatClampNeg (i + 2)))]) (rest := []) F hE hP hD hS hA hl.1 (perm_of (fun c f h h1 h0 => by simp only [h] <;> ac_rfl)) (fun q hq => List.mem_append_right _ hq) hZ (rx_look l D cy T kt vt m0 x ix md rw (xs (Int32.toNatClampNeg (i + 1))) (xs (Int32.toNatClampNeg (i + 2))) hrb) q_m_L_142 mv_X12_look ⟨(Nat.le_of_ble_eq_true rfl), (Nat.le_of_ble_eq_true rfl)⟩ hfsu2 rfl rfl rfl rfl (Nat.le_of_ble_eq_true rfl) ⟨by show C + 0 + 0 ≤ 600000; omega, by show S + 0 + 0 ≤ 7302250; omega⟩ dL_law_1108 (fun r2 u2 H locs hu2 hP hD hS => ?_)
  refine lv_pop hx hb dL_law_1111 rfl ?_
  refine lv_goto (tgt := 1260) hx hb dL_law_1112 (by decide) ?_
  exact kk u u2 T x ix md H locs ls _ _ (by omega) (by omega) hu hu2 (hP.perm (perm_of (fun c f h h1 h0 => by simp only [h] <;> ac_rfl))) (hD.perm (perm_of (fun c f h h1 h0 => by simp only [h] <;> ac_rfl))) hS hl

set_option maxHeartbeats 4000000 in
set_option maxRecDepth 100000 in
theorem lc_seed {p : Program} {l : Launch} {e : Env} {s : State} {m : MethodId} {below : List Frame} {meth : Method} {c : Code} {b L : Nat} {xs : Nat → Int32} {D : va_G} {cy : Nat → ClassId} {A : Nat → Prop} {kt vt : Nat} (F : kF p s m meth c code 4 ret #[Value.ref b] RL) (hE : kE D (kTY cy) s) (hX : va_X b L xs s s.heap) (hbl : b < s.heap.size) (hAA : ∀ q : Nat, A q → s.heap.size ≤ q) (hA : ∀ q : Nat, s.heap.size ≤ q → A q) (hZ : ZT kt vt A s s.heap) (hL : L ≤ 3072) (i : Int32) (hi0 : 0 ≤ i.toInt) (hi6 : i.toInt + 6 ≤ (L : Int)) (o m0 : Nat) {cw rw T : va_W} {x : Int32} {ix md : Nat → Int32} (hcb : LCB cy T o x ix md cw) (hrb : LRB cy m0 x ix md rw) {H : Heap} {locs : List Loc} (hP : va_P D vwCl (cw ++ (rw ++ T)) H) (hD : va_D A (cw ++ (rw ++ T))) (hS : va_S A s.heap H locs) {ls : Array Slot} (hl : lv_has ls 4 [(3, .int i), (2, .ref m0), (1, .ref o), (0, .ref b)]) {C S : Nat} (hC : C + 2 ≤ 600000) (hSl : S + 414 ≤ 7302250) (kk : ∀ (cw rw T : va_W) (x : Int32) (ix md : Nat → Int32) (H : Heap) (locs : List Loc) (ls : Array Slot) (C1 S1 : Nat), C1 ≤ C + 2 → S1 ≤ S + 414 → LCB cy T o x ix md cw → LRB cy m0 x ix md rw → va_P D vwCl (cw ++ (rw ++ T)) H → va_D A (cw ++ (rw ++ T)) → va_S A s.heap H locs → lv_has ls 4 [(3, .int i), (2, .ref m0), (1, .ref o), (0, .ref b)] → W p l e room_1 s m #[Value.ref b] below meth c H locs C1 S1 (lw_Z below #[Value.ref b] s) (F0 m 1260 ls [])) : W p l e room_1 s m #[Value.ref b] below meth c H locs C S (lw_Z below #[Value.ref b] s) (F0 m 1115 ls []) := by
  obtain ⟨hx, hb, hr, hml, hown, hG, hlk⟩ := id F
  have hbA : ¬ A b := fun h => absurd (hAA b h) (Nat.not_le.mpr hbl)
  have j1 : (i + 1).toInt = i.toInt + 1 := k_addI rfl rfl (by decide) (by omega)
  have j2 : (i + 2).toInt = i.toInt + 2 := k_addI rfl rfl (by decide) (by omega)
  have j3 : (i + 3).toInt = i.toInt + 3 := k_addI rfl rfl (by decide) (by omega)
  have j4 : (i + 4).toInt = i.toInt + 4 := k_addI rfl rfl (by decide) (by omega)
  have j5 : (i + 5).toInt = i.toInt + 5 := k_addI rfl rfl (by decide) (by omega)
  refine lv_aload_n hx hb dL_law_1115 rfl (lv_at hl 2 rfl) ?_
  refine lv_aload_n hx hb dL_law_1116 rfl (lv_at hl 3 rfl) ?_
  refine lv_iload_n hx hb dL_law_1117 rfl (lv_at hl 0 rfl) ?_
  refine lv_iconst (v := 1) hx hb dL_law_1118 (by decide) ?_
  refine lv_iadd hx hb dL_law_1119 ?_
  refine va_sld hx hb hX hbl hbA hS (k_in (by omega)) dL_law_1120 ?_
  obtain ⟨fsu, hfsu⟩ := hcb.recv
  refine lwI (w := cw) (wr := rw ++ T) (TT := T) (As := [.int (xs (Int32.toNatClampNeg (i + 1)))]) (rest := []) F hE hP hD hS hA hl.1 (List.Perm.refl _) (fun q hq => List.mem_append_right _ hq) hZ (bx_seed l D cy T kt vt o x ix md cw (xs (Int32.toNatClampNeg (i + 1))) hcb) q_m_L_143 mv_X11_seed ⟨(Nat.le_of_ble_eq_true rfl), (Nat.le_of_ble_eq_true rfl)⟩ hfsu rfl rfl rfl rfl (Nat.le_of_ble_eq_true rfl) ⟨by show C + 0 ≤ 600000; omega, by show S + 0 ≤ 7302250; omega⟩ dL_law_1121 (fun r u H locs hu hP hD hS => ?_)
  refine lv_aload_n hx hb dL_law_1124 rfl (lv_at hl 1 rfl) ?_
  refine lv_aload_n hx hb dL_law_1125 rfl (lv_at hl 3 rfl) ?_
  refine lv_iload_n hx hb dL_law_1126 rfl (lv_at hl 0 rfl) ?_
  refine lv_iconst (v := 1) hx hb dL_law_1127 (by decide) ?_
  refine lv_iadd hx hb dL_law_1128 ?_
  refine va_sld hx hb hX hbl hbA hS (k_in (by omega)) dL_law_1129 ?_
  obtain ⟨fsu2, hfsu2⟩ := hrb.recv
  refine lwI (w := rw) (wr := u ++ T) (TT := T) (As := [.int (xs (Int32.toNatClampNeg (i + 1)))]) (rest := [.int r]) F hE hP hD hS hA hl.1 (perm_of (fun c f h h1 h0 => by simp only [h] <;> ac_rfl)) (fun q hq => List.mem_append_right _ hq) hZ (rx_seed l D cy T kt vt m0 x ix md rw (xs (Int32.toNatClampNeg (i + 1))) hrb) q_m_L_146 mv_X12_seed ⟨(Nat.le_of_ble_eq_true rfl), (Nat.le_of_ble_eq_true rfl)⟩ hfsu2 rfl rfl rfl rfl (Nat.le_of_ble_eq_true rfl) ⟨by show C + 0 + 0 ≤ 600000; omega, by show S + 0 + 0 ≤ 7302250; omega⟩ dL_law_1130 (fun r2 u2 H locs hu2 hP hD hS => ?_)
  rcases hu with ⟨q1, q2, q3⟩ | ⟨q1, q2, q3⟩ <;> rcases hu2 with ⟨p1, p2, p3⟩ | ⟨p1, p2, p3⟩
  · refine lv_icmp_eq (tgt := 1260) hx hb dL_law_1133 (by decide) (fun _ => ?_) (fun q => absurd (q2.trans p2.symm) q)
    exact kk u u2 T x ix md H locs ls _ _ (by omega) (by omega) q3 p3 (hP.perm (perm_of (fun c f h h1 h0 => by simp only [h] <;> ac_rfl))) (hD.perm (perm_of (fun c f h h1 h0 => by simp only [h] <;> ac_rfl))) hS hl
  · exact absurd q1 (by omega)
  · exact absurd p1 (by omega)
  · refine lv_icmp_eq (tgt := 1260) hx hb dL_law_1133 (by decide) (fun _ => ?_) (fun q => absurd (q2.trans p2.symm) q)
    exact kk u u2 T (xs (Int32.toNatClampNeg (i + 1))) ix md H locs ls _ _ (by omega) (by omega) q3 p3 (hP.perm (perm_of (fun c f h h1 h0 => by simp only [h] <;> ac_rfl))) (hD.perm (perm_of (fun c f h h1 h0 => by simp only [h] <;> ac_rfl))) hS hl

set_option maxHeartbeats 4000000 in
set_option maxRecDepth 100000 in
theorem lc_gusts {p : Program} {l : Launch} {e : Env} {s : State} {m : MethodId} {below : List Frame} {meth : Method} {c : Code} {b L : Nat} {xs : Nat → Int32} {D : va_G} {cy : Nat → ClassId} {A : Nat → Prop} {kt vt : Nat} (F : kF p s m meth c code 4 ret #[Value.ref b] RL) (hE : kE D (kTY cy) s) (hX : va_X b L xs s s.heap) (hbl : b < s.heap.size) (hAA : ∀ q : Nat, A q → s.heap.size ≤ q) (hA : ∀ q : Nat, s.heap.size ≤ q → A q) (hZ : ZT kt vt A s s.heap) (hL : L ≤ 3072) (i : Int32) (hi0 : 0 ≤ i.toInt) (hi6 : i.toInt + 6 ≤ (L : Int)) (o m0 : Nat) {cw rw T : va_W} {x : Int32} {ix md : Nat → Int32} (hcb : LCB cy T o x ix md cw) (hrb : LRB cy m0 x ix md rw) {H : Heap} {locs : List Loc} (hP : va_P D vwCl (cw ++ (rw ++ T)) H) (hD : va_D A (cw ++ (rw ++ T))) (hS : va_S A s.heap H locs) {ls : Array Slot} (hl : lv_has ls 4 [(3, .int i), (2, .ref m0), (1, .ref o), (0, .ref b)]) {C S : Nat} (hC : C + 2 ≤ 600000) (hSl : S + 414 ≤ 7302250) (kk : ∀ (cw rw T : va_W) (x : Int32) (ix md : Nat → Int32) (H : Heap) (locs : List Loc) (ls : Array Slot) (C1 S1 : Nat), C1 ≤ C + 2 → S1 ≤ S + 414 → LCB cy T o x ix md cw → LRB cy m0 x ix md rw → va_P D vwCl (cw ++ (rw ++ T)) H → va_D A (cw ++ (rw ++ T)) → va_S A s.heap H locs → lv_has ls 4 [(3, .int i), (2, .ref m0), (1, .ref o), (0, .ref b)] → W p l e room_1 s m #[Value.ref b] below meth c H locs C1 S1 (lw_Z below #[Value.ref b] s) (F0 m 1260 ls [])) : W p l e room_1 s m #[Value.ref b] below meth c H locs C S (lw_Z below #[Value.ref b] s) (F0 m 1138 ls []) := by
  obtain ⟨hx, hb, hr, hml, hown, hG, hlk⟩ := id F
  have hbA : ¬ A b := fun h => absurd (hAA b h) (Nat.not_le.mpr hbl)
  have j1 : (i + 1).toInt = i.toInt + 1 := k_addI rfl rfl (by decide) (by omega)
  have j2 : (i + 2).toInt = i.toInt + 2 := k_addI rfl rfl (by decide) (by omega)
  have j3 : (i + 3).toInt = i.toInt + 3 := k_addI rfl rfl (by decide) (by omega)
  have j4 : (i + 4).toInt = i.toInt + 4 := k_addI rfl rfl (by decide) (by omega)
  have j5 : (i + 5).toInt = i.toInt + 5 := k_addI rfl rfl (by decide) (by omega)
  refine lv_aload_n hx hb dL_law_1138 rfl (lv_at hl 2 rfl) ?_
  refine lv_aload_n hx hb dL_law_1139 rfl (lv_at hl 3 rfl) ?_
  refine lv_iload_n hx hb dL_law_1140 rfl (lv_at hl 0 rfl) ?_
  refine lv_iconst (v := 1) hx hb dL_law_1141 (by decide) ?_
  refine lv_iadd hx hb dL_law_1142 ?_
  refine va_sld hx hb hX hbl hbA hS (k_in (by omega)) dL_law_1143 ?_
  refine lv_aload_n hx hb dL_law_1144 rfl (lv_at hl 3 rfl) ?_
  refine lv_iload_n hx hb dL_law_1145 rfl (lv_at hl 0 rfl) ?_
  refine lv_iconst (v := 2) hx hb dL_law_1146 (by decide) ?_
  refine lv_iadd hx hb dL_law_1147 ?_
  refine va_sld hx hb hX hbl hbA hS (k_in (by omega)) dL_law_1148 ?_
  refine lv_aload_n hx hb dL_law_1149 rfl (lv_at hl 3 rfl) ?_
  refine lv_iload_n hx hb dL_law_1150 rfl (lv_at hl 0 rfl) ?_
  refine lv_iconst (v := 3) hx hb dL_law_1151 (by decide) ?_
  refine lv_iadd hx hb dL_law_1152 ?_
  refine va_sld hx hb hX hbl hbA hS (k_in (by omega)) dL_law_1153 ?_
  refine lv_aload_n hx hb dL_law_1154 rfl (lv_at hl 3 rfl) ?_
  refine lv_iload_n hx hb dL_law_1155 rfl (lv_at hl 0 rfl) ?_
  refine lv_iconst (v := 4) hx hb dL_law_1156 (by decide) ?_
  refine lv_iadd hx hb dL_law_1157 ?_
  refine va_sld hx hb hX hbl hbA hS (k_in (by omega)) dL_law_1158 ?_
  obtain ⟨fsu, hfsu⟩ := hcb.recv
  refine lwI (w := cw) (wr := rw ++ T) (TT := T) (As := [.int (xs (Int32.toNatClampNeg (i + 1))), .int (xs (Int32.toNatClampNeg (i + 2))), .int (xs (Int32.toNatClampNeg (i + 3))), .int (xs (Int32.toNatClampNeg (i + 4)))]) (rest := []) F hE hP hD hS hA hl.1 (List.Perm.refl _) (fun q hq => List.mem_append_right _ hq) hZ (bx_gusts l D cy T kt vt o x ix md cw (xs (Int32.toNatClampNeg (i + 1))) (xs (Int32.toNatClampNeg (i + 2))) (xs (Int32.toNatClampNeg (i + 3))) (xs (Int32.toNatClampNeg (i + 4))) hcb) q_m_L_147 mv_X11_gusts ⟨(Nat.le_of_ble_eq_true rfl), (Nat.le_of_ble_eq_true rfl)⟩ hfsu rfl rfl rfl rfl (Nat.le_of_ble_eq_true rfl) ⟨by show C + 0 ≤ 600000; omega, by show S + 0 ≤ 7302250; omega⟩ dL_law_1159 (fun r u H locs hu hP hD hS => ?_)
  refine lv_pop hx hb dL_law_1162 rfl ?_
  refine lv_aload_n hx hb dL_law_1163 rfl (lv_at hl 1 rfl) ?_
  refine lv_aload_n hx hb dL_law_1164 rfl (lv_at hl 3 rfl) ?_
  refine lv_iload_n hx hb dL_law_1165 rfl (lv_at hl 0 rfl) ?_
  refine lv_iconst (v := 1) hx hb dL_law_1166 (by decide) ?_
  refine lv_iadd hx hb dL_law_1167 ?_
  refine va_sld hx hb hX hbl hbA hS (k_in (by omega)) dL_law_1168 ?_
  refine lv_aload_n hx hb dL_law_1169 rfl (lv_at hl 3 rfl) ?_
  refine lv_iload_n hx hb dL_law_1170 rfl (lv_at hl 0 rfl) ?_
  refine lv_iconst (v := 2) hx hb dL_law_1171 (by decide) ?_
  refine lv_iadd hx hb dL_law_1172 ?_
  refine va_sld hx hb hX hbl hbA hS (k_in (by omega)) dL_law_1173 ?_
  refine lv_aload_n hx hb dL_law_1174 rfl (lv_at hl 3 rfl) ?_
  refine lv_iload_n hx hb dL_law_1175 rfl (lv_at hl 0 rfl) ?_
  refine lv_iconst (v := 3) hx hb dL_law_1176 (by decide) ?_
  refine lv_iadd hx hb dL_law_1177 ?_
  refine va_sld hx hb hX hbl hbA hS (k_in (by omega)) dL_law_1178 ?_
  refine lv_aload_n hx hb dL_law_1179 rfl (lv_at hl 3 rfl) ?_
  refine lv_iload_n hx hb dL_law_1180 rfl (lv_at hl 0 rfl) ?_
  refine lv_iconst (v := 4) hx hb dL_law_1181 (by decide) ?_
  refine lv_iadd hx hb dL_law_1182 ?_
  refine va_sld hx hb hX hbl hbA hS (k_in (by omega)) dL_law_1183 ?_
  obtain ⟨fsu2, hfsu2⟩ := hrb.recv
  refine lwI (w := rw) (wr := u ++ T) (TT := T) (As := [.int (xs (Int32.toNatClampNeg (i + 1))), .int (xs (Int32.toNatClampNeg (i + 2))), .int (xs (Int32.toNatClampNeg (i + 3))), .int (xs (Int32.toNatClampNeg (i + 4)))]) (rest := []) F hE hP hD hS hA hl.1 (perm_of (fun c f h h1 h0 => by simp only [h] <;> ac_rfl)) (fun q hq => List.mem_append_right _ hq) hZ (rx_gusts l D cy T kt vt m0 x ix md rw (xs (Int32.toNatClampNeg (i + 1))) (xs (Int32.toNatClampNeg (i + 2))) (xs (Int32.toNatClampNeg (i + 3))) (xs (Int32.toNatClampNeg (i + 4))) hrb) q_m_L_150 mv_X12_gusts ⟨(Nat.le_of_ble_eq_true rfl), (Nat.le_of_ble_eq_true rfl)⟩ hfsu2 rfl rfl rfl rfl (Nat.le_of_ble_eq_true rfl) ⟨by show C + 0 + 0 ≤ 600000; omega, by show S + 0 + 0 ≤ 7302250; omega⟩ dL_law_1184 (fun r2 u2 H locs hu2 hP hD hS => ?_)
  refine lv_pop hx hb dL_law_1187 rfl ?_
  refine lv_goto (tgt := 1260) hx hb dL_law_1188 (by decide) ?_
  exact kk u u2 T x ix md H locs ls _ _ (by omega) (by omega) hu hu2 (hP.perm (perm_of (fun c f h h1 h0 => by simp only [h] <;> ac_rfl))) (hD.perm (perm_of (fun c f h h1 h0 => by simp only [h] <;> ac_rfl))) hS hl

set_option maxHeartbeats 4000000 in
set_option maxRecDepth 100000 in
theorem lc_count {p : Program} {l : Launch} {e : Env} {s : State} {m : MethodId} {below : List Frame} {meth : Method} {c : Code} {b L : Nat} {xs : Nat → Int32} {D : va_G} {cy : Nat → ClassId} {A : Nat → Prop} {kt vt : Nat} (F : kF p s m meth c code 4 ret #[Value.ref b] RL) (hE : kE D (kTY cy) s) (hX : va_X b L xs s s.heap) (hbl : b < s.heap.size) (hAA : ∀ q : Nat, A q → s.heap.size ≤ q) (hA : ∀ q : Nat, s.heap.size ≤ q → A q) (hZ : ZT kt vt A s s.heap) (hL : L ≤ 3072) (i : Int32) (hi0 : 0 ≤ i.toInt) (hi6 : i.toInt + 6 ≤ (L : Int)) (o m0 : Nat) {cw rw T : va_W} {x : Int32} {ix md : Nat → Int32} (hcb : LCB cy T o x ix md cw) (hrb : LRB cy m0 x ix md rw) {H : Heap} {locs : List Loc} (hP : va_P D vwCl (cw ++ (rw ++ T)) H) (hD : va_D A (cw ++ (rw ++ T))) (hS : va_S A s.heap H locs) {ls : Array Slot} (hl : lv_has ls 4 [(3, .int i), (2, .ref m0), (1, .ref o), (0, .ref b)]) {C S : Nat} (hC : C + 2 ≤ 600000) (hSl : S + 414 ≤ 7302250) (kk : ∀ (cw rw T : va_W) (x : Int32) (ix md : Nat → Int32) (H : Heap) (locs : List Loc) (ls : Array Slot) (C1 S1 : Nat), C1 ≤ C + 2 → S1 ≤ S + 414 → LCB cy T o x ix md cw → LRB cy m0 x ix md rw → va_P D vwCl (cw ++ (rw ++ T)) H → va_D A (cw ++ (rw ++ T)) → va_S A s.heap H locs → lv_has ls 4 [(3, .int i), (2, .ref m0), (1, .ref o), (0, .ref b)] → W p l e room_1 s m #[Value.ref b] below meth c H locs C1 S1 (lw_Z below #[Value.ref b] s) (F0 m 1260 ls [])) : W p l e room_1 s m #[Value.ref b] below meth c H locs C S (lw_Z below #[Value.ref b] s) (F0 m 1191 ls []) := by
  obtain ⟨hx, hb, hr, hml, hown, hG, hlk⟩ := id F
  have hbA : ¬ A b := fun h => absurd (hAA b h) (Nat.not_le.mpr hbl)
  have j1 : (i + 1).toInt = i.toInt + 1 := k_addI rfl rfl (by decide) (by omega)
  have j2 : (i + 2).toInt = i.toInt + 2 := k_addI rfl rfl (by decide) (by omega)
  have j3 : (i + 3).toInt = i.toInt + 3 := k_addI rfl rfl (by decide) (by omega)
  have j4 : (i + 4).toInt = i.toInt + 4 := k_addI rfl rfl (by decide) (by omega)
  have j5 : (i + 5).toInt = i.toInt + 5 := k_addI rfl rfl (by decide) (by omega)
  refine lv_aload_n hx hb dL_law_1191 rfl (lv_at hl 2 rfl) ?_
  refine lv_aload_n hx hb dL_law_1192 rfl (lv_at hl 3 rfl) ?_
  refine lv_iload_n hx hb dL_law_1193 rfl (lv_at hl 0 rfl) ?_
  refine lv_iconst (v := 1) hx hb dL_law_1194 (by decide) ?_
  refine lv_iadd hx hb dL_law_1195 ?_
  refine va_sld hx hb hX hbl hbA hS (k_in (by omega)) dL_law_1196 ?_
  obtain ⟨fsu, hfsu⟩ := hcb.recv
  refine lwI (w := cw) (wr := rw ++ T) (TT := T) (As := [.int (xs (Int32.toNatClampNeg (i + 1)))]) (rest := []) F hE hP hD hS hA hl.1 (List.Perm.refl _) (fun q hq => List.mem_append_right _ hq) hZ (bx_count l D cy T kt vt o x ix md cw (xs (Int32.toNatClampNeg (i + 1))) hcb) q_m_L_151 mv_X11_count ⟨(Nat.le_of_ble_eq_true rfl), (Nat.le_of_ble_eq_true rfl)⟩ hfsu rfl rfl rfl rfl (Nat.le_of_ble_eq_true rfl) ⟨by show C + 0 ≤ 600000; omega, by show S + 0 ≤ 7302250; omega⟩ dL_law_1197 (fun r u H locs hu hP hD hS => ?_)
  refine lv_pop hx hb dL_law_1200 rfl ?_
  refine lv_aload_n hx hb dL_law_1201 rfl (lv_at hl 1 rfl) ?_
  refine lv_aload_n hx hb dL_law_1202 rfl (lv_at hl 3 rfl) ?_
  refine lv_iload_n hx hb dL_law_1203 rfl (lv_at hl 0 rfl) ?_
  refine lv_iconst (v := 1) hx hb dL_law_1204 (by decide) ?_
  refine lv_iadd hx hb dL_law_1205 ?_
  refine va_sld hx hb hX hbl hbA hS (k_in (by omega)) dL_law_1206 ?_
  obtain ⟨fsu2, hfsu2⟩ := hrb.recv
  refine lwI (w := rw) (wr := u ++ T) (TT := T) (As := [.int (xs (Int32.toNatClampNeg (i + 1)))]) (rest := []) F hE hP hD hS hA hl.1 (perm_of (fun c f h h1 h0 => by simp only [h] <;> ac_rfl)) (fun q hq => List.mem_append_right _ hq) hZ (rx_count l D cy T kt vt m0 x ix md rw (xs (Int32.toNatClampNeg (i + 1))) hrb) q_m_L_154 mv_X12_count ⟨(Nat.le_of_ble_eq_true rfl), (Nat.le_of_ble_eq_true rfl)⟩ hfsu2 rfl rfl rfl rfl (Nat.le_of_ble_eq_true rfl) ⟨by show C + 0 + 0 ≤ 600000; omega, by show S + 0 + 0 ≤ 7302250; omega⟩ dL_law_1207 (fun r2 u2 H locs hu2 hP hD hS => ?_)
  refine lv_pop hx hb dL_law_1210 rfl ?_
  refine lv_goto (tgt := 1260) hx hb dL_law_1211 (by decide) ?_
  exact kk u u2 T x ix md H locs ls _ _ (by omega) (by omega) hu hu2 (hP.perm (perm_of (fun c f h h1 h0 => by simp only [h] <;> ac_rfl))) (hD.perm (perm_of (fun c f h h1 h0 => by simp only [h] <;> ac_rfl))) hS hl

set_option maxHeartbeats 4000000 in
set_option maxRecDepth 100000 in
theorem lc_image {p : Program} {l : Launch} {e : Env} {s : State} {m : MethodId} {below : List Frame} {meth : Method} {c : Code} {b L : Nat} {xs : Nat → Int32} {D : va_G} {cy : Nat → ClassId} {A : Nat → Prop} {kt vt : Nat} (F : kF p s m meth c code 4 ret #[Value.ref b] RL) (hE : kE D (kTY cy) s) (hX : va_X b L xs s s.heap) (hbl : b < s.heap.size) (hAA : ∀ q : Nat, A q → s.heap.size ≤ q) (hA : ∀ q : Nat, s.heap.size ≤ q → A q) (hZ : ZT kt vt A s s.heap) (hL : L ≤ 3072) (i : Int32) (hi0 : 0 ≤ i.toInt) (hi6 : i.toInt + 6 ≤ (L : Int)) (o m0 : Nat) {cw rw T : va_W} {x : Int32} {ix md : Nat → Int32} (hcb : LCB cy T o x ix md cw) (hrb : LRB cy m0 x ix md rw) {H : Heap} {locs : List Loc} (hP : va_P D vwCl (cw ++ (rw ++ T)) H) (hD : va_D A (cw ++ (rw ++ T))) (hS : va_S A s.heap H locs) {ls : Array Slot} (hl : lv_has ls 4 [(3, .int i), (2, .ref m0), (1, .ref o), (0, .ref b)]) {C S : Nat} (hC : C + 2 ≤ 600000) (hSl : S + 414 ≤ 7302250) (kk : ∀ (cw rw T : va_W) (x : Int32) (ix md : Nat → Int32) (H : Heap) (locs : List Loc) (ls : Array Slot) (C1 S1 : Nat), C1 ≤ C + 2 → S1 ≤ S + 414 → LCB cy T o x ix md cw → LRB cy m0 x ix md rw → va_P D vwCl (cw ++ (rw ++ T)) H → va_D A (cw ++ (rw ++ T)) → va_S A s.heap H locs → lv_has ls 4 [(3, .int i), (2, .ref m0), (1, .ref o), (0, .ref b)] → W p l e room_1 s m #[Value.ref b] below meth c H locs C1 S1 (lw_Z below #[Value.ref b] s) (F0 m 1260 ls [])) : W p l e room_1 s m #[Value.ref b] below meth c H locs C S (lw_Z below #[Value.ref b] s) (F0 m 1214 ls []) := by
  obtain ⟨hx, hb, hr, hml, hown, hG, hlk⟩ := id F
  have hbA : ¬ A b := fun h => absurd (hAA b h) (Nat.not_le.mpr hbl)
  have j1 : (i + 1).toInt = i.toInt + 1 := k_addI rfl rfl (by decide) (by omega)
  have j2 : (i + 2).toInt = i.toInt + 2 := k_addI rfl rfl (by decide) (by omega)
  have j3 : (i + 3).toInt = i.toInt + 3 := k_addI rfl rfl (by decide) (by omega)
  have j4 : (i + 4).toInt = i.toInt + 4 := k_addI rfl rfl (by decide) (by omega)
  have j5 : (i + 5).toInt = i.toInt + 5 := k_addI rfl rfl (by decide) (by omega)
  by_cases hk : (xs (Int32.toNatClampNeg (i + 1))).toInt < 0 ∨ 3 < (xs (Int32.toNatClampNeg (i + 1))).toInt
  · refine lv_aload_n hx hb dL_law_1214 rfl (lv_at hl 2 rfl) ?_
    refine lv_aload_n hx hb dL_law_1215 rfl (lv_at hl 3 rfl) ?_
    refine lv_iload_n hx hb dL_law_1216 rfl (lv_at hl 0 rfl) ?_
    refine lv_iconst (v := 1) hx hb dL_law_1217 (by decide) ?_
    refine lv_iadd hx hb dL_law_1218 ?_
    refine va_sld hx hb hX hbl hbA hS (k_in (by omega)) dL_law_1219 ?_
    obtain ⟨fsu, hfsu⟩ := hcb.recv
    refine lwI (w := cw) (wr := rw ++ T) (TT := T) (As := [.int (xs (Int32.toNatClampNeg (i + 1)))]) (rest := []) F hE hP hD hS hA hl.1 (List.Perm.refl _) (fun q hq => List.mem_append_right _ hq) hZ (bx_imageN l D cy T kt vt o x ix md cw (xs (Int32.toNatClampNeg (i + 1))) hcb hk) q_m_L_155 mv_X11_image ⟨(Nat.le_of_ble_eq_true rfl), (Nat.le_of_ble_eq_true rfl)⟩ hfsu rfl rfl rfl rfl (Nat.le_of_ble_eq_true rfl) ⟨by show C + 0 ≤ 600000; omega, by show S + 0 ≤ 7302250; omega⟩ dL_law_1220 (fun r u H locs hu hP hD hS => ?_)
    refine lv_pop hx hb dL_law_1223 rfl ?_
    refine lv_aload_n hx hb dL_law_1224 rfl (lv_at hl 1 rfl) ?_
    refine lv_aload_n hx hb dL_law_1225 rfl (lv_at hl 3 rfl) ?_
    refine lv_iload_n hx hb dL_law_1226 rfl (lv_at hl 0 rfl) ?_
    refine lv_iconst (v := 1) hx hb dL_law_1227 (by decide) ?_
    refine lv_iadd hx hb dL_law_1228 ?_
    refine va_sld hx hb hX hbl hbA hS (k_in (by omega)) dL_law_1229 ?_
    obtain ⟨fsu2, hfsu2⟩ := hrb.recv
    refine lwI (w := rw) (wr := u ++ T) (TT := T) (As := [.int (xs (Int32.toNatClampNeg (i + 1)))]) (rest := []) F hE hP hD hS hA hl.1 (perm_of (fun c f h h1 h0 => by simp only [h] <;> ac_rfl)) (fun q hq => List.mem_append_right _ hq) hZ (rx_image l D cy T kt vt m0 x ix md rw (xs (Int32.toNatClampNeg (i + 1))) hrb) q_m_L_158 mv_X12_image ⟨(Nat.le_of_ble_eq_true rfl), (Nat.le_of_ble_eq_true rfl)⟩ hfsu2 rfl rfl rfl rfl (Nat.le_of_ble_eq_true rfl) ⟨by show C + 0 + 0 ≤ 600000; omega, by show S + 0 + 0 ≤ 7302250; omega⟩ dL_law_1230 (fun r2 u2 H locs hu2 hP hD hS => ?_)
    refine lv_pop hx hb dL_law_1233 rfl ?_
    refine lv_goto (tgt := 1260) hx hb dL_law_1234 (by decide) ?_
    rcases hu with ⟨q1, q2, q3⟩ | ⟨q1, q3⟩ <;> rcases hu2 with ⟨p1, p2, p3⟩ | ⟨p1, p3⟩
    · exact kk u u2 T x (upd ix (Int32.toNatClampNeg (xs (Int32.toNatClampNeg (i + 1)))) x) (upd md (Int32.toNatClampNeg (xs (Int32.toNatClampNeg (i + 1)))) 1) H locs ls _ _ (by omega) (by omega) q3 p3 (hP.perm (perm_of (fun c f h h1 h0 => by simp only [h] <;> ac_rfl))) (hD.perm (perm_of (fun c f h h1 h0 => by simp only [h] <;> ac_rfl))) hS hl
    · exact absurd q1 (by omega)
    · exact absurd p1 (by omega)
    · exact kk u u2 T x ix md H locs ls _ _ (by omega) (by omega) q3 p3 (hP.perm (perm_of (fun c f h h1 h0 => by simp only [h] <;> ac_rfl))) (hD.perm (perm_of (fun c f h h1 h0 => by simp only [h] <;> ac_rfl))) hS hl
  · refine lv_aload_n hx hb dL_law_1214 rfl (lv_at hl 2 rfl) ?_
    refine lv_aload_n hx hb dL_law_1215 rfl (lv_at hl 3 rfl) ?_
    refine lv_iload_n hx hb dL_law_1216 rfl (lv_at hl 0 rfl) ?_
    refine lv_iconst (v := 1) hx hb dL_law_1217 (by decide) ?_
    refine lv_iadd hx hb dL_law_1218 ?_
    refine va_sld hx hb hX hbl hbA hS (k_in (by omega)) dL_law_1219 ?_
    obtain ⟨fsu, hfsu⟩ := hcb.recv
    refine lwI (w := cw) (wr := rw ++ T) (TT := T) (As := [.int (xs (Int32.toNatClampNeg (i + 1)))]) (rest := []) F hE hP hD hS hA hl.1 (List.Perm.refl _) (fun q hq => List.mem_append_right _ hq) hZ (show JI l yX11_image cX11_image 2 (some .int) 3 82 D (kTY cy) [.ref o, .int (xs (Int32.toNatClampNeg (i + 1)))] cw (ZA D T kt vt) (S := va_W) (fun r u => (0 ≤ (xs (Int32.toNatClampNeg (i + 1))).toInt ∧ (xs (Int32.toNatClampNeg (i + 1))).toInt ≤ 3 ∧ LCB cy T o x (upd ix (Int32.toNatClampNeg (xs (Int32.toNatClampNeg (i + 1)))) x) (upd md (Int32.toNatClampNeg (xs (Int32.toNatClampNeg (i + 1)))) 1) u) ∨ (((xs (Int32.toNatClampNeg (i + 1))).toInt < 0 ∨ 3 < (xs (Int32.toNatClampNeg (i + 1))).toInt) ∧ LCB cy T o x ix md u)) (fun u => u) 0 0 from by
      rcases (show (xs (Int32.toNatClampNeg (i + 1))).toInt = 0 ∨ (xs (Int32.toNatClampNeg (i + 1))).toInt = 1 ∨ (xs (Int32.toNatClampNeg (i + 1))).toInt = 2 ∨ (xs (Int32.toNatClampNeg (i + 1))).toInt = 3 by omega) with hk | hk | hk | hk
      · exact bx_image0 l D cy T kt vt o x ix md cw (xs (Int32.toNatClampNeg (i + 1))) hcb hk
      · exact bx_image1 l D cy T kt vt o x ix md cw (xs (Int32.toNatClampNeg (i + 1))) hcb hk
      · exact bx_image2 l D cy T kt vt o x ix md cw (xs (Int32.toNatClampNeg (i + 1))) hcb hk
      · exact bx_image3 l D cy T kt vt o x ix md cw (xs (Int32.toNatClampNeg (i + 1))) hcb hk) q_m_L_155 mv_X11_image ⟨(Nat.le_of_ble_eq_true rfl), (Nat.le_of_ble_eq_true rfl)⟩ hfsu rfl rfl rfl rfl (Nat.le_of_ble_eq_true rfl) ⟨by show C + 0 ≤ 600000; omega, by show S + 0 ≤ 7302250; omega⟩ dL_law_1220 (fun r u H locs hu hP hD hS => ?_)
    refine lv_pop hx hb dL_law_1223 rfl ?_
    refine lv_aload_n hx hb dL_law_1224 rfl (lv_at hl 1 rfl) ?_
    refine lv_aload_n hx hb dL_law_1225 rfl (lv_at hl 3 rfl) ?_
    refine lv_iload_n hx hb dL_law_1226 rfl (lv_at hl 0 rfl) ?_
    refine lv_iconst (v := 1) hx hb dL_law_1227 (by decide) ?_
    refine lv_iadd hx hb dL_law_1228 ?_
    refine va_sld hx hb hX hbl hbA hS (k_in (by omega)) dL_law_1229 ?_
    obtain ⟨fsu2, hfsu2⟩ := hrb.recv
    refine lwI (w := rw) (wr := u ++ T) (TT := T) (As := [.int (xs (Int32.toNatClampNeg (i + 1)))]) (rest := []) F hE hP hD hS hA hl.1 (perm_of (fun c f h h1 h0 => by simp only [h] <;> ac_rfl)) (fun q hq => List.mem_append_right _ hq) hZ (rx_image l D cy T kt vt m0 x ix md rw (xs (Int32.toNatClampNeg (i + 1))) hrb) q_m_L_158 mv_X12_image ⟨(Nat.le_of_ble_eq_true rfl), (Nat.le_of_ble_eq_true rfl)⟩ hfsu2 rfl rfl rfl rfl (Nat.le_of_ble_eq_true rfl) ⟨by show C + 0 + 0 ≤ 600000; omega, by show S + 0 + 0 ≤ 7302250; omega⟩ dL_law_1230 (fun r2 u2 H locs hu2 hP hD hS => ?_)
    refine lv_pop hx hb dL_law_1233 rfl ?_
    refine lv_goto (tgt := 1260) hx hb dL_law_1234 (by decide) ?_
    rcases hu with ⟨q1, q2, q3⟩ | ⟨q1, q3⟩ <;> rcases hu2 with ⟨p1, p2, p3⟩ | ⟨p1, p3⟩
    · exact kk u u2 T x (upd ix (Int32.toNatClampNeg (xs (Int32.toNatClampNeg (i + 1)))) x) (upd md (Int32.toNatClampNeg (xs (Int32.toNatClampNeg (i + 1)))) 1) H locs ls _ _ (by omega) (by omega) q3 p3 (hP.perm (perm_of (fun c f h h1 h0 => by simp only [h] <;> ac_rfl))) (hD.perm (perm_of (fun c f h h1 h0 => by simp only [h] <;> ac_rfl))) hS hl
    · exact absurd q1 (by omega)
    · exact absurd p1 (by omega)
    · exact kk u u2 T x ix md H locs ls _ _ (by omega) (by omega) q3 p3 (hP.perm (perm_of (fun c f h h1 h0 => by simp only [h] <;> ac_rfl))) (hD.perm (perm_of (fun c f h h1 h0 => by simp only [h] <;> ac_rfl))) hS hl

set_option maxHeartbeats 4000000 in
set_option maxRecDepth 100000 in
theorem lc_back {p : Program} {l : Launch} {e : Env} {s : State} {m : MethodId} {below : List Frame} {meth : Method} {c : Code} {b L : Nat} {xs : Nat → Int32} {D : va_G} {cy : Nat → ClassId} {A : Nat → Prop} {kt vt : Nat} (F : kF p s m meth c code 4 ret #[Value.ref b] RL) (hE : kE D (kTY cy) s) (hX : va_X b L xs s s.heap) (hbl : b < s.heap.size) (hAA : ∀ q : Nat, A q → s.heap.size ≤ q) (hA : ∀ q : Nat, s.heap.size ≤ q → A q) (hZ : ZT kt vt A s s.heap) (hL : L ≤ 3072) (i : Int32) (hi0 : 0 ≤ i.toInt) (hi6 : i.toInt + 6 ≤ (L : Int)) (o m0 : Nat) {cw rw T : va_W} {x : Int32} {ix md : Nat → Int32} (hcb : LCB cy T o x ix md cw) (hrb : LRB cy m0 x ix md rw) {H : Heap} {locs : List Loc} (hP : va_P D vwCl (cw ++ (rw ++ T)) H) (hD : va_D A (cw ++ (rw ++ T))) (hS : va_S A s.heap H locs) {ls : Array Slot} (hl : lv_has ls 4 [(3, .int i), (2, .ref m0), (1, .ref o), (0, .ref b)]) {C S : Nat} (hC : C + 2 ≤ 600000) (hSl : S + 414 ≤ 7302250) (kk : ∀ (cw rw T : va_W) (x : Int32) (ix md : Nat → Int32) (H : Heap) (locs : List Loc) (ls : Array Slot) (C1 S1 : Nat), C1 ≤ C + 2 → S1 ≤ S + 414 → LCB cy T o x ix md cw → LRB cy m0 x ix md rw → va_P D vwCl (cw ++ (rw ++ T)) H → va_D A (cw ++ (rw ++ T)) → va_S A s.heap H locs → lv_has ls 4 [(3, .int i), (2, .ref m0), (1, .ref o), (0, .ref b)] → W p l e room_1 s m #[Value.ref b] below meth c H locs C1 S1 (lw_Z below #[Value.ref b] s) (F0 m 1260 ls [])) : W p l e room_1 s m #[Value.ref b] below meth c H locs C S (lw_Z below #[Value.ref b] s) (F0 m 1237 ls []) := by
  obtain ⟨hx, hb, hr, hml, hown, hG, hlk⟩ := id F
  have hbA : ¬ A b := fun h => absurd (hAA b h) (Nat.not_le.mpr hbl)
  have j1 : (i + 1).toInt = i.toInt + 1 := k_addI rfl rfl (by decide) (by omega)
  have j2 : (i + 2).toInt = i.toInt + 2 := k_addI rfl rfl (by decide) (by omega)
  have j3 : (i + 3).toInt = i.toInt + 3 := k_addI rfl rfl (by decide) (by omega)
  have j4 : (i + 4).toInt = i.toInt + 4 := k_addI rfl rfl (by decide) (by omega)
  have j5 : (i + 5).toInt = i.toInt + 5 := k_addI rfl rfl (by decide) (by omega)
  by_cases hk : (xs (Int32.toNatClampNeg (i + 1))).toInt < 0 ∨ 3 < (xs (Int32.toNatClampNeg (i + 1))).toInt
  · refine lv_aload_n hx hb dL_law_1237 rfl (lv_at hl 2 rfl) ?_
    refine lv_aload_n hx hb dL_law_1238 rfl (lv_at hl 3 rfl) ?_
    refine lv_iload_n hx hb dL_law_1239 rfl (lv_at hl 0 rfl) ?_
    refine lv_iconst (v := 1) hx hb dL_law_1240 (by decide) ?_
    refine lv_iadd hx hb dL_law_1241 ?_
    refine va_sld hx hb hX hbl hbA hS (k_in (by omega)) dL_law_1242 ?_
    obtain ⟨fsu, hfsu⟩ := hcb.recv
    refine lwI (w := cw) (wr := rw ++ T) (TT := T) (As := [.int (xs (Int32.toNatClampNeg (i + 1)))]) (rest := []) F hE hP hD hS hA hl.1 (List.Perm.refl _) (fun q hq => List.mem_append_right _ hq) hZ (bx_backN l D cy T kt vt o x ix md cw (xs (Int32.toNatClampNeg (i + 1))) hcb hk) q_m_L_159 mv_X11_back ⟨(Nat.le_of_ble_eq_true rfl), (Nat.le_of_ble_eq_true rfl)⟩ hfsu rfl rfl rfl rfl (Nat.le_of_ble_eq_true rfl) ⟨by show C + 0 ≤ 600000; omega, by show S + 0 ≤ 7302250; omega⟩ dL_law_1243 (fun r u H locs hu hP hD hS => ?_)
    refine lv_pop hx hb dL_law_1246 rfl ?_
    refine lv_aload_n hx hb dL_law_1247 rfl (lv_at hl 1 rfl) ?_
    refine lv_aload_n hx hb dL_law_1248 rfl (lv_at hl 3 rfl) ?_
    refine lv_iload_n hx hb dL_law_1249 rfl (lv_at hl 0 rfl) ?_
    refine lv_iconst (v := 1) hx hb dL_law_1250 (by decide) ?_
    refine lv_iadd hx hb dL_law_1251 ?_
    refine va_sld hx hb hX hbl hbA hS (k_in (by omega)) dL_law_1252 ?_
    obtain ⟨fsu2, hfsu2⟩ := hrb.recv
    refine lwI (w := rw) (wr := u ++ T) (TT := T) (As := [.int (xs (Int32.toNatClampNeg (i + 1)))]) (rest := []) F hE hP hD hS hA hl.1 (perm_of (fun c f h h1 h0 => by simp only [h] <;> ac_rfl)) (fun q hq => List.mem_append_right _ hq) hZ (rx_back l D cy T kt vt m0 x ix md rw (xs (Int32.toNatClampNeg (i + 1))) hrb) q_m_L_162 mv_X12_back ⟨(Nat.le_of_ble_eq_true rfl), (Nat.le_of_ble_eq_true rfl)⟩ hfsu2 rfl rfl rfl rfl (Nat.le_of_ble_eq_true rfl) ⟨by show C + 0 + 0 ≤ 600000; omega, by show S + 0 + 0 ≤ 7302250; omega⟩ dL_law_1253 (fun r2 u2 H locs hu2 hP hD hS => ?_)
    refine lv_pop hx hb dL_law_1256 rfl ?_
    refine lv_goto (tgt := 1260) hx hb dL_law_1257 (by decide) ?_
    rcases hu with ⟨q1, q2, q3, q4⟩ | ⟨q1, q4⟩ <;> rcases hu2 with ⟨p1, p2, p3, p4⟩ | ⟨p1, p4⟩
    · exact kk u u2 T (ix (Int32.toNatClampNeg (xs (Int32.toNatClampNeg (i + 1))))) ix md H locs ls _ _ (by omega) (by omega) q4 p4 (hP.perm (perm_of (fun c f h h1 h0 => by simp only [h] <;> ac_rfl))) (hD.perm (perm_of (fun c f h h1 h0 => by simp only [h] <;> ac_rfl))) hS hl
    · exact absurd q3 (by omega)
    · exact absurd p3 (by omega)
    · exact kk u u2 T x ix md H locs ls _ _ (by omega) (by omega) q4 p4 (hP.perm (perm_of (fun c f h h1 h0 => by simp only [h] <;> ac_rfl))) (hD.perm (perm_of (fun c f h h1 h0 => by simp only [h] <;> ac_rfl))) hS hl
  · refine lv_aload_n hx hb dL_law_1237 rfl (lv_at hl 2 rfl) ?_
    refine lv_aload_n hx hb dL_law_1238 rfl (lv_at hl 3 rfl) ?_
    refine lv_iload_n hx hb dL_law_1239 rfl (lv_at hl 0 rfl) ?_
    refine lv_iconst (v := 1) hx hb dL_law_1240 (by decide) ?_
    refine lv_iadd hx hb dL_law_1241 ?_
    refine va_sld hx hb hX hbl hbA hS (k_in (by omega)) dL_law_1242 ?_
    obtain ⟨fsu, hfsu⟩ := hcb.recv
    refine lwI (w := cw) (wr := rw ++ T) (TT := T) (As := [.int (xs (Int32.toNatClampNeg (i + 1)))]) (rest := []) F hE hP hD hS hA hl.1 (List.Perm.refl _) (fun q hq => List.mem_append_right _ hq) hZ (show JI l yX11_back cX11_back 2 (some .int) 3 82 D (kTY cy) [.ref o, .int (xs (Int32.toNatClampNeg (i + 1)))] cw (ZA D T kt vt) (S := va_W) (fun r u => (0 ≤ (xs (Int32.toNatClampNeg (i + 1))).toInt ∧ (xs (Int32.toNatClampNeg (i + 1))).toInt ≤ 3 ∧ (md (Int32.toNatClampNeg (xs (Int32.toNatClampNeg (i + 1))))).toInt ≠ 0 ∧ LCB cy T o (ix (Int32.toNatClampNeg (xs (Int32.toNatClampNeg (i + 1))))) ix md u) ∨ ((((xs (Int32.toNatClampNeg (i + 1))).toInt < 0 ∨ 3 < (xs (Int32.toNatClampNeg (i + 1))).toInt) ∨ (0 ≤ (xs (Int32.toNatClampNeg (i + 1))).toInt ∧ (xs (Int32.toNatClampNeg (i + 1))).toInt ≤ 3 ∧ (md (Int32.toNatClampNeg (xs (Int32.toNatClampNeg (i + 1))))).toInt = 0)) ∧ LCB cy T o x ix md u)) (fun u => u) 0 0 from by
      rcases (show (xs (Int32.toNatClampNeg (i + 1))).toInt = 0 ∨ (xs (Int32.toNatClampNeg (i + 1))).toInt = 1 ∨ (xs (Int32.toNatClampNeg (i + 1))).toInt = 2 ∨ (xs (Int32.toNatClampNeg (i + 1))).toInt = 3 by omega) with hk | hk | hk | hk
      · exact bx_back0 l D cy T kt vt o x ix md cw (xs (Int32.toNatClampNeg (i + 1))) hcb hk
      · exact bx_back1 l D cy T kt vt o x ix md cw (xs (Int32.toNatClampNeg (i + 1))) hcb hk
      · exact bx_back2 l D cy T kt vt o x ix md cw (xs (Int32.toNatClampNeg (i + 1))) hcb hk
      · exact bx_back3 l D cy T kt vt o x ix md cw (xs (Int32.toNatClampNeg (i + 1))) hcb hk) q_m_L_159 mv_X11_back ⟨(Nat.le_of_ble_eq_true rfl), (Nat.le_of_ble_eq_true rfl)⟩ hfsu rfl rfl rfl rfl (Nat.le_of_ble_eq_true rfl) ⟨by show C + 0 ≤ 600000; omega, by show S + 0 ≤ 7302250; omega⟩ dL_law_1243 (fun r u H locs hu hP hD hS => ?_)
    refine lv_pop hx hb dL_law_1246 rfl ?_
    refine lv_aload_n hx hb dL_law_1247 rfl (lv_at hl 1 rfl) ?_
    refine lv_aload_n hx hb dL_law_1248 rfl (lv_at hl 3 rfl) ?_
    refine lv_iload_n hx hb dL_law_1249 rfl (lv_at hl 0 rfl) ?_
    refine lv_iconst (v := 1) hx hb dL_law_1250 (by decide) ?_
    refine lv_iadd hx hb dL_law_1251 ?_
    refine va_sld hx hb hX hbl hbA hS (k_in (by omega)) dL_law_1252 ?_
    obtain ⟨fsu2, hfsu2⟩ := hrb.recv
    refine lwI (w := rw) (wr := u ++ T) (TT := T) (As := [.int (xs (Int32.toNatClampNeg (i + 1)))]) (rest := []) F hE hP hD hS hA hl.1 (perm_of (fun c f h h1 h0 => by simp only [h] <;> ac_rfl)) (fun q hq => List.mem_append_right _ hq) hZ (rx_back l D cy T kt vt m0 x ix md rw (xs (Int32.toNatClampNeg (i + 1))) hrb) q_m_L_162 mv_X12_back ⟨(Nat.le_of_ble_eq_true rfl), (Nat.le_of_ble_eq_true rfl)⟩ hfsu2 rfl rfl rfl rfl (Nat.le_of_ble_eq_true rfl) ⟨by show C + 0 + 0 ≤ 600000; omega, by show S + 0 + 0 ≤ 7302250; omega⟩ dL_law_1253 (fun r2 u2 H locs hu2 hP hD hS => ?_)
    refine lv_pop hx hb dL_law_1256 rfl ?_
    refine lv_goto (tgt := 1260) hx hb dL_law_1257 (by decide) ?_
    rcases hu with ⟨q1, q2, q3, q4⟩ | ⟨q1, q4⟩ <;> rcases hu2 with ⟨p1, p2, p3, p4⟩ | ⟨p1, p4⟩
    · exact kk u u2 T (ix (Int32.toNatClampNeg (xs (Int32.toNatClampNeg (i + 1))))) ix md H locs ls _ _ (by omega) (by omega) q4 p4 (hP.perm (perm_of (fun c f h h1 h0 => by simp only [h] <;> ac_rfl))) (hD.perm (perm_of (fun c f h h1 h0 => by simp only [h] <;> ac_rfl))) hS hl
    · exact absurd q3 (by omega)
    · exact absurd p3 (by omega)
    · exact kk u u2 T x ix md H locs ls _ _ (by omega) (by omega) q4 p4 (hP.perm (perm_of (fun c f h h1 h0 => by simp only [h] <;> ac_rfl))) (hD.perm (perm_of (fun c f h h1 h0 => by simp only [h] <;> ac_rfl))) hS hl
