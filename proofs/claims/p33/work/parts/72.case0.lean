set_option maxHeartbeats 4000000 in
set_option maxRecDepth 100000 in
theorem lc_feed {p : Program} {l : Launch} {e : Env} {s : State} {m : MethodId} {below : List Frame} {meth : Method} {c : Code} {b L : Nat} {xs : Nat → Int32} {D : va_G} {cy : Nat → ClassId} {A : Nat → Prop} {kt vt : Nat} (F : kF p s m meth c code 4 ret #[Value.ref b] RL) (hE : kE D (kTY cy) s) (hX : va_X b L xs s s.heap) (hbl : b < s.heap.size) (hAA : ∀ q : Nat, A q → s.heap.size ≤ q) (hA : ∀ q : Nat, s.heap.size ≤ q → A q) (hZ : ZT kt vt A s s.heap) (hL : L ≤ 3072) (i : Int32) (hi0 : 0 ≤ i.toInt) (hi6 : i.toInt + 6 ≤ (L : Int)) (o m0 : Nat) {cw rw T : va_W} {x : Int32} {ix md : Nat → Int32} (hcb : LCB cy T o x ix md cw) (hrb : LRB cy m0 x ix md rw) {H : Heap} {locs : List Loc} (hP : va_P D vwCl (cw ++ (rw ++ T)) H) (hD : va_D A (cw ++ (rw ++ T))) (hS : va_S A s.heap H locs) {ls : Array Slot} (hl : lv_has ls 4 [(3, .int i), (2, .ref m0), (1, .ref o), (0, .ref b)]) {C S : Nat} (hC : C + 2 ≤ 600000) (hSl : S + 414 ≤ 7302250) (kk : ∀ (cw rw T : va_W) (x : Int32) (ix md : Nat → Int32) (H : Heap) (locs : List Loc) (ls : Array Slot) (C1 S1 : Nat), C1 ≤ C + 2 → S1 ≤ S + 414 → LCB cy T o x ix md cw → LRB cy m0 x ix md rw → va_P D vwCl (cw ++ (rw ++ T)) H → va_D A (cw ++ (rw ++ T)) → va_S A s.heap H locs → lv_has ls 4 [(3, .int i), (2, .ref m0), (1, .ref o), (0, .ref b)] → W p l e room_1 s m #[Value.ref b] below meth c H locs C1 S1 (lw_Z below #[Value.ref b] s) (F0 m 1260 ls [])) : W p l e room_1 s m #[Value.ref b] below meth c H locs C S (lw_Z below #[Value.ref b] s) (F0 m 192 ls []) := by
  obtain ⟨hx, hb, hr, hml, hown, hG, hlk⟩ := id F
  have hbA : ¬ A b := fun h => absurd (hAA b h) (Nat.not_le.mpr hbl)
  have j1 : (i + 1).toInt = i.toInt + 1 := k_addI rfl rfl (by decide) (by omega)
  have j2 : (i + 2).toInt = i.toInt + 2 := k_addI rfl rfl (by decide) (by omega)
  have j3 : (i + 3).toInt = i.toInt + 3 := k_addI rfl rfl (by decide) (by omega)
  have j4 : (i + 4).toInt = i.toInt + 4 := k_addI rfl rfl (by decide) (by omega)
  have j5 : (i + 5).toInt = i.toInt + 5 := k_addI rfl rfl (by decide) (by omega)
  refine lv_aload_n hx hb dL_law_192 rfl (lv_at hl 2 rfl) ?_
  refine lv_aload_n hx hb dL_law_193 rfl (lv_at hl 3 rfl) ?_
  refine lv_iload_n hx hb dL_law_194 rfl (lv_at hl 0 rfl) ?_
  refine lv_iconst (v := 1) hx hb dL_law_195 (by decide) ?_
  refine lv_iadd hx hb dL_law_196 ?_
  refine va_sld hx hb hX hbl hbA hS (k_in (by omega)) dL_law_197 ?_
  refine lv_aload_n hx hb dL_law_198 rfl (lv_at hl 3 rfl) ?_
  refine lv_iload_n hx hb dL_law_199 rfl (lv_at hl 0 rfl) ?_
  refine lv_iconst (v := 2) hx hb dL_law_200 (by decide) ?_
  refine lv_iadd hx hb dL_law_201 ?_
  refine va_sld hx hb hX hbl hbA hS (k_in (by omega)) dL_law_202 ?_
  refine lv_aload_n hx hb dL_law_203 rfl (lv_at hl 3 rfl) ?_
  refine lv_iload_n hx hb dL_law_204 rfl (lv_at hl 0 rfl) ?_
  refine lv_iconst (v := 3) hx hb dL_law_205 (by decide) ?_
  refine lv_iadd hx hb dL_law_206 ?_
  refine va_sld hx hb hX hbl hbA hS (k_in (by omega)) dL_law_207 ?_
  refine lv_aload_n hx hb dL_law_208 rfl (lv_at hl 3 rfl) ?_
  refine lv_iload_n hx hb dL_law_209 rfl (lv_at hl 0 rfl) ?_
  refine lv_iconst (v := 4) hx hb dL_law_210 (by decide) ?_
  refine lv_iadd hx hb dL_law_211 ?_
  refine va_sld hx hb hX hbl hbA hS (k_in (by omega)) dL_law_212 ?_
  refine lv_aload_n hx hb dL_law_213 rfl (lv_at hl 3 rfl) ?_
  refine lv_iload_n hx hb dL_law_214 rfl (lv_at hl 0 rfl) ?_
  refine lv_iconst (v := 5) hx hb dL_law_215 (by decide) ?_
  refine lv_iadd hx hb dL_law_216 ?_
  refine va_sld hx hb hX hbl hbA hS (k_in (by omega)) dL_law_217 ?_
  obtain ⟨fsu, hfsu⟩ := hcb.recv
  refine lwI (w := cw) (wr := rw ++ T) (TT := T) (As := [.int (xs (Int32.toNatClampNeg (i + 1))), .int (xs (Int32.toNatClampNeg (i + 2))), .int (xs (Int32.toNatClampNeg (i + 3))), .int (xs (Int32.toNatClampNeg (i + 4))), .int (xs (Int32.toNatClampNeg (i + 5)))]) (rest := []) F hE hP hD hS hA hl.1 (List.Perm.refl _) (fun q hq => List.mem_append_right _ hq) hZ (bx_feed l D cy T kt vt o x ix md cw (xs (Int32.toNatClampNeg (i + 1))) (xs (Int32.toNatClampNeg (i + 2))) (xs (Int32.toNatClampNeg (i + 3))) (xs (Int32.toNatClampNeg (i + 4))) (xs (Int32.toNatClampNeg (i + 5))) hcb) q_m_L_13 mv_X11_feed ⟨(Nat.le_of_ble_eq_true rfl), (Nat.le_of_ble_eq_true rfl)⟩ hfsu rfl rfl rfl rfl (Nat.le_of_ble_eq_true rfl) ⟨by show C + 0 ≤ 600000; omega, by show S + 0 ≤ 7302250; omega⟩ dL_law_218 (fun r u H locs hu hP hD hS => ?_)
  refine lv_pop hx hb dL_law_221 rfl ?_
  refine lv_aload_n hx hb dL_law_222 rfl (lv_at hl 1 rfl) ?_
  refine lv_aload_n hx hb dL_law_223 rfl (lv_at hl 3 rfl) ?_
  refine lv_iload_n hx hb dL_law_224 rfl (lv_at hl 0 rfl) ?_
  refine lv_iconst (v := 1) hx hb dL_law_225 (by decide) ?_
  refine lv_iadd hx hb dL_law_226 ?_
  refine va_sld hx hb hX hbl hbA hS (k_in (by omega)) dL_law_227 ?_
  refine lv_aload_n hx hb dL_law_228 rfl (lv_at hl 3 rfl) ?_
  refine lv_iload_n hx hb dL_law_229 rfl (lv_at hl 0 rfl) ?_
  refine lv_iconst (v := 2) hx hb dL_law_230 (by decide) ?_
  refine lv_iadd hx hb dL_law_231 ?_
  refine va_sld hx hb hX hbl hbA hS (k_in (by omega)) dL_law_232 ?_
  refine lv_aload_n hx hb dL_law_233 rfl (lv_at hl 3 rfl) ?_
  refine lv_iload_n hx hb dL_law_234 rfl (lv_at hl 0 rfl) ?_
  refine lv_iconst (v := 3) hx hb dL_law_235 (by decide) ?_
  refine lv_iadd hx hb dL_law_236 ?_
  refine va_sld hx hb hX hbl hbA hS (k_in (by omega)) dL_law_237 ?_
  refine lv_aload_n hx hb dL_law_238 rfl (lv_at hl 3 rfl) ?_
  refine lv_iload_n hx hb dL_law_239 rfl (lv_at hl 0 rfl) ?_
  refine lv_iconst (v := 4) hx hb dL_law_240 (by decide) ?_
  refine lv_iadd hx hb dL_law_241 ?_
  refine va_sld hx hb hX hbl hbA hS (k_in (by omega)) dL_law_242 ?_
  refine lv_aload_n hx hb dL_law_243 rfl (lv_at hl 3 rfl) ?_
  refine lv_iload_n hx hb dL_law_244 rfl (lv_at hl 0 rfl) ?_
  refine lv_iconst (v := 5) hx hb dL_law_245 (by decide) ?_
  refine lv_iadd hx hb dL_law_246 ?_
  refine va_sld hx hb hX hbl hbA hS (k_in (by omega)) dL_law_247 ?_
  obtain ⟨fsu2, hfsu2⟩ := hrb.recv
  refine lwI (w := rw) (wr := u ++ T) (TT := T) (As := [.int (xs (Int32.toNatClampNeg (i + 1))), .int (xs (Int32.toNatClampNeg (i + 2))), .int (xs (Int32.toNatClampNeg (i + 3))), .int (xs (Int32.toNatClampNeg (i + 4))), .int (xs (Int32.toNatClampNeg (i + 5)))]) (rest := []) F hE hP hD hS hA hl.1 (perm_of (fun c f h h1 h0 => by simp only [h] <;> ac_rfl)) (fun q hq => List.mem_append_right _ hq) hZ (rx_feed l D cy T kt vt m0 x ix md rw (xs (Int32.toNatClampNeg (i + 1))) (xs (Int32.toNatClampNeg (i + 2))) (xs (Int32.toNatClampNeg (i + 3))) (xs (Int32.toNatClampNeg (i + 4))) (xs (Int32.toNatClampNeg (i + 5))) hrb) q_m_L_17 mv_X12_feed ⟨(Nat.le_of_ble_eq_true rfl), (Nat.le_of_ble_eq_true rfl)⟩ hfsu2 rfl rfl rfl rfl (Nat.le_of_ble_eq_true rfl) ⟨by show C + 0 + 0 ≤ 600000; omega, by show S + 0 + 0 ≤ 7302250; omega⟩ dL_law_248 (fun r2 u2 H locs hu2 hP hD hS => ?_)
  refine lv_pop hx hb dL_law_251 rfl ?_
  refine lv_goto (tgt := 1260) hx hb dL_law_252 (by decide) ?_
  exact kk u u2 T x ix md H locs ls _ _ (by omega) (by omega) hu hu2 (hP.perm (perm_of (fun c f h h1 h0 => by simp only [h] <;> ac_rfl))) (hD.perm (perm_of (fun c f h h1 h0 => by simp only [h] <;> ac_rfl))) hS hl

set_option maxHeartbeats 4000000 in
set_option maxRecDepth 100000 in
theorem lc_end {p : Program} {l : Launch} {e : Env} {s : State} {m : MethodId} {below : List Frame} {meth : Method} {c : Code} {b L : Nat} {xs : Nat → Int32} {D : va_G} {cy : Nat → ClassId} {A : Nat → Prop} {kt vt : Nat} (F : kF p s m meth c code 4 ret #[Value.ref b] RL) (hE : kE D (kTY cy) s) (hX : va_X b L xs s s.heap) (hbl : b < s.heap.size) (hAA : ∀ q : Nat, A q → s.heap.size ≤ q) (hA : ∀ q : Nat, s.heap.size ≤ q → A q) (hZ : ZT kt vt A s s.heap) (hL : L ≤ 3072) (i : Int32) (hi0 : 0 ≤ i.toInt) (hi6 : i.toInt + 6 ≤ (L : Int)) (o m0 : Nat) {cw rw T : va_W} {x : Int32} {ix md : Nat → Int32} (hcb : LCB cy T o x ix md cw) (hrb : LRB cy m0 x ix md rw) {H : Heap} {locs : List Loc} (hP : va_P D vwCl (cw ++ (rw ++ T)) H) (hD : va_D A (cw ++ (rw ++ T))) (hS : va_S A s.heap H locs) {ls : Array Slot} (hl : lv_has ls 4 [(3, .int i), (2, .ref m0), (1, .ref o), (0, .ref b)]) {C S : Nat} (hC : C + 2 ≤ 600000) (hSl : S + 414 ≤ 7302250) (kk : ∀ (cw rw T : va_W) (x : Int32) (ix md : Nat → Int32) (H : Heap) (locs : List Loc) (ls : Array Slot) (C1 S1 : Nat), C1 ≤ C + 2 → S1 ≤ S + 414 → LCB cy T o x ix md cw → LRB cy m0 x ix md rw → va_P D vwCl (cw ++ (rw ++ T)) H → va_D A (cw ++ (rw ++ T)) → va_S A s.heap H locs → lv_has ls 4 [(3, .int i), (2, .ref m0), (1, .ref o), (0, .ref b)] → W p l e room_1 s m #[Value.ref b] below meth c H locs C1 S1 (lw_Z below #[Value.ref b] s) (F0 m 1260 ls [])) : W p l e room_1 s m #[Value.ref b] below meth c H locs C S (lw_Z below #[Value.ref b] s) (F0 m 255 ls []) := by
  obtain ⟨hx, hb, hr, hml, hown, hG, hlk⟩ := id F
  have hbA : ¬ A b := fun h => absurd (hAA b h) (Nat.not_le.mpr hbl)
  have j1 : (i + 1).toInt = i.toInt + 1 := k_addI rfl rfl (by decide) (by omega)
  have j2 : (i + 2).toInt = i.toInt + 2 := k_addI rfl rfl (by decide) (by omega)
  have j3 : (i + 3).toInt = i.toInt + 3 := k_addI rfl rfl (by decide) (by omega)
  have j4 : (i + 4).toInt = i.toInt + 4 := k_addI rfl rfl (by decide) (by omega)
  have j5 : (i + 5).toInt = i.toInt + 5 := k_addI rfl rfl (by decide) (by omega)
  refine lv_aload_n hx hb dL_law_255 rfl (lv_at hl 2 rfl) ?_
  refine lv_aload_n hx hb dL_law_256 rfl (lv_at hl 3 rfl) ?_
  refine lv_iload_n hx hb dL_law_257 rfl (lv_at hl 0 rfl) ?_
  refine lv_iconst (v := 1) hx hb dL_law_258 (by decide) ?_
  refine lv_iadd hx hb dL_law_259 ?_
  refine va_sld hx hb hX hbl hbA hS (k_in (by omega)) dL_law_260 ?_
  obtain ⟨fsu, hfsu⟩ := hcb.recv
  refine lwI (w := cw) (wr := rw ++ T) (TT := T) (As := [.int (xs (Int32.toNatClampNeg (i + 1)))]) (rest := []) F hE hP hD hS hA hl.1 (List.Perm.refl _) (fun q hq => List.mem_append_right _ hq) hZ (bx_end l D cy T kt vt o x ix md cw (xs (Int32.toNatClampNeg (i + 1))) hcb) q_m_L_18 mv_X11_end ⟨(Nat.le_of_ble_eq_true rfl), (Nat.le_of_ble_eq_true rfl)⟩ hfsu rfl rfl rfl rfl (Nat.le_of_ble_eq_true rfl) ⟨by show C + 0 ≤ 600000; omega, by show S + 0 ≤ 7302250; omega⟩ dL_law_261 (fun r u H locs hu hP hD hS => ?_)
  refine lv_pop hx hb dL_law_264 rfl ?_
  refine lv_aload_n hx hb dL_law_265 rfl (lv_at hl 1 rfl) ?_
  refine lv_aload_n hx hb dL_law_266 rfl (lv_at hl 3 rfl) ?_
  refine lv_iload_n hx hb dL_law_267 rfl (lv_at hl 0 rfl) ?_
  refine lv_iconst (v := 1) hx hb dL_law_268 (by decide) ?_
  refine lv_iadd hx hb dL_law_269 ?_
  refine va_sld hx hb hX hbl hbA hS (k_in (by omega)) dL_law_270 ?_
  obtain ⟨fsu2, hfsu2⟩ := hrb.recv
  refine lwI (w := rw) (wr := u ++ T) (TT := T) (As := [.int (xs (Int32.toNatClampNeg (i + 1)))]) (rest := []) F hE hP hD hS hA hl.1 (perm_of (fun c f h h1 h0 => by simp only [h] <;> ac_rfl)) (fun q hq => List.mem_append_right _ hq) hZ (rx_end l D cy T kt vt m0 x ix md rw (xs (Int32.toNatClampNeg (i + 1))) hrb) q_m_L_22 mv_X12_end ⟨(Nat.le_of_ble_eq_true rfl), (Nat.le_of_ble_eq_true rfl)⟩ hfsu2 rfl rfl rfl rfl (Nat.le_of_ble_eq_true rfl) ⟨by show C + 0 + 0 ≤ 600000; omega, by show S + 0 + 0 ≤ 7302250; omega⟩ dL_law_271 (fun r2 u2 H locs hu2 hP hD hS => ?_)
  refine lv_pop hx hb dL_law_274 rfl ?_
  refine lv_goto (tgt := 1260) hx hb dL_law_275 (by decide) ?_
  exact kk u u2 T x ix md H locs ls _ _ (by omega) (by omega) hu hu2 (hP.perm (perm_of (fun c f h h1 h0 => by simp only [h] <;> ac_rfl))) (hD.perm (perm_of (fun c f h h1 h0 => by simp only [h] <;> ac_rfl))) hS hl

set_option maxHeartbeats 4000000 in
set_option maxRecDepth 100000 in
theorem lc_green {p : Program} {l : Launch} {e : Env} {s : State} {m : MethodId} {below : List Frame} {meth : Method} {c : Code} {b L : Nat} {xs : Nat → Int32} {D : va_G} {cy : Nat → ClassId} {A : Nat → Prop} {kt vt : Nat} (F : kF p s m meth c code 4 ret #[Value.ref b] RL) (hE : kE D (kTY cy) s) (hX : va_X b L xs s s.heap) (hbl : b < s.heap.size) (hAA : ∀ q : Nat, A q → s.heap.size ≤ q) (hA : ∀ q : Nat, s.heap.size ≤ q → A q) (hZ : ZT kt vt A s s.heap) (hL : L ≤ 3072) (i : Int32) (hi0 : 0 ≤ i.toInt) (hi6 : i.toInt + 6 ≤ (L : Int)) (o m0 : Nat) {cw rw T : va_W} {x : Int32} {ix md : Nat → Int32} (hcb : LCB cy T o x ix md cw) (hrb : LRB cy m0 x ix md rw) {H : Heap} {locs : List Loc} (hP : va_P D vwCl (cw ++ (rw ++ T)) H) (hD : va_D A (cw ++ (rw ++ T))) (hS : va_S A s.heap H locs) {ls : Array Slot} (hl : lv_has ls 4 [(3, .int i), (2, .ref m0), (1, .ref o), (0, .ref b)]) {C S : Nat} (hC : C + 2 ≤ 600000) (hSl : S + 414 ≤ 7302250) (kk : ∀ (cw rw T : va_W) (x : Int32) (ix md : Nat → Int32) (H : Heap) (locs : List Loc) (ls : Array Slot) (C1 S1 : Nat), C1 ≤ C + 2 → S1 ≤ S + 414 → LCB cy T o x ix md cw → LRB cy m0 x ix md rw → va_P D vwCl (cw ++ (rw ++ T)) H → va_D A (cw ++ (rw ++ T)) → va_S A s.heap H locs → lv_has ls 4 [(3, .int i), (2, .ref m0), (1, .ref o), (0, .ref b)] → W p l e room_1 s m #[Value.ref b] below meth c H locs C1 S1 (lw_Z below #[Value.ref b] s) (F0 m 1260 ls [])) : W p l e room_1 s m #[Value.ref b] below meth c H locs C S (lw_Z below #[Value.ref b] s) (F0 m 278 ls []) := by
  obtain ⟨hx, hb, hr, hml, hown, hG, hlk⟩ := id F
  have hbA : ¬ A b := fun h => absurd (hAA b h) (Nat.not_le.mpr hbl)
  have j1 : (i + 1).toInt = i.toInt + 1 := k_addI rfl rfl (by decide) (by omega)
  have j2 : (i + 2).toInt = i.toInt + 2 := k_addI rfl rfl (by decide) (by omega)
  have j3 : (i + 3).toInt = i.toInt + 3 := k_addI rfl rfl (by decide) (by omega)
  have j4 : (i + 4).toInt = i.toInt + 4 := k_addI rfl rfl (by decide) (by omega)
  have j5 : (i + 5).toInt = i.toInt + 5 := k_addI rfl rfl (by decide) (by omega)
  refine lv_aload_n hx hb dL_law_278 rfl (lv_at hl 2 rfl) ?_
  obtain ⟨fsu, hfsu⟩ := hcb.recv
  refine lwI (w := cw) (wr := rw ++ T) (TT := T) (As := []) (rest := []) F hE hP hD hS hA hl.1 (List.Perm.refl _) (fun q hq => List.mem_append_right _ hq) hZ (bx_green l D cy T kt vt o x ix md cw  hcb) q_m_L_23 mv_X11_green ⟨(Nat.le_of_ble_eq_true rfl), (Nat.le_of_ble_eq_true rfl)⟩ hfsu rfl rfl rfl rfl (Nat.le_of_ble_eq_true rfl) ⟨by show C + 0 ≤ 600000; omega, by show S + 0 ≤ 7302250; omega⟩ dL_law_279 (fun r u H locs hu hP hD hS => ?_)
  refine lv_pop hx hb dL_law_282 rfl ?_
  refine lv_aload_n hx hb dL_law_283 rfl (lv_at hl 1 rfl) ?_
  obtain ⟨fsu2, hfsu2⟩ := hrb.recv
  refine lwI (w := rw) (wr := u ++ T) (TT := T) (As := []) (rest := []) F hE hP hD hS hA hl.1 (perm_of (fun c f h h1 h0 => by simp only [h] <;> ac_rfl)) (fun q hq => List.mem_append_right _ hq) hZ (rx_green l D cy T kt vt m0 x ix md rw  hrb) q_m_L_27 mv_X12_green ⟨(Nat.le_of_ble_eq_true rfl), (Nat.le_of_ble_eq_true rfl)⟩ hfsu2 rfl rfl rfl rfl (Nat.le_of_ble_eq_true rfl) ⟨by show C + 0 + 0 ≤ 600000; omega, by show S + 0 + 0 ≤ 7302250; omega⟩ dL_law_284 (fun r2 u2 H locs hu2 hP hD hS => ?_)
  refine lv_pop hx hb dL_law_287 rfl ?_
  refine lv_goto (tgt := 1260) hx hb dL_law_288 (by decide) ?_
  exact kk u u2 T x ix md H locs ls _ _ (by omega) (by omega) hu hu2 (hP.perm (perm_of (fun c f h h1 h0 => by simp only [h] <;> ac_rfl))) (hD.perm (perm_of (fun c f h h1 h0 => by simp only [h] <;> ac_rfl))) hS hl

set_option maxHeartbeats 4000000 in
set_option maxRecDepth 100000 in
theorem lc_rule {p : Program} {l : Launch} {e : Env} {s : State} {m : MethodId} {below : List Frame} {meth : Method} {c : Code} {b L : Nat} {xs : Nat → Int32} {D : va_G} {cy : Nat → ClassId} {A : Nat → Prop} {kt vt : Nat} (F : kF p s m meth c code 4 ret #[Value.ref b] RL) (hE : kE D (kTY cy) s) (hX : va_X b L xs s s.heap) (hbl : b < s.heap.size) (hAA : ∀ q : Nat, A q → s.heap.size ≤ q) (hA : ∀ q : Nat, s.heap.size ≤ q → A q) (hZ : ZT kt vt A s s.heap) (hL : L ≤ 3072) (i : Int32) (hi0 : 0 ≤ i.toInt) (hi6 : i.toInt + 6 ≤ (L : Int)) (o m0 : Nat) {cw rw T : va_W} {x : Int32} {ix md : Nat → Int32} (hcb : LCB cy T o x ix md cw) (hrb : LRB cy m0 x ix md rw) {H : Heap} {locs : List Loc} (hP : va_P D vwCl (cw ++ (rw ++ T)) H) (hD : va_D A (cw ++ (rw ++ T))) (hS : va_S A s.heap H locs) {ls : Array Slot} (hl : lv_has ls 4 [(3, .int i), (2, .ref m0), (1, .ref o), (0, .ref b)]) {C S : Nat} (hC : C + 2 ≤ 600000) (hSl : S + 414 ≤ 7302250) (kk : ∀ (cw rw T : va_W) (x : Int32) (ix md : Nat → Int32) (H : Heap) (locs : List Loc) (ls : Array Slot) (C1 S1 : Nat), C1 ≤ C + 2 → S1 ≤ S + 414 → LCB cy T o x ix md cw → LRB cy m0 x ix md rw → va_P D vwCl (cw ++ (rw ++ T)) H → va_D A (cw ++ (rw ++ T)) → va_S A s.heap H locs → lv_has ls 4 [(3, .int i), (2, .ref m0), (1, .ref o), (0, .ref b)] → W p l e room_1 s m #[Value.ref b] below meth c H locs C1 S1 (lw_Z below #[Value.ref b] s) (F0 m 1260 ls [])) : W p l e room_1 s m #[Value.ref b] below meth c H locs C S (lw_Z below #[Value.ref b] s) (F0 m 291 ls []) := by
  obtain ⟨hx, hb, hr, hml, hown, hG, hlk⟩ := id F
  have hbA : ¬ A b := fun h => absurd (hAA b h) (Nat.not_le.mpr hbl)
  have j1 : (i + 1).toInt = i.toInt + 1 := k_addI rfl rfl (by decide) (by omega)
  have j2 : (i + 2).toInt = i.toInt + 2 := k_addI rfl rfl (by decide) (by omega)
  have j3 : (i + 3).toInt = i.toInt + 3 := k_addI rfl rfl (by decide) (by omega)
  have j4 : (i + 4).toInt = i.toInt + 4 := k_addI rfl rfl (by decide) (by omega)
  have j5 : (i + 5).toInt = i.toInt + 5 := k_addI rfl rfl (by decide) (by omega)
  refine lv_aload_n hx hb dL_law_291 rfl (lv_at hl 2 rfl) ?_
  obtain ⟨fsu, hfsu⟩ := hcb.recv
  refine lwI (w := cw) (wr := rw ++ T) (TT := T) (As := []) (rest := []) F hE hP hD hS hA hl.1 (List.Perm.refl _) (fun q hq => List.mem_append_right _ hq) hZ (bx_rule l D cy T kt vt o x ix md cw  hcb) q_m_L_28 mv_X11_rule ⟨(Nat.le_of_ble_eq_true rfl), (Nat.le_of_ble_eq_true rfl)⟩ hfsu rfl rfl rfl rfl (Nat.le_of_ble_eq_true rfl) ⟨by show C + 2 ≤ 600000; omega, by show S + 414 ≤ 7302250; omega⟩ dL_law_292 (fun r u H locs hu hP hD hS => ?_)
  refine lv_pop hx hb dL_law_295 rfl ?_
  obtain ⟨w9, E9, rfl, hcb⟩ := hu
  refine lv_aload_n hx hb dL_law_296 rfl (lv_at hl 1 rfl) ?_
  obtain ⟨fsu2, hfsu2⟩ := hrb.recv
  refine lwI (w := rw) (wr := w9 ++ (T ++ E9)) (TT := (T ++ E9)) (As := []) (rest := []) F hE hP hD hS hA hl.1 (perm_of (fun c f h h1 h0 => by simp only [h] <;> ac_rfl)) (fun q hq => List.mem_append_right _ hq) hZ (rx_rule l D cy (T ++ E9) kt vt m0 x ix md rw  hrb) q_m_L_31 mv_X12_rule ⟨(Nat.le_of_ble_eq_true rfl), (Nat.le_of_ble_eq_true rfl)⟩ hfsu2 rfl rfl rfl rfl (Nat.le_of_ble_eq_true rfl) ⟨by show C + 2 + 0 ≤ 600000; omega, by show S + 414 + 0 ≤ 7302250; omega⟩ dL_law_297 (fun r2 u2 H locs hu2 hP hD hS => ?_)
  refine lv_pop hx hb dL_law_300 rfl ?_
  refine lv_goto (tgt := 1260) hx hb dL_law_301 (by decide) ?_
  exact kk w9 u2 (T ++ E9) x ix md H locs ls _ _ (by omega) (by omega) hcb hu2 (hP.perm (perm_of (fun c f h h1 h0 => by simp only [h] <;> ac_rfl))) (hD.perm (perm_of (fun c f h h1 h0 => by simp only [h] <;> ac_rfl))) hS hl

set_option maxHeartbeats 4000000 in
set_option maxRecDepth 100000 in
theorem lc_force {p : Program} {l : Launch} {e : Env} {s : State} {m : MethodId} {below : List Frame} {meth : Method} {c : Code} {b L : Nat} {xs : Nat → Int32} {D : va_G} {cy : Nat → ClassId} {A : Nat → Prop} {kt vt : Nat} (F : kF p s m meth c code 4 ret #[Value.ref b] RL) (hE : kE D (kTY cy) s) (hX : va_X b L xs s s.heap) (hbl : b < s.heap.size) (hAA : ∀ q : Nat, A q → s.heap.size ≤ q) (hA : ∀ q : Nat, s.heap.size ≤ q → A q) (hZ : ZT kt vt A s s.heap) (hL : L ≤ 3072) (i : Int32) (hi0 : 0 ≤ i.toInt) (hi6 : i.toInt + 6 ≤ (L : Int)) (o m0 : Nat) {cw rw T : va_W} {x : Int32} {ix md : Nat → Int32} (hcb : LCB cy T o x ix md cw) (hrb : LRB cy m0 x ix md rw) {H : Heap} {locs : List Loc} (hP : va_P D vwCl (cw ++ (rw ++ T)) H) (hD : va_D A (cw ++ (rw ++ T))) (hS : va_S A s.heap H locs) {ls : Array Slot} (hl : lv_has ls 4 [(3, .int i), (2, .ref m0), (1, .ref o), (0, .ref b)]) {C S : Nat} (hC : C + 2 ≤ 600000) (hSl : S + 414 ≤ 7302250) (kk : ∀ (cw rw T : va_W) (x : Int32) (ix md : Nat → Int32) (H : Heap) (locs : List Loc) (ls : Array Slot) (C1 S1 : Nat), C1 ≤ C + 2 → S1 ≤ S + 414 → LCB cy T o x ix md cw → LRB cy m0 x ix md rw → va_P D vwCl (cw ++ (rw ++ T)) H → va_D A (cw ++ (rw ++ T)) → va_S A s.heap H locs → lv_has ls 4 [(3, .int i), (2, .ref m0), (1, .ref o), (0, .ref b)] → W p l e room_1 s m #[Value.ref b] below meth c H locs C1 S1 (lw_Z below #[Value.ref b] s) (F0 m 1260 ls [])) : W p l e room_1 s m #[Value.ref b] below meth c H locs C S (lw_Z below #[Value.ref b] s) (F0 m 304 ls []) := by
  obtain ⟨hx, hb, hr, hml, hown, hG, hlk⟩ := id F
  have hbA : ¬ A b := fun h => absurd (hAA b h) (Nat.not_le.mpr hbl)
  have j1 : (i + 1).toInt = i.toInt + 1 := k_addI rfl rfl (by decide) (by omega)
  have j2 : (i + 2).toInt = i.toInt + 2 := k_addI rfl rfl (by decide) (by omega)
  have j3 : (i + 3).toInt = i.toInt + 3 := k_addI rfl rfl (by decide) (by omega)
  have j4 : (i + 4).toInt = i.toInt + 4 := k_addI rfl rfl (by decide) (by omega)
  have j5 : (i + 5).toInt = i.toInt + 5 := k_addI rfl rfl (by decide) (by omega)
  refine lv_aload_n hx hb dL_law_304 rfl (lv_at hl 2 rfl) ?_
  refine lv_aload_n hx hb dL_law_305 rfl (lv_at hl 3 rfl) ?_
  refine lv_iload_n hx hb dL_law_306 rfl (lv_at hl 0 rfl) ?_
  refine lv_iconst (v := 1) hx hb dL_law_307 (by decide) ?_
  refine lv_iadd hx hb dL_law_308 ?_
  refine va_sld hx hb hX hbl hbA hS (k_in (by omega)) dL_law_309 ?_
  obtain ⟨fsu, hfsu⟩ := hcb.recv
  refine lwI (w := cw) (wr := rw ++ T) (TT := T) (As := [.int (xs (Int32.toNatClampNeg (i + 1)))]) (rest := []) F hE hP hD hS hA hl.1 (List.Perm.refl _) (fun q hq => List.mem_append_right _ hq) hZ (bx_force l D cy T kt vt o x ix md cw (xs (Int32.toNatClampNeg (i + 1))) hcb) q_m_L_32 mv_X11_force ⟨(Nat.le_of_ble_eq_true rfl), (Nat.le_of_ble_eq_true rfl)⟩ hfsu rfl rfl rfl rfl (Nat.le_of_ble_eq_true rfl) ⟨by show C + 0 ≤ 600000; omega, by show S + 0 ≤ 7302250; omega⟩ dL_law_310 (fun r u H locs hu hP hD hS => ?_)
  refine lv_pop hx hb dL_law_313 rfl ?_
  refine lv_aload_n hx hb dL_law_314 rfl (lv_at hl 1 rfl) ?_
  refine lv_aload_n hx hb dL_law_315 rfl (lv_at hl 3 rfl) ?_
  refine lv_iload_n hx hb dL_law_316 rfl (lv_at hl 0 rfl) ?_
  refine lv_iconst (v := 1) hx hb dL_law_317 (by decide) ?_
  refine lv_iadd hx hb dL_law_318 ?_
  refine va_sld hx hb hX hbl hbA hS (k_in (by omega)) dL_law_319 ?_
  obtain ⟨fsu2, hfsu2⟩ := hrb.recv
  refine lwI (w := rw) (wr := u ++ T) (TT := T) (As := [.int (xs (Int32.toNatClampNeg (i + 1)))]) (rest := []) F hE hP hD hS hA hl.1 (perm_of (fun c f h h1 h0 => by simp only [h] <;> ac_rfl)) (fun q hq => List.mem_append_right _ hq) hZ (rx_force l D cy T kt vt m0 x ix md rw (xs (Int32.toNatClampNeg (i + 1))) hrb) q_m_L_35 mv_X12_force ⟨(Nat.le_of_ble_eq_true rfl), (Nat.le_of_ble_eq_true rfl)⟩ hfsu2 rfl rfl rfl rfl (Nat.le_of_ble_eq_true rfl) ⟨by show C + 0 + 0 ≤ 600000; omega, by show S + 0 + 0 ≤ 7302250; omega⟩ dL_law_320 (fun r2 u2 H locs hu2 hP hD hS => ?_)
  refine lv_pop hx hb dL_law_323 rfl ?_
  refine lv_goto (tgt := 1260) hx hb dL_law_324 (by decide) ?_
  exact kk u u2 T x ix md H locs ls _ _ (by omega) (by omega) hu hu2 (hP.perm (perm_of (fun c f h h1 h0 => by simp only [h] <;> ac_rfl))) (hD.perm (perm_of (fun c f h h1 h0 => by simp only [h] <;> ac_rfl))) hS hl

set_option maxHeartbeats 4000000 in
set_option maxRecDepth 100000 in
theorem lc_ring {p : Program} {l : Launch} {e : Env} {s : State} {m : MethodId} {below : List Frame} {meth : Method} {c : Code} {b L : Nat} {xs : Nat → Int32} {D : va_G} {cy : Nat → ClassId} {A : Nat → Prop} {kt vt : Nat} (F : kF p s m meth c code 4 ret #[Value.ref b] RL) (hE : kE D (kTY cy) s) (hX : va_X b L xs s s.heap) (hbl : b < s.heap.size) (hAA : ∀ q : Nat, A q → s.heap.size ≤ q) (hA : ∀ q : Nat, s.heap.size ≤ q → A q) (hZ : ZT kt vt A s s.heap) (hL : L ≤ 3072) (i : Int32) (hi0 : 0 ≤ i.toInt) (hi6 : i.toInt + 6 ≤ (L : Int)) (o m0 : Nat) {cw rw T : va_W} {x : Int32} {ix md : Nat → Int32} (hcb : LCB cy T o x ix md cw) (hrb : LRB cy m0 x ix md rw) {H : Heap} {locs : List Loc} (hP : va_P D vwCl (cw ++ (rw ++ T)) H) (hD : va_D A (cw ++ (rw ++ T))) (hS : va_S A s.heap H locs) {ls : Array Slot} (hl : lv_has ls 4 [(3, .int i), (2, .ref m0), (1, .ref o), (0, .ref b)]) {C S : Nat} (hC : C + 2 ≤ 600000) (hSl : S + 414 ≤ 7302250) (kk : ∀ (cw rw T : va_W) (x : Int32) (ix md : Nat → Int32) (H : Heap) (locs : List Loc) (ls : Array Slot) (C1 S1 : Nat), C1 ≤ C + 2 → S1 ≤ S + 414 → LCB cy T o x ix md cw → LRB cy m0 x ix md rw → va_P D vwCl (cw ++ (rw ++ T)) H → va_D A (cw ++ (rw ++ T)) → va_S A s.heap H locs → lv_has ls 4 [(3, .int i), (2, .ref m0), (1, .ref o), (0, .ref b)] → W p l e room_1 s m #[Value.ref b] below meth c H locs C1 S1 (lw_Z below #[Value.ref b] s) (F0 m 1260 ls [])) : W p l e room_1 s m #[Value.ref b] below meth c H locs C S (lw_Z below #[Value.ref b] s) (F0 m 327 ls []) := by
  obtain ⟨hx, hb, hr, hml, hown, hG, hlk⟩ := id F
  have hbA : ¬ A b := fun h => absurd (hAA b h) (Nat.not_le.mpr hbl)
  have j1 : (i + 1).toInt = i.toInt + 1 := k_addI rfl rfl (by decide) (by omega)
  have j2 : (i + 2).toInt = i.toInt + 2 := k_addI rfl rfl (by decide) (by omega)
  have j3 : (i + 3).toInt = i.toInt + 3 := k_addI rfl rfl (by decide) (by omega)
  have j4 : (i + 4).toInt = i.toInt + 4 := k_addI rfl rfl (by decide) (by omega)
  have j5 : (i + 5).toInt = i.toInt + 5 := k_addI rfl rfl (by decide) (by omega)
  refine lv_aload_n hx hb dL_law_327 rfl (lv_at hl 2 rfl) ?_
  refine lv_aload_n hx hb dL_law_328 rfl (lv_at hl 3 rfl) ?_
  refine lv_iload_n hx hb dL_law_329 rfl (lv_at hl 0 rfl) ?_
  refine lv_iconst (v := 1) hx hb dL_law_330 (by decide) ?_
  refine lv_iadd hx hb dL_law_331 ?_
  refine va_sld hx hb hX hbl hbA hS (k_in (by omega)) dL_law_332 ?_
  refine lv_aload_n hx hb dL_law_333 rfl (lv_at hl 3 rfl) ?_
  refine lv_iload_n hx hb dL_law_334 rfl (lv_at hl 0 rfl) ?_
  refine lv_iconst (v := 2) hx hb dL_law_335 (by decide) ?_
  refine lv_iadd hx hb dL_law_336 ?_
  refine va_sld hx hb hX hbl hbA hS (k_in (by omega)) dL_law_337 ?_
  obtain ⟨fsu, hfsu⟩ := hcb.recv
  refine lwI (w := cw) (wr := rw ++ T) (TT := T) (As := [.int (xs (Int32.toNatClampNeg (i + 1))), .int (xs (Int32.toNatClampNeg (i + 2)))]) (rest := []) F hE hP hD hS hA hl.1 (List.Perm.refl _) (fun q hq => List.mem_append_right _ hq) hZ (bx_ring l D cy T kt vt o x ix md cw (xs (Int32.toNatClampNeg (i + 1))) (xs (Int32.toNatClampNeg (i + 2))) hcb) q_m_L_36 mv_X11_ring ⟨(Nat.le_of_ble_eq_true rfl), (Nat.le_of_ble_eq_true rfl)⟩ hfsu rfl rfl rfl rfl (Nat.le_of_ble_eq_true rfl) ⟨by show C + 0 ≤ 600000; omega, by show S + 0 ≤ 7302250; omega⟩ dL_law_338 (fun r u H locs hu hP hD hS => ?_)
  refine lv_pop hx hb dL_law_341 rfl ?_
  refine lv_aload_n hx hb dL_law_342 rfl (lv_at hl 1 rfl) ?_
  refine lv_aload_n hx hb dL_law_343 rfl (lv_at hl 3 rfl) ?_
  refine lv_iload_n hx hb dL_law_344 rfl (lv_at hl 0 rfl) ?_
  refine lv_iconst (v := 1) hx hb dL_law_345 (by decide) ?_
  refine lv_iadd hx hb dL_law_346 ?_
  refine va_sld hx hb hX hbl hbA hS (k_in (by omega)) dL_law_347 ?_
  refine lv_aload_n hx hb dL_law_348 rfl (lv_at hl 3 rfl) ?_
  refine lv_iload_n hx hb dL_law_349 rfl (lv_at hl 0 rfl) ?_
  refine lv_iconst (v := 2) hx hb dL_law_350 (by decide) ?_
  refine lv_iadd hx hb dL_law_351 ?_
  refine va_sld hx hb hX hbl hbA hS (k_in (by omega)) dL_law_352 ?_
  obtain ⟨fsu2, hfsu2⟩ := hrb.recv
  refine lwI (w := rw) (wr := u ++ T) (TT := T) (As := [.int (xs (Int32.toNatClampNeg (i + 1))), .int (xs (Int32.toNatClampNeg (i + 2)))]) (rest := []) F hE hP hD hS hA hl.1 (perm_of (fun c f h h1 h0 => by simp only [h] <;> ac_rfl)) (fun q hq => List.mem_append_right _ hq) hZ (rx_ring l D cy T kt vt m0 x ix md rw (xs (Int32.toNatClampNeg (i + 1))) (xs (Int32.toNatClampNeg (i + 2))) hrb) q_m_L_40 mv_X12_ring ⟨(Nat.le_of_ble_eq_true rfl), (Nat.le_of_ble_eq_true rfl)⟩ hfsu2 rfl rfl rfl rfl (Nat.le_of_ble_eq_true rfl) ⟨by show C + 0 + 0 ≤ 600000; omega, by show S + 0 + 0 ≤ 7302250; omega⟩ dL_law_353 (fun r2 u2 H locs hu2 hP hD hS => ?_)
  refine lv_pop hx hb dL_law_356 rfl ?_
  refine lv_goto (tgt := 1260) hx hb dL_law_357 (by decide) ?_
  exact kk u u2 T x ix md H locs ls _ _ (by omega) (by omega) hu hu2 (hP.perm (perm_of (fun c f h h1 h0 => by simp only [h] <;> ac_rfl))) (hD.perm (perm_of (fun c f h h1 h0 => by simp only [h] <;> ac_rfl))) hS hl

set_option maxHeartbeats 4000000 in
set_option maxRecDepth 100000 in
theorem lc_archer {p : Program} {l : Launch} {e : Env} {s : State} {m : MethodId} {below : List Frame} {meth : Method} {c : Code} {b L : Nat} {xs : Nat → Int32} {D : va_G} {cy : Nat → ClassId} {A : Nat → Prop} {kt vt : Nat} (F : kF p s m meth c code 4 ret #[Value.ref b] RL) (hE : kE D (kTY cy) s) (hX : va_X b L xs s s.heap) (hbl : b < s.heap.size) (hAA : ∀ q : Nat, A q → s.heap.size ≤ q) (hA : ∀ q : Nat, s.heap.size ≤ q → A q) (hZ : ZT kt vt A s s.heap) (hL : L ≤ 3072) (i : Int32) (hi0 : 0 ≤ i.toInt) (hi6 : i.toInt + 6 ≤ (L : Int)) (o m0 : Nat) {cw rw T : va_W} {x : Int32} {ix md : Nat → Int32} (hcb : LCB cy T o x ix md cw) (hrb : LRB cy m0 x ix md rw) {H : Heap} {locs : List Loc} (hP : va_P D vwCl (cw ++ (rw ++ T)) H) (hD : va_D A (cw ++ (rw ++ T))) (hS : va_S A s.heap H locs) {ls : Array Slot} (hl : lv_has ls 4 [(3, .int i), (2, .ref m0), (1, .ref o), (0, .ref b)]) {C S : Nat} (hC : C + 2 ≤ 600000) (hSl : S + 414 ≤ 7302250) (kk : ∀ (cw rw T : va_W) (x : Int32) (ix md : Nat → Int32) (H : Heap) (locs : List Loc) (ls : Array Slot) (C1 S1 : Nat), C1 ≤ C + 2 → S1 ≤ S + 414 → LCB cy T o x ix md cw → LRB cy m0 x ix md rw → va_P D vwCl (cw ++ (rw ++ T)) H → va_D A (cw ++ (rw ++ T)) → va_S A s.heap H locs → lv_has ls 4 [(3, .int i), (2, .ref m0), (1, .ref o), (0, .ref b)] → W p l e room_1 s m #[Value.ref b] below meth c H locs C1 S1 (lw_Z below #[Value.ref b] s) (F0 m 1260 ls [])) : W p l e room_1 s m #[Value.ref b] below meth c H locs C S (lw_Z below #[Value.ref b] s) (F0 m 360 ls []) := by
  obtain ⟨hx, hb, hr, hml, hown, hG, hlk⟩ := id F
  have hbA : ¬ A b := fun h => absurd (hAA b h) (Nat.not_le.mpr hbl)
  have j1 : (i + 1).toInt = i.toInt + 1 := k_addI rfl rfl (by decide) (by omega)
  have j2 : (i + 2).toInt = i.toInt + 2 := k_addI rfl rfl (by decide) (by omega)
  have j3 : (i + 3).toInt = i.toInt + 3 := k_addI rfl rfl (by decide) (by omega)
  have j4 : (i + 4).toInt = i.toInt + 4 := k_addI rfl rfl (by decide) (by omega)
  have j5 : (i + 5).toInt = i.toInt + 5 := k_addI rfl rfl (by decide) (by omega)
  refine lv_aload_n hx hb dL_law_360 rfl (lv_at hl 2 rfl) ?_
  refine lv_aload_n hx hb dL_law_361 rfl (lv_at hl 3 rfl) ?_
  refine lv_iload_n hx hb dL_law_362 rfl (lv_at hl 0 rfl) ?_
  refine lv_iconst (v := 1) hx hb dL_law_363 (by decide) ?_
  refine lv_iadd hx hb dL_law_364 ?_
  refine va_sld hx hb hX hbl hbA hS (k_in (by omega)) dL_law_365 ?_
  refine lv_aload_n hx hb dL_law_366 rfl (lv_at hl 3 rfl) ?_
  refine lv_iload_n hx hb dL_law_367 rfl (lv_at hl 0 rfl) ?_
  refine lv_iconst (v := 2) hx hb dL_law_368 (by decide) ?_
  refine lv_iadd hx hb dL_law_369 ?_
  refine va_sld hx hb hX hbl hbA hS (k_in (by omega)) dL_law_370 ?_
  obtain ⟨fsu, hfsu⟩ := hcb.recv
  refine lwI (w := cw) (wr := rw ++ T) (TT := T) (As := [.int (xs (Int32.toNatClampNeg (i + 1))), .int (xs (Int32.toNatClampNeg (i + 2)))]) (rest := []) F hE hP hD hS hA hl.1 (List.Perm.refl _) (fun q hq => List.mem_append_right _ hq) hZ (bx_archer l D cy T kt vt o x ix md cw (xs (Int32.toNatClampNeg (i + 1))) (xs (Int32.toNatClampNeg (i + 2))) hcb) q_m_L_41 mv_X11_archer ⟨(Nat.le_of_ble_eq_true rfl), (Nat.le_of_ble_eq_true rfl)⟩ hfsu rfl rfl rfl rfl (Nat.le_of_ble_eq_true rfl) ⟨by show C + 0 ≤ 600000; omega, by show S + 0 ≤ 7302250; omega⟩ dL_law_371 (fun r u H locs hu hP hD hS => ?_)
  refine lv_pop hx hb dL_law_374 rfl ?_
  refine lv_aload_n hx hb dL_law_375 rfl (lv_at hl 1 rfl) ?_
  refine lv_aload_n hx hb dL_law_376 rfl (lv_at hl 3 rfl) ?_
  refine lv_iload_n hx hb dL_law_377 rfl (lv_at hl 0 rfl) ?_
  refine lv_iconst (v := 1) hx hb dL_law_378 (by decide) ?_
  refine lv_iadd hx hb dL_law_379 ?_
  refine va_sld hx hb hX hbl hbA hS (k_in (by omega)) dL_law_380 ?_
  refine lv_aload_n hx hb dL_law_381 rfl (lv_at hl 3 rfl) ?_
  refine lv_iload_n hx hb dL_law_382 rfl (lv_at hl 0 rfl) ?_
  refine lv_iconst (v := 2) hx hb dL_law_383 (by decide) ?_
  refine lv_iadd hx hb dL_law_384 ?_
  refine va_sld hx hb hX hbl hbA hS (k_in (by omega)) dL_law_385 ?_
  obtain ⟨fsu2, hfsu2⟩ := hrb.recv
  refine lwI (w := rw) (wr := u ++ T) (TT := T) (As := [.int (xs (Int32.toNatClampNeg (i + 1))), .int (xs (Int32.toNatClampNeg (i + 2)))]) (rest := []) F hE hP hD hS hA hl.1 (perm_of (fun c f h h1 h0 => by simp only [h] <;> ac_rfl)) (fun q hq => List.mem_append_right _ hq) hZ (rx_archer l D cy T kt vt m0 x ix md rw (xs (Int32.toNatClampNeg (i + 1))) (xs (Int32.toNatClampNeg (i + 2))) hrb) q_m_L_44 mv_X12_archer ⟨(Nat.le_of_ble_eq_true rfl), (Nat.le_of_ble_eq_true rfl)⟩ hfsu2 rfl rfl rfl rfl (Nat.le_of_ble_eq_true rfl) ⟨by show C + 0 + 0 ≤ 600000; omega, by show S + 0 + 0 ≤ 7302250; omega⟩ dL_law_386 (fun r2 u2 H locs hu2 hP hD hS => ?_)
  refine lv_pop hx hb dL_law_389 rfl ?_
  refine lv_goto (tgt := 1260) hx hb dL_law_390 (by decide) ?_
  exact kk u u2 T x ix md H locs ls _ _ (by omega) (by omega) hu hu2 (hP.perm (perm_of (fun c f h h1 h0 => by simp only [h] <;> ac_rfl))) (hD.perm (perm_of (fun c f h h1 h0 => by simp only [h] <;> ac_rfl))) hS hl

set_option maxHeartbeats 4000000 in
set_option maxRecDepth 100000 in
theorem lc_wind {p : Program} {l : Launch} {e : Env} {s : State} {m : MethodId} {below : List Frame} {meth : Method} {c : Code} {b L : Nat} {xs : Nat → Int32} {D : va_G} {cy : Nat → ClassId} {A : Nat → Prop} {kt vt : Nat} (F : kF p s m meth c code 4 ret #[Value.ref b] RL) (hE : kE D (kTY cy) s) (hX : va_X b L xs s s.heap) (hbl : b < s.heap.size) (hAA : ∀ q : Nat, A q → s.heap.size ≤ q) (hA : ∀ q : Nat, s.heap.size ≤ q → A q) (hZ : ZT kt vt A s s.heap) (hL : L ≤ 3072) (i : Int32) (hi0 : 0 ≤ i.toInt) (hi6 : i.toInt + 6 ≤ (L : Int)) (o m0 : Nat) {cw rw T : va_W} {x : Int32} {ix md : Nat → Int32} (hcb : LCB cy T o x ix md cw) (hrb : LRB cy m0 x ix md rw) {H : Heap} {locs : List Loc} (hP : va_P D vwCl (cw ++ (rw ++ T)) H) (hD : va_D A (cw ++ (rw ++ T))) (hS : va_S A s.heap H locs) {ls : Array Slot} (hl : lv_has ls 4 [(3, .int i), (2, .ref m0), (1, .ref o), (0, .ref b)]) {C S : Nat} (hC : C + 2 ≤ 600000) (hSl : S + 414 ≤ 7302250) (kk : ∀ (cw rw T : va_W) (x : Int32) (ix md : Nat → Int32) (H : Heap) (locs : List Loc) (ls : Array Slot) (C1 S1 : Nat), C1 ≤ C + 2 → S1 ≤ S + 414 → LCB cy T o x ix md cw → LRB cy m0 x ix md rw → va_P D vwCl (cw ++ (rw ++ T)) H → va_D A (cw ++ (rw ++ T)) → va_S A s.heap H locs → lv_has ls 4 [(3, .int i), (2, .ref m0), (1, .ref o), (0, .ref b)] → W p l e room_1 s m #[Value.ref b] below meth c H locs C1 S1 (lw_Z below #[Value.ref b] s) (F0 m 1260 ls [])) : W p l e room_1 s m #[Value.ref b] below meth c H locs C S (lw_Z below #[Value.ref b] s) (F0 m 393 ls []) := by
  obtain ⟨hx, hb, hr, hml, hown, hG, hlk⟩ := id F
  have hbA : ¬ A b := fun h => absurd (hAA b h) (Nat.not_le.mpr hbl)
  have j1 : (i + 1).toInt = i.toInt + 1 := k_addI rfl rfl (by decide) (by omega)
  have j2 : (i + 2).toInt = i.toInt + 2 := k_addI rfl rfl (by decide) (by omega)
  have j3 : (i + 3).toInt = i.toInt + 3 := k_addI rfl rfl (by decide) (by omega)
  have j4 : (i + 4).toInt = i.toInt + 4 := k_addI rfl rfl (by decide) (by omega)
  have j5 : (i + 5).toInt = i.toInt + 5 := k_addI rfl rfl (by decide) (by omega)
  refine lv_aload_n hx hb dL_law_393 rfl (lv_at hl 2 rfl) ?_
  refine lv_aload_n hx hb dL_law_394 rfl (lv_at hl 3 rfl) ?_
  refine lv_iload_n hx hb dL_law_395 rfl (lv_at hl 0 rfl) ?_
  refine lv_iconst (v := 1) hx hb dL_law_396 (by decide) ?_
  refine lv_iadd hx hb dL_law_397 ?_
  refine va_sld hx hb hX hbl hbA hS (k_in (by omega)) dL_law_398 ?_
  obtain ⟨fsu, hfsu⟩ := hcb.recv
  refine lwI (w := cw) (wr := rw ++ T) (TT := T) (As := [.int (xs (Int32.toNatClampNeg (i + 1)))]) (rest := []) F hE hP hD hS hA hl.1 (List.Perm.refl _) (fun q hq => List.mem_append_right _ hq) hZ (bx_wind l D cy T kt vt o x ix md cw (xs (Int32.toNatClampNeg (i + 1))) hcb) q_m_L_45 mv_X11_wind ⟨(Nat.le_of_ble_eq_true rfl), (Nat.le_of_ble_eq_true rfl)⟩ hfsu rfl rfl rfl rfl (Nat.le_of_ble_eq_true rfl) ⟨by show C + 0 ≤ 600000; omega, by show S + 0 ≤ 7302250; omega⟩ dL_law_399 (fun r u H locs hu hP hD hS => ?_)
  refine lv_pop hx hb dL_law_402 rfl ?_
  refine lv_aload_n hx hb dL_law_403 rfl (lv_at hl 1 rfl) ?_
  refine lv_aload_n hx hb dL_law_404 rfl (lv_at hl 3 rfl) ?_
  refine lv_iload_n hx hb dL_law_405 rfl (lv_at hl 0 rfl) ?_
  refine lv_iconst (v := 1) hx hb dL_law_406 (by decide) ?_
  refine lv_iadd hx hb dL_law_407 ?_
  refine va_sld hx hb hX hbl hbA hS (k_in (by omega)) dL_law_408 ?_
  obtain ⟨fsu2, hfsu2⟩ := hrb.recv
  refine lwI (w := rw) (wr := u ++ T) (TT := T) (As := [.int (xs (Int32.toNatClampNeg (i + 1)))]) (rest := []) F hE hP hD hS hA hl.1 (perm_of (fun c f h h1 h0 => by simp only [h] <;> ac_rfl)) (fun q hq => List.mem_append_right _ hq) hZ (rx_wind l D cy T kt vt m0 x ix md rw (xs (Int32.toNatClampNeg (i + 1))) hrb) q_m_L_48 mv_X12_wind ⟨(Nat.le_of_ble_eq_true rfl), (Nat.le_of_ble_eq_true rfl)⟩ hfsu2 rfl rfl rfl rfl (Nat.le_of_ble_eq_true rfl) ⟨by show C + 0 + 0 ≤ 600000; omega, by show S + 0 + 0 ≤ 7302250; omega⟩ dL_law_409 (fun r2 u2 H locs hu2 hP hD hS => ?_)
  refine lv_pop hx hb dL_law_412 rfl ?_
  refine lv_goto (tgt := 1260) hx hb dL_law_413 (by decide) ?_
  exact kk u u2 T x ix md H locs ls _ _ (by omega) (by omega) hu hu2 (hP.perm (perm_of (fun c f h h1 h0 => by simp only [h] <;> ac_rfl))) (hD.perm (perm_of (fun c f h h1 h0 => by simp only [h] <;> ac_rfl))) hS hl

set_option maxHeartbeats 4000000 in
set_option maxRecDepth 100000 in
theorem lc_round {p : Program} {l : Launch} {e : Env} {s : State} {m : MethodId} {below : List Frame} {meth : Method} {c : Code} {b L : Nat} {xs : Nat → Int32} {D : va_G} {cy : Nat → ClassId} {A : Nat → Prop} {kt vt : Nat} (F : kF p s m meth c code 4 ret #[Value.ref b] RL) (hE : kE D (kTY cy) s) (hX : va_X b L xs s s.heap) (hbl : b < s.heap.size) (hAA : ∀ q : Nat, A q → s.heap.size ≤ q) (hA : ∀ q : Nat, s.heap.size ≤ q → A q) (hZ : ZT kt vt A s s.heap) (hL : L ≤ 3072) (i : Int32) (hi0 : 0 ≤ i.toInt) (hi6 : i.toInt + 6 ≤ (L : Int)) (o m0 : Nat) {cw rw T : va_W} {x : Int32} {ix md : Nat → Int32} (hcb : LCB cy T o x ix md cw) (hrb : LRB cy m0 x ix md rw) {H : Heap} {locs : List Loc} (hP : va_P D vwCl (cw ++ (rw ++ T)) H) (hD : va_D A (cw ++ (rw ++ T))) (hS : va_S A s.heap H locs) {ls : Array Slot} (hl : lv_has ls 4 [(3, .int i), (2, .ref m0), (1, .ref o), (0, .ref b)]) {C S : Nat} (hC : C + 2 ≤ 600000) (hSl : S + 414 ≤ 7302250) (kk : ∀ (cw rw T : va_W) (x : Int32) (ix md : Nat → Int32) (H : Heap) (locs : List Loc) (ls : Array Slot) (C1 S1 : Nat), C1 ≤ C + 2 → S1 ≤ S + 414 → LCB cy T o x ix md cw → LRB cy m0 x ix md rw → va_P D vwCl (cw ++ (rw ++ T)) H → va_D A (cw ++ (rw ++ T)) → va_S A s.heap H locs → lv_has ls 4 [(3, .int i), (2, .ref m0), (1, .ref o), (0, .ref b)] → W p l e room_1 s m #[Value.ref b] below meth c H locs C1 S1 (lw_Z below #[Value.ref b] s) (F0 m 1260 ls [])) : W p l e room_1 s m #[Value.ref b] below meth c H locs C S (lw_Z below #[Value.ref b] s) (F0 m 416 ls []) := by
  obtain ⟨hx, hb, hr, hml, hown, hG, hlk⟩ := id F
  have hbA : ¬ A b := fun h => absurd (hAA b h) (Nat.not_le.mpr hbl)
  have j1 : (i + 1).toInt = i.toInt + 1 := k_addI rfl rfl (by decide) (by omega)
  have j2 : (i + 2).toInt = i.toInt + 2 := k_addI rfl rfl (by decide) (by omega)
  have j3 : (i + 3).toInt = i.toInt + 3 := k_addI rfl rfl (by decide) (by omega)
  have j4 : (i + 4).toInt = i.toInt + 4 := k_addI rfl rfl (by decide) (by omega)
  have j5 : (i + 5).toInt = i.toInt + 5 := k_addI rfl rfl (by decide) (by omega)
  refine lv_aload_n hx hb dL_law_416 rfl (lv_at hl 2 rfl) ?_
  obtain ⟨fsu, hfsu⟩ := hcb.recv
  refine lwI (w := cw) (wr := rw ++ T) (TT := T) (As := []) (rest := []) F hE hP hD hS hA hl.1 (List.Perm.refl _) (fun q hq => List.mem_append_right _ hq) hZ (bx_round l D cy T kt vt o x ix md cw  hcb) q_m_L_49 mv_X11_round ⟨(Nat.le_of_ble_eq_true rfl), (Nat.le_of_ble_eq_true rfl)⟩ hfsu rfl rfl rfl rfl (Nat.le_of_ble_eq_true rfl) ⟨by show C + 0 ≤ 600000; omega, by show S + 0 ≤ 7302250; omega⟩ dL_law_417 (fun r u H locs hu hP hD hS => ?_)
  refine lv_pop hx hb dL_law_420 rfl ?_
  refine lv_aload_n hx hb dL_law_421 rfl (lv_at hl 1 rfl) ?_
  obtain ⟨fsu2, hfsu2⟩ := hrb.recv
  refine lwI (w := rw) (wr := u ++ T) (TT := T) (As := []) (rest := []) F hE hP hD hS hA hl.1 (perm_of (fun c f h h1 h0 => by simp only [h] <;> ac_rfl)) (fun q hq => List.mem_append_right _ hq) hZ (rx_round l D cy T kt vt m0 x ix md rw  hrb) q_m_L_52 mv_X12_round ⟨(Nat.le_of_ble_eq_true rfl), (Nat.le_of_ble_eq_true rfl)⟩ hfsu2 rfl rfl rfl rfl (Nat.le_of_ble_eq_true rfl) ⟨by show C + 0 + 0 ≤ 600000; omega, by show S + 0 + 0 ≤ 7302250; omega⟩ dL_law_422 (fun r2 u2 H locs hu2 hP hD hS => ?_)
  refine lv_pop hx hb dL_law_425 rfl ?_
  refine lv_goto (tgt := 1260) hx hb dL_law_426 (by decide) ?_
  exact kk u u2 T x ix md H locs ls _ _ (by omega) (by omega) hu hu2 (hP.perm (perm_of (fun c f h h1 h0 => by simp only [h] <;> ac_rfl))) (hD.perm (perm_of (fun c f h h1 h0 => by simp only [h] <;> ac_rfl))) hS hl

set_option maxHeartbeats 4000000 in
set_option maxRecDepth 100000 in
theorem lc_shoot {p : Program} {l : Launch} {e : Env} {s : State} {m : MethodId} {below : List Frame} {meth : Method} {c : Code} {b L : Nat} {xs : Nat → Int32} {D : va_G} {cy : Nat → ClassId} {A : Nat → Prop} {kt vt : Nat} (F : kF p s m meth c code 4 ret #[Value.ref b] RL) (hE : kE D (kTY cy) s) (hX : va_X b L xs s s.heap) (hbl : b < s.heap.size) (hAA : ∀ q : Nat, A q → s.heap.size ≤ q) (hA : ∀ q : Nat, s.heap.size ≤ q → A q) (hZ : ZT kt vt A s s.heap) (hL : L ≤ 3072) (i : Int32) (hi0 : 0 ≤ i.toInt) (hi6 : i.toInt + 6 ≤ (L : Int)) (o m0 : Nat) {cw rw T : va_W} {x : Int32} {ix md : Nat → Int32} (hcb : LCB cy T o x ix md cw) (hrb : LRB cy m0 x ix md rw) {H : Heap} {locs : List Loc} (hP : va_P D vwCl (cw ++ (rw ++ T)) H) (hD : va_D A (cw ++ (rw ++ T))) (hS : va_S A s.heap H locs) {ls : Array Slot} (hl : lv_has ls 4 [(3, .int i), (2, .ref m0), (1, .ref o), (0, .ref b)]) {C S : Nat} (hC : C + 2 ≤ 600000) (hSl : S + 414 ≤ 7302250) (kk : ∀ (cw rw T : va_W) (x : Int32) (ix md : Nat → Int32) (H : Heap) (locs : List Loc) (ls : Array Slot) (C1 S1 : Nat), C1 ≤ C + 2 → S1 ≤ S + 414 → LCB cy T o x ix md cw → LRB cy m0 x ix md rw → va_P D vwCl (cw ++ (rw ++ T)) H → va_D A (cw ++ (rw ++ T)) → va_S A s.heap H locs → lv_has ls 4 [(3, .int i), (2, .ref m0), (1, .ref o), (0, .ref b)] → W p l e room_1 s m #[Value.ref b] below meth c H locs C1 S1 (lw_Z below #[Value.ref b] s) (F0 m 1260 ls [])) : W p l e room_1 s m #[Value.ref b] below meth c H locs C S (lw_Z below #[Value.ref b] s) (F0 m 429 ls []) := by
  obtain ⟨hx, hb, hr, hml, hown, hG, hlk⟩ := id F
  have hbA : ¬ A b := fun h => absurd (hAA b h) (Nat.not_le.mpr hbl)
  have j1 : (i + 1).toInt = i.toInt + 1 := k_addI rfl rfl (by decide) (by omega)
  have j2 : (i + 2).toInt = i.toInt + 2 := k_addI rfl rfl (by decide) (by omega)
  have j3 : (i + 3).toInt = i.toInt + 3 := k_addI rfl rfl (by decide) (by omega)
  have j4 : (i + 4).toInt = i.toInt + 4 := k_addI rfl rfl (by decide) (by omega)
  have j5 : (i + 5).toInt = i.toInt + 5 := k_addI rfl rfl (by decide) (by omega)
  refine lv_aload_n hx hb dL_law_429 rfl (lv_at hl 2 rfl) ?_
  refine lv_aload_n hx hb dL_law_430 rfl (lv_at hl 3 rfl) ?_
  refine lv_iload_n hx hb dL_law_431 rfl (lv_at hl 0 rfl) ?_
  refine lv_iconst (v := 1) hx hb dL_law_432 (by decide) ?_
  refine lv_iadd hx hb dL_law_433 ?_
  refine va_sld hx hb hX hbl hbA hS (k_in (by omega)) dL_law_434 ?_
  refine lv_aload_n hx hb dL_law_435 rfl (lv_at hl 3 rfl) ?_
  refine lv_iload_n hx hb dL_law_436 rfl (lv_at hl 0 rfl) ?_
  refine lv_iconst (v := 2) hx hb dL_law_437 (by decide) ?_
  refine lv_iadd hx hb dL_law_438 ?_
  refine va_sld hx hb hX hbl hbA hS (k_in (by omega)) dL_law_439 ?_
  obtain ⟨fsu, hfsu⟩ := hcb.recv
  refine lwI (w := cw) (wr := rw ++ T) (TT := T) (As := [.int (xs (Int32.toNatClampNeg (i + 1))), .int (xs (Int32.toNatClampNeg (i + 2)))]) (rest := []) F hE hP hD hS hA hl.1 (List.Perm.refl _) (fun q hq => List.mem_append_right _ hq) hZ (bx_shoot l D cy T kt vt o x ix md cw (xs (Int32.toNatClampNeg (i + 1))) (xs (Int32.toNatClampNeg (i + 2))) hcb) q_m_L_53 mv_X11_shoot ⟨(Nat.le_of_ble_eq_true rfl), (Nat.le_of_ble_eq_true rfl)⟩ hfsu rfl rfl rfl rfl (Nat.le_of_ble_eq_true rfl) ⟨by show C + 0 ≤ 600000; omega, by show S + 0 ≤ 7302250; omega⟩ dL_law_440 (fun r u H locs hu hP hD hS => ?_)
  refine lv_pop hx hb dL_law_443 rfl ?_
  refine lv_aload_n hx hb dL_law_444 rfl (lv_at hl 1 rfl) ?_
  refine lv_aload_n hx hb dL_law_445 rfl (lv_at hl 3 rfl) ?_
  refine lv_iload_n hx hb dL_law_446 rfl (lv_at hl 0 rfl) ?_
  refine lv_iconst (v := 1) hx hb dL_law_447 (by decide) ?_
  refine lv_iadd hx hb dL_law_448 ?_
  refine va_sld hx hb hX hbl hbA hS (k_in (by omega)) dL_law_449 ?_
  refine lv_aload_n hx hb dL_law_450 rfl (lv_at hl 3 rfl) ?_
  refine lv_iload_n hx hb dL_law_451 rfl (lv_at hl 0 rfl) ?_
  refine lv_iconst (v := 2) hx hb dL_law_452 (by decide) ?_
  refine lv_iadd hx hb dL_law_453 ?_
  refine va_sld hx hb hX hbl hbA hS (k_in (by omega)) dL_law_454 ?_
  obtain ⟨fsu2, hfsu2⟩ := hrb.recv
  refine lwI (w := rw) (wr := u ++ T) (TT := T) (As := [.int (xs (Int32.toNatClampNeg (i + 1))), .int (xs (Int32.toNatClampNeg (i + 2)))]) (rest := []) F hE hP hD hS hA hl.1 (perm_of (fun c f h h1 h0 => by simp only [h] <;> ac_rfl)) (fun q hq => List.mem_append_right _ hq) hZ (rx_shoot l D cy T kt vt m0 x ix md rw (xs (Int32.toNatClampNeg (i + 1))) (xs (Int32.toNatClampNeg (i + 2))) hrb) q_m_L_56 mv_X12_shoot ⟨(Nat.le_of_ble_eq_true rfl), (Nat.le_of_ble_eq_true rfl)⟩ hfsu2 rfl rfl rfl rfl (Nat.le_of_ble_eq_true rfl) ⟨by show C + 0 + 0 ≤ 600000; omega, by show S + 0 + 0 ≤ 7302250; omega⟩ dL_law_455 (fun r2 u2 H locs hu2 hP hD hS => ?_)
  refine lv_pop hx hb dL_law_458 rfl ?_
  refine lv_goto (tgt := 1260) hx hb dL_law_459 (by decide) ?_
  exact kk u u2 T x ix md H locs ls _ _ (by omega) (by omega) hu hu2 (hP.perm (perm_of (fun c f h h1 h0 => by simp only [h] <;> ac_rfl))) (hD.perm (perm_of (fun c f h h1 h0 => by simp only [h] <;> ac_rfl))) hS hl

set_option maxHeartbeats 4000000 in
set_option maxRecDepth 100000 in
theorem lc_pull {p : Program} {l : Launch} {e : Env} {s : State} {m : MethodId} {below : List Frame} {meth : Method} {c : Code} {b L : Nat} {xs : Nat → Int32} {D : va_G} {cy : Nat → ClassId} {A : Nat → Prop} {kt vt : Nat} (F : kF p s m meth c code 4 ret #[Value.ref b] RL) (hE : kE D (kTY cy) s) (hX : va_X b L xs s s.heap) (hbl : b < s.heap.size) (hAA : ∀ q : Nat, A q → s.heap.size ≤ q) (hA : ∀ q : Nat, s.heap.size ≤ q → A q) (hZ : ZT kt vt A s s.heap) (hL : L ≤ 3072) (i : Int32) (hi0 : 0 ≤ i.toInt) (hi6 : i.toInt + 6 ≤ (L : Int)) (o m0 : Nat) {cw rw T : va_W} {x : Int32} {ix md : Nat → Int32} (hcb : LCB cy T o x ix md cw) (hrb : LRB cy m0 x ix md rw) {H : Heap} {locs : List Loc} (hP : va_P D vwCl (cw ++ (rw ++ T)) H) (hD : va_D A (cw ++ (rw ++ T))) (hS : va_S A s.heap H locs) {ls : Array Slot} (hl : lv_has ls 4 [(3, .int i), (2, .ref m0), (1, .ref o), (0, .ref b)]) {C S : Nat} (hC : C + 2 ≤ 600000) (hSl : S + 414 ≤ 7302250) (kk : ∀ (cw rw T : va_W) (x : Int32) (ix md : Nat → Int32) (H : Heap) (locs : List Loc) (ls : Array Slot) (C1 S1 : Nat), C1 ≤ C + 2 → S1 ≤ S + 414 → LCB cy T o x ix md cw → LRB cy m0 x ix md rw → va_P D vwCl (cw ++ (rw ++ T)) H → va_D A (cw ++ (rw ++ T)) → va_S A s.heap H locs → lv_has ls 4 [(3, .int i), (2, .ref m0), (1, .ref o), (0, .ref b)] → W p l e room_1 s m #[Value.ref b] below meth c H locs C1 S1 (lw_Z below #[Value.ref b] s) (F0 m 1260 ls [])) : W p l e room_1 s m #[Value.ref b] below meth c H locs C S (lw_Z below #[Value.ref b] s) (F0 m 462 ls []) := by
  obtain ⟨hx, hb, hr, hml, hown, hG, hlk⟩ := id F
  have hbA : ¬ A b := fun h => absurd (hAA b h) (Nat.not_le.mpr hbl)
  have j1 : (i + 1).toInt = i.toInt + 1 := k_addI rfl rfl (by decide) (by omega)
  have j2 : (i + 2).toInt = i.toInt + 2 := k_addI rfl rfl (by decide) (by omega)
  have j3 : (i + 3).toInt = i.toInt + 3 := k_addI rfl rfl (by decide) (by omega)
  have j4 : (i + 4).toInt = i.toInt + 4 := k_addI rfl rfl (by decide) (by omega)
  have j5 : (i + 5).toInt = i.toInt + 5 := k_addI rfl rfl (by decide) (by omega)
  refine lv_aload_n hx hb dL_law_462 rfl (lv_at hl 2 rfl) ?_
  refine lv_aload_n hx hb dL_law_463 rfl (lv_at hl 3 rfl) ?_
  refine lv_iload_n hx hb dL_law_464 rfl (lv_at hl 0 rfl) ?_
  refine lv_iconst (v := 1) hx hb dL_law_465 (by decide) ?_
  refine lv_iadd hx hb dL_law_466 ?_
  refine va_sld hx hb hX hbl hbA hS (k_in (by omega)) dL_law_467 ?_
  refine lv_aload_n hx hb dL_law_468 rfl (lv_at hl 3 rfl) ?_
  refine lv_iload_n hx hb dL_law_469 rfl (lv_at hl 0 rfl) ?_
  refine lv_iconst (v := 2) hx hb dL_law_470 (by decide) ?_
  refine lv_iadd hx hb dL_law_471 ?_
  refine va_sld hx hb hX hbl hbA hS (k_in (by omega)) dL_law_472 ?_
  obtain ⟨fsu, hfsu⟩ := hcb.recv
  refine lwI (w := cw) (wr := rw ++ T) (TT := T) (As := [.int (xs (Int32.toNatClampNeg (i + 1))), .int (xs (Int32.toNatClampNeg (i + 2)))]) (rest := []) F hE hP hD hS hA hl.1 (List.Perm.refl _) (fun q hq => List.mem_append_right _ hq) hZ (bx_pull l D cy T kt vt o x ix md cw (xs (Int32.toNatClampNeg (i + 1))) (xs (Int32.toNatClampNeg (i + 2))) hcb) q_m_L_57 mv_X11_pull ⟨(Nat.le_of_ble_eq_true rfl), (Nat.le_of_ble_eq_true rfl)⟩ hfsu rfl rfl rfl rfl (Nat.le_of_ble_eq_true rfl) ⟨by show C + 0 ≤ 600000; omega, by show S + 0 ≤ 7302250; omega⟩ dL_law_473 (fun r u H locs hu hP hD hS => ?_)
  refine lv_pop hx hb dL_law_476 rfl ?_
  refine lv_aload_n hx hb dL_law_477 rfl (lv_at hl 1 rfl) ?_
  refine lv_aload_n hx hb dL_law_478 rfl (lv_at hl 3 rfl) ?_
  refine lv_iload_n hx hb dL_law_479 rfl (lv_at hl 0 rfl) ?_
  refine lv_iconst (v := 1) hx hb dL_law_480 (by decide) ?_
  refine lv_iadd hx hb dL_law_481 ?_
  refine va_sld hx hb hX hbl hbA hS (k_in (by omega)) dL_law_482 ?_
  refine lv_aload_n hx hb dL_law_483 rfl (lv_at hl 3 rfl) ?_
  refine lv_iload_n hx hb dL_law_484 rfl (lv_at hl 0 rfl) ?_
  refine lv_iconst (v := 2) hx hb dL_law_485 (by decide) ?_
  refine lv_iadd hx hb dL_law_486 ?_
  refine va_sld hx hb hX hbl hbA hS (k_in (by omega)) dL_law_487 ?_
  obtain ⟨fsu2, hfsu2⟩ := hrb.recv
  refine lwI (w := rw) (wr := u ++ T) (TT := T) (As := [.int (xs (Int32.toNatClampNeg (i + 1))), .int (xs (Int32.toNatClampNeg (i + 2)))]) (rest := []) F hE hP hD hS hA hl.1 (perm_of (fun c f h h1 h0 => by simp only [h] <;> ac_rfl)) (fun q hq => List.mem_append_right _ hq) hZ (rx_pull l D cy T kt vt m0 x ix md rw (xs (Int32.toNatClampNeg (i + 1))) (xs (Int32.toNatClampNeg (i + 2))) hrb) q_m_L_60 mv_X12_pull ⟨(Nat.le_of_ble_eq_true rfl), (Nat.le_of_ble_eq_true rfl)⟩ hfsu2 rfl rfl rfl rfl (Nat.le_of_ble_eq_true rfl) ⟨by show C + 0 + 0 ≤ 600000; omega, by show S + 0 + 0 ≤ 7302250; omega⟩ dL_law_488 (fun r2 u2 H locs hu2 hP hD hS => ?_)
  refine lv_pop hx hb dL_law_491 rfl ?_
  refine lv_goto (tgt := 1260) hx hb dL_law_492 (by decide) ?_
  exact kk u u2 T x ix md H locs ls _ _ (by omega) (by omega) hu hu2 (hP.perm (perm_of (fun c f h h1 h0 => by simp only [h] <;> ac_rfl))) (hD.perm (perm_of (fun c f h h1 h0 => by simp only [h] <;> ac_rfl))) hS hl

set_option maxHeartbeats 4000000 in
set_option maxRecDepth 100000 in
theorem lc_breath {p : Program} {l : Launch} {e : Env} {s : State} {m : MethodId} {below : List Frame} {meth : Method} {c : Code} {b L : Nat} {xs : Nat → Int32} {D : va_G} {cy : Nat → ClassId} {A : Nat → Prop} {kt vt : Nat} (F : kF p s m meth c code 4 ret #[Value.ref b] RL) (hE : kE D (kTY cy) s) (hX : va_X b L xs s s.heap) (hbl : b < s.heap.size) (hAA : ∀ q : Nat, A q → s.heap.size ≤ q) (hA : ∀ q : Nat, s.heap.size ≤ q → A q) (hZ : ZT kt vt A s s.heap) (hL : L ≤ 3072) (i : Int32) (hi0 : 0 ≤ i.toInt) (hi6 : i.toInt + 6 ≤ (L : Int)) (o m0 : Nat) {cw rw T : va_W} {x : Int32} {ix md : Nat → Int32} (hcb : LCB cy T o x ix md cw) (hrb : LRB cy m0 x ix md rw) {H : Heap} {locs : List Loc} (hP : va_P D vwCl (cw ++ (rw ++ T)) H) (hD : va_D A (cw ++ (rw ++ T))) (hS : va_S A s.heap H locs) {ls : Array Slot} (hl : lv_has ls 4 [(3, .int i), (2, .ref m0), (1, .ref o), (0, .ref b)]) {C S : Nat} (hC : C + 2 ≤ 600000) (hSl : S + 414 ≤ 7302250) (kk : ∀ (cw rw T : va_W) (x : Int32) (ix md : Nat → Int32) (H : Heap) (locs : List Loc) (ls : Array Slot) (C1 S1 : Nat), C1 ≤ C + 2 → S1 ≤ S + 414 → LCB cy T o x ix md cw → LRB cy m0 x ix md rw → va_P D vwCl (cw ++ (rw ++ T)) H → va_D A (cw ++ (rw ++ T)) → va_S A s.heap H locs → lv_has ls 4 [(3, .int i), (2, .ref m0), (1, .ref o), (0, .ref b)] → W p l e room_1 s m #[Value.ref b] below meth c H locs C1 S1 (lw_Z below #[Value.ref b] s) (F0 m 1260 ls [])) : W p l e room_1 s m #[Value.ref b] below meth c H locs C S (lw_Z below #[Value.ref b] s) (F0 m 495 ls []) := by
  obtain ⟨hx, hb, hr, hml, hown, hG, hlk⟩ := id F
  have hbA : ¬ A b := fun h => absurd (hAA b h) (Nat.not_le.mpr hbl)
  have j1 : (i + 1).toInt = i.toInt + 1 := k_addI rfl rfl (by decide) (by omega)
  have j2 : (i + 2).toInt = i.toInt + 2 := k_addI rfl rfl (by decide) (by omega)
  have j3 : (i + 3).toInt = i.toInt + 3 := k_addI rfl rfl (by decide) (by omega)
  have j4 : (i + 4).toInt = i.toInt + 4 := k_addI rfl rfl (by decide) (by omega)
  have j5 : (i + 5).toInt = i.toInt + 5 := k_addI rfl rfl (by decide) (by omega)
  refine lv_aload_n hx hb dL_law_495 rfl (lv_at hl 2 rfl) ?_
  refine lv_aload_n hx hb dL_law_496 rfl (lv_at hl 3 rfl) ?_
  refine lv_iload_n hx hb dL_law_497 rfl (lv_at hl 0 rfl) ?_
  refine lv_iconst (v := 1) hx hb dL_law_498 (by decide) ?_
  refine lv_iadd hx hb dL_law_499 ?_
  refine va_sld hx hb hX hbl hbA hS (k_in (by omega)) dL_law_500 ?_
  obtain ⟨fsu, hfsu⟩ := hcb.recv
  refine lwI (w := cw) (wr := rw ++ T) (TT := T) (As := [.int (xs (Int32.toNatClampNeg (i + 1)))]) (rest := []) F hE hP hD hS hA hl.1 (List.Perm.refl _) (fun q hq => List.mem_append_right _ hq) hZ (bx_breath l D cy T kt vt o x ix md cw (xs (Int32.toNatClampNeg (i + 1))) hcb) q_m_L_61 mv_X11_breath ⟨(Nat.le_of_ble_eq_true rfl), (Nat.le_of_ble_eq_true rfl)⟩ hfsu rfl rfl rfl rfl (Nat.le_of_ble_eq_true rfl) ⟨by show C + 0 ≤ 600000; omega, by show S + 0 ≤ 7302250; omega⟩ dL_law_501 (fun r u H locs hu hP hD hS => ?_)
  refine lv_pop hx hb dL_law_504 rfl ?_
  refine lv_aload_n hx hb dL_law_505 rfl (lv_at hl 1 rfl) ?_
  refine lv_aload_n hx hb dL_law_506 rfl (lv_at hl 3 rfl) ?_
  refine lv_iload_n hx hb dL_law_507 rfl (lv_at hl 0 rfl) ?_
  refine lv_iconst (v := 1) hx hb dL_law_508 (by decide) ?_
  refine lv_iadd hx hb dL_law_509 ?_
  refine va_sld hx hb hX hbl hbA hS (k_in (by omega)) dL_law_510 ?_
  obtain ⟨fsu2, hfsu2⟩ := hrb.recv
  refine lwI (w := rw) (wr := u ++ T) (TT := T) (As := [.int (xs (Int32.toNatClampNeg (i + 1)))]) (rest := []) F hE hP hD hS hA hl.1 (perm_of (fun c f h h1 h0 => by simp only [h] <;> ac_rfl)) (fun q hq => List.mem_append_right _ hq) hZ (rx_breath l D cy T kt vt m0 x ix md rw (xs (Int32.toNatClampNeg (i + 1))) hrb) q_m_L_64 mv_X12_breath ⟨(Nat.le_of_ble_eq_true rfl), (Nat.le_of_ble_eq_true rfl)⟩ hfsu2 rfl rfl rfl rfl (Nat.le_of_ble_eq_true rfl) ⟨by show C + 0 + 0 ≤ 600000; omega, by show S + 0 + 0 ≤ 7302250; omega⟩ dL_law_511 (fun r2 u2 H locs hu2 hP hD hS => ?_)
  refine lv_pop hx hb dL_law_514 rfl ?_
  refine lv_goto (tgt := 1260) hx hb dL_law_515 (by decide) ?_
  exact kk u u2 T x ix md H locs ls _ _ (by omega) (by omega) hu hu2 (hP.perm (perm_of (fun c f h h1 h0 => by simp only [h] <;> ac_rfl))) (hD.perm (perm_of (fun c f h h1 h0 => by simp only [h] <;> ac_rfl))) hS hl
