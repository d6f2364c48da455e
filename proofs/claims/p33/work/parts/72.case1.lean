set_option maxHeartbeats 4000000 in
set_option maxRecDepth 100000 in
theorem lc_teach {p : Program} {l : Launch} {e : Env} {s : State} {m : MethodId} {below : List Frame} {meth : Method} {c : Code} {b L : Nat} {xs : Nat → Int32} {D : va_G} {cy : Nat → ClassId} {A : Nat → Prop} {kt vt : Nat} (F : kF p s m meth c code 4 ret #[Value.ref b] RL) (hE : kE D (kTY cy) s) (hX : va_X b L xs s s.heap) (hbl : b < s.heap.size) (hAA : ∀ q : Nat, A q → s.heap.size ≤ q) (hA : ∀ q : Nat, s.heap.size ≤ q → A q) (hZ : ZT kt vt A s s.heap) (hL : L ≤ 3072) (i : Int32) (hi0 : 0 ≤ i.toInt) (hi6 : i.toInt + 6 ≤ (L : Int)) (o m0 : Nat) {cw rw T : va_W} {x : Int32} {ix md : Nat → Int32} (hcb : LCB cy T o x ix md cw) (hrb : LRB cy m0 x ix md rw) {H : Heap} {locs : List Loc} (hP : va_P D vwCl (cw ++ (rw ++ T)) H) (hD : va_D A (cw ++ (rw ++ T))) (hS : va_S A s.heap H locs) {ls : Array Slot} (hl : lv_has ls 4 [(3, .int i), (2, .ref m0), (1, .ref o), (0, .ref b)]) {C S : Nat} (hC : C + 2 ≤ 600000) (hSl : S + 414 ≤ 7302250) (kk : ∀ (cw rw T : va_W) (x : Int32) (ix md : Nat → Int32) (H : Heap) (locs : List Loc) (ls : Array Slot) (C1 S1 : Nat), C1 ≤ C + 2 → S1 ≤ S + 414 → LCB cy T o x ix md cw → LRB cy m0 x ix md rw → va_P D vwCl (cw ++ (rw ++ T)) H → va_D A (cw ++ (rw ++ T)) → va_S A s.heap H locs → lv_has ls 4 [(3, .int i), (2, .ref m0), (1, .ref o), (0, .ref b)] → W p l e room_1 s m #[Value.ref b] below meth c H locs C1 S1 (lw_Z below #[Value.ref b] s) (F0 m 1260 ls [])) : W p l e room_1 s m #[Value.ref b] below meth c H locs C S (lw_Z below #[Value.ref b] s) (F0 m 518 ls []) := by
  obtain ⟨hx, hb, hr, hml, hown, hG, hlk⟩ := id F
  have hbA : ¬ A b := fun h => absurd (hAA b h) (Nat.not_le.mpr hbl)
  have j1 : (i + 1).toInt = i.toInt + 1 := k_addI rfl rfl (by decide) (by omega)
  have j2 : (i + 2).toInt = i.toInt + 2 := k_addI rfl rfl (by decide) (by omega)
  have j3 : (i + 3).toInt = i.toInt + 3 := k_addI rfl rfl (by decide) (by omega)
  have j4 : (i + 4).toInt = i.toInt + 4 := k_addI rfl rfl (by decide) (by omega)
  have j5 : (i + 5).toInt = i.toInt + 5 := k_addI rfl rfl (by decide) (by omega)
  refine lv_aload_n hx hb dL_law_518 rfl (lv_at hl 2 rfl) ?_
  refine lv_aload_n hx hb dL_law_519 rfl (lv_at hl 3 rfl) ?_
  refine lv_iload_n hx hb dL_law_520 rfl (lv_at hl 0 rfl) ?_
  refine lv_iconst (v := 1) hx hb dL_law_521 (by decide) ?_
  refine lv_iadd hx hb dL_law_522 ?_
  refine va_sld hx hb hX hbl hbA hS (k_in (by omega)) dL_law_523 ?_
  refine lv_aload_n hx hb dL_law_524 rfl (lv_at hl 3 rfl) ?_
  refine lv_iload_n hx hb dL_law_525 rfl (lv_at hl 0 rfl) ?_
  refine lv_iconst (v := 2) hx hb dL_law_526 (by decide) ?_
  refine lv_iadd hx hb dL_law_527 ?_
  refine va_sld hx hb hX hbl hbA hS (k_in (by omega)) dL_law_528 ?_
  obtain ⟨fsu, hfsu⟩ := hcb.recv
  refine lwI (w := cw) (wr := rw ++ T) (TT := T) (As := [.int (xs (Int32.toNatClampNeg (i + 1))), .int (xs (Int32.toNatClampNeg (i + 2)))]) (rest := []) F hE hP hD hS hA hl.1 (List.Perm.refl _) (fun q hq => List.mem_append_right _ hq) hZ (bx_teach l D cy T kt vt o x ix md cw (xs (Int32.toNatClampNeg (i + 1))) (xs (Int32.toNatClampNeg (i + 2))) hcb) q_m_L_65 mv_X11_teach ⟨(Nat.le_of_ble_eq_true rfl), (Nat.le_of_ble_eq_true rfl)⟩ hfsu rfl rfl rfl rfl (Nat.le_of_ble_eq_true rfl) ⟨by show C + 0 ≤ 600000; omega, by show S + 0 ≤ 7302250; omega⟩ dL_law_529 (fun r u H locs hu hP hD hS => ?_)
  refine lv_pop hx hb dL_law_532 rfl ?_
  refine lv_aload_n hx hb dL_law_533 rfl (lv_at hl 1 rfl) ?_
  refine lv_aload_n hx hb dL_law_534 rfl (lv_at hl 3 rfl) ?_
  refine lv_iload_n hx hb dL_law_535 rfl (lv_at hl 0 rfl) ?_
  refine lv_iconst (v := 1) hx hb dL_law_536 (by decide) ?_
  refine lv_iadd hx hb dL_law_537 ?_
  refine va_sld hx hb hX hbl hbA hS (k_in (by omega)) dL_law_538 ?_
  refine lv_aload_n hx hb dL_law_539 rfl (lv_at hl 3 rfl) ?_
  refine lv_iload_n hx hb dL_law_540 rfl (lv_at hl 0 rfl) ?_
  refine lv_iconst (v := 2) hx hb dL_law_541 (by decide) ?_
  refine lv_iadd hx hb dL_law_542 ?_
  refine va_sld hx hb hX hbl hbA hS (k_in (by omega)) dL_law_543 ?_
  obtain ⟨fsu2, hfsu2⟩ := hrb.recv
  refine lwI (w := rw) (wr := u ++ T) (TT := T) (As := [.int (xs (Int32.toNatClampNeg (i + 1))), .int (xs (Int32.toNatClampNeg (i + 2)))]) (rest := []) F hE hP hD hS hA hl.1 (perm_of (fun c f h h1 h0 => by simp only [h] <;> ac_rfl)) (fun q hq => List.mem_append_right _ hq) hZ (rx_teach l D cy T kt vt m0 x ix md rw (xs (Int32.toNatClampNeg (i + 1))) (xs (Int32.toNatClampNeg (i + 2))) hrb) q_m_L_68 mv_X12_teach ⟨(Nat.le_of_ble_eq_true rfl), (Nat.le_of_ble_eq_true rfl)⟩ hfsu2 rfl rfl rfl rfl (Nat.le_of_ble_eq_true rfl) ⟨by show C + 0 + 0 ≤ 600000; omega, by show S + 0 + 0 ≤ 7302250; omega⟩ dL_law_544 (fun r2 u2 H locs hu2 hP hD hS => ?_)
  refine lv_pop hx hb dL_law_547 rfl ?_
  refine lv_goto (tgt := 1260) hx hb dL_law_548 (by decide) ?_
  exact kk u u2 T x ix md H locs ls _ _ (by omega) (by omega) hu hu2 (hP.perm (perm_of (fun c f h h1 h0 => by simp only [h] <;> ac_rfl))) (hD.perm (perm_of (fun c f h h1 h0 => by simp only [h] <;> ac_rfl))) hS hl

set_option maxHeartbeats 4000000 in
set_option maxRecDepth 100000 in
theorem lc_undo {p : Program} {l : Launch} {e : Env} {s : State} {m : MethodId} {below : List Frame} {meth : Method} {c : Code} {b L : Nat} {xs : Nat → Int32} {D : va_G} {cy : Nat → ClassId} {A : Nat → Prop} {kt vt : Nat} (F : kF p s m meth c code 4 ret #[Value.ref b] RL) (hE : kE D (kTY cy) s) (hX : va_X b L xs s s.heap) (hbl : b < s.heap.size) (hAA : ∀ q : Nat, A q → s.heap.size ≤ q) (hA : ∀ q : Nat, s.heap.size ≤ q → A q) (hZ : ZT kt vt A s s.heap) (hL : L ≤ 3072) (i : Int32) (hi0 : 0 ≤ i.toInt) (hi6 : i.toInt + 6 ≤ (L : Int)) (o m0 : Nat) {cw rw T : va_W} {x : Int32} {ix md : Nat → Int32} (hcb : LCB cy T o x ix md cw) (hrb : LRB cy m0 x ix md rw) {H : Heap} {locs : List Loc} (hP : va_P D vwCl (cw ++ (rw ++ T)) H) (hD : va_D A (cw ++ (rw ++ T))) (hS : va_S A s.heap H locs) {ls : Array Slot} (hl : lv_has ls 4 [(3, .int i), (2, .ref m0), (1, .ref o), (0, .ref b)]) {C S : Nat} (hC : C + 2 ≤ 600000) (hSl : S + 414 ≤ 7302250) (kk : ∀ (cw rw T : va_W) (x : Int32) (ix md : Nat → Int32) (H : Heap) (locs : List Loc) (ls : Array Slot) (C1 S1 : Nat), C1 ≤ C + 2 → S1 ≤ S + 414 → LCB cy T o x ix md cw → LRB cy m0 x ix md rw → va_P D vwCl (cw ++ (rw ++ T)) H → va_D A (cw ++ (rw ++ T)) → va_S A s.heap H locs → lv_has ls 4 [(3, .int i), (2, .ref m0), (1, .ref o), (0, .ref b)] → W p l e room_1 s m #[Value.ref b] below meth c H locs C1 S1 (lw_Z below #[Value.ref b] s) (F0 m 1260 ls [])) : W p l e room_1 s m #[Value.ref b] below meth c H locs C S (lw_Z below #[Value.ref b] s) (F0 m 551 ls []) := by
  obtain ⟨hx, hb, hr, hml, hown, hG, hlk⟩ := id F
  have hbA : ¬ A b := fun h => absurd (hAA b h) (Nat.not_le.mpr hbl)
  have j1 : (i + 1).toInt = i.toInt + 1 := k_addI rfl rfl (by decide) (by omega)
  have j2 : (i + 2).toInt = i.toInt + 2 := k_addI rfl rfl (by decide) (by omega)
  have j3 : (i + 3).toInt = i.toInt + 3 := k_addI rfl rfl (by decide) (by omega)
  have j4 : (i + 4).toInt = i.toInt + 4 := k_addI rfl rfl (by decide) (by omega)
  have j5 : (i + 5).toInt = i.toInt + 5 := k_addI rfl rfl (by decide) (by omega)
  refine lv_aload_n hx hb dL_law_551 rfl (lv_at hl 2 rfl) ?_
  obtain ⟨fsu, hfsu⟩ := hcb.recv
  refine lwI (w := cw) (wr := rw ++ T) (TT := T) (As := []) (rest := []) F hE hP hD hS hA hl.1 (List.Perm.refl _) (fun q hq => List.mem_append_right _ hq) hZ (bx_undo l D cy T kt vt o x ix md cw  hcb) q_m_L_69 mv_X11_undo ⟨(Nat.le_of_ble_eq_true rfl), (Nat.le_of_ble_eq_true rfl)⟩ hfsu rfl rfl rfl rfl (Nat.le_of_ble_eq_true rfl) ⟨by show C + 0 ≤ 600000; omega, by show S + 0 ≤ 7302250; omega⟩ dL_law_552 (fun r u H locs hu hP hD hS => ?_)
  refine lv_pop hx hb dL_law_555 rfl ?_
  refine lv_aload_n hx hb dL_law_556 rfl (lv_at hl 1 rfl) ?_
  obtain ⟨fsu2, hfsu2⟩ := hrb.recv
  refine lwI (w := rw) (wr := u ++ T) (TT := T) (As := []) (rest := []) F hE hP hD hS hA hl.1 (perm_of (fun c f h h1 h0 => by simp only [h] <;> ac_rfl)) (fun q hq => List.mem_append_right _ hq) hZ (rx_undo l D cy T kt vt m0 x ix md rw  hrb) q_m_L_72 mv_X12_undo ⟨(Nat.le_of_ble_eq_true rfl), (Nat.le_of_ble_eq_true rfl)⟩ hfsu2 rfl rfl rfl rfl (Nat.le_of_ble_eq_true rfl) ⟨by show C + 0 + 0 ≤ 600000; omega, by show S + 0 + 0 ≤ 7302250; omega⟩ dL_law_557 (fun r2 u2 H locs hu2 hP hD hS => ?_)
  refine lv_pop hx hb dL_law_560 rfl ?_
  refine lv_goto (tgt := 1260) hx hb dL_law_561 (by decide) ?_
  exact kk u u2 T x ix md H locs ls _ _ (by omega) (by omega) hu hu2 (hP.perm (perm_of (fun c f h h1 h0 => by simp only [h] <;> ac_rfl))) (hD.perm (perm_of (fun c f h h1 h0 => by simp only [h] <;> ac_rfl))) hS hl

set_option maxHeartbeats 4000000 in
set_option maxRecDepth 100000 in
theorem lc_ahead {p : Program} {l : Launch} {e : Env} {s : State} {m : MethodId} {below : List Frame} {meth : Method} {c : Code} {b L : Nat} {xs : Nat → Int32} {D : va_G} {cy : Nat → ClassId} {A : Nat → Prop} {kt vt : Nat} (F : kF p s m meth c code 4 ret #[Value.ref b] RL) (hE : kE D (kTY cy) s) (hX : va_X b L xs s s.heap) (hbl : b < s.heap.size) (hAA : ∀ q : Nat, A q → s.heap.size ≤ q) (hA : ∀ q : Nat, s.heap.size ≤ q → A q) (hZ : ZT kt vt A s s.heap) (hL : L ≤ 3072) (i : Int32) (hi0 : 0 ≤ i.toInt) (hi6 : i.toInt + 6 ≤ (L : Int)) (o m0 : Nat) {cw rw T : va_W} {x : Int32} {ix md : Nat → Int32} (hcb : LCB cy T o x ix md cw) (hrb : LRB cy m0 x ix md rw) {H : Heap} {locs : List Loc} (hP : va_P D vwCl (cw ++ (rw ++ T)) H) (hD : va_D A (cw ++ (rw ++ T))) (hS : va_S A s.heap H locs) {ls : Array Slot} (hl : lv_has ls 4 [(3, .int i), (2, .ref m0), (1, .ref o), (0, .ref b)]) {C S : Nat} (hC : C + 2 ≤ 600000) (hSl : S + 414 ≤ 7302250) (kk : ∀ (cw rw T : va_W) (x : Int32) (ix md : Nat → Int32) (H : Heap) (locs : List Loc) (ls : Array Slot) (C1 S1 : Nat), C1 ≤ C + 2 → S1 ≤ S + 414 → LCB cy T o x ix md cw → LRB cy m0 x ix md rw → va_P D vwCl (cw ++ (rw ++ T)) H → va_D A (cw ++ (rw ++ T)) → va_S A s.heap H locs → lv_has ls 4 [(3, .int i), (2, .ref m0), (1, .ref o), (0, .ref b)] → W p l e room_1 s m #[Value.ref b] below meth c H locs C1 S1 (lw_Z below #[Value.ref b] s) (F0 m 1260 ls [])) : W p l e room_1 s m #[Value.ref b] below meth c H locs C S (lw_Z below #[Value.ref b] s) (F0 m 564 ls []) := by
  obtain ⟨hx, hb, hr, hml, hown, hG, hlk⟩ := id F
  have hbA : ¬ A b := fun h => absurd (hAA b h) (Nat.not_le.mpr hbl)
  have j1 : (i + 1).toInt = i.toInt + 1 := k_addI rfl rfl (by decide) (by omega)
  have j2 : (i + 2).toInt = i.toInt + 2 := k_addI rfl rfl (by decide) (by omega)
  have j3 : (i + 3).toInt = i.toInt + 3 := k_addI rfl rfl (by decide) (by omega)
  have j4 : (i + 4).toInt = i.toInt + 4 := k_addI rfl rfl (by decide) (by omega)
  have j5 : (i + 5).toInt = i.toInt + 5 := k_addI rfl rfl (by decide) (by omega)
  refine lv_aload_n hx hb dL_law_564 rfl (lv_at hl 2 rfl) ?_
  refine lv_aload_n hx hb dL_law_565 rfl (lv_at hl 3 rfl) ?_
  refine lv_iload_n hx hb dL_law_566 rfl (lv_at hl 0 rfl) ?_
  refine lv_iconst (v := 1) hx hb dL_law_567 (by decide) ?_
  refine lv_iadd hx hb dL_law_568 ?_
  refine va_sld hx hb hX hbl hbA hS (k_in (by omega)) dL_law_569 ?_
  refine lv_aload_n hx hb dL_law_570 rfl (lv_at hl 3 rfl) ?_
  refine lv_iload_n hx hb dL_law_571 rfl (lv_at hl 0 rfl) ?_
  refine lv_iconst (v := 2) hx hb dL_law_572 (by decide) ?_
  refine lv_iadd hx hb dL_law_573 ?_
  refine va_sld hx hb hX hbl hbA hS (k_in (by omega)) dL_law_574 ?_
  refine lv_aload_n hx hb dL_law_575 rfl (lv_at hl 3 rfl) ?_
  refine lv_iload_n hx hb dL_law_576 rfl (lv_at hl 0 rfl) ?_
  refine lv_iconst (v := 3) hx hb dL_law_577 (by decide) ?_
  refine lv_iadd hx hb dL_law_578 ?_
  refine va_sld hx hb hX hbl hbA hS (k_in (by omega)) dL_law_579 ?_
  obtain ⟨fsu, hfsu⟩ := hcb.recv
  refine lwI (w := cw) (wr := rw ++ T) (TT := T) (As := [.int (xs (Int32.toNatClampNeg (i + 1))), .int (xs (Int32.toNatClampNeg (i + 2))), .int (xs (Int32.toNatClampNeg (i + 3)))]) (rest := []) F hE hP hD hS hA hl.1 (List.Perm.refl _) (fun q hq => List.mem_append_right _ hq) hZ (bx_ahead l D cy T kt vt o x ix md cw (xs (Int32.toNatClampNeg (i + 1))) (xs (Int32.toNatClampNeg (i + 2))) (xs (Int32.toNatClampNeg (i + 3))) hcb) q_m_L_73 mv_X11_ahead ⟨(Nat.le_of_ble_eq_true rfl), (Nat.le_of_ble_eq_true rfl)⟩ hfsu rfl rfl rfl rfl (Nat.le_of_ble_eq_true rfl) ⟨by show C + 0 ≤ 600000; omega, by show S + 0 ≤ 7302250; omega⟩ dL_law_580 (fun r u H locs hu hP hD hS => ?_)
  refine lv_pop hx hb dL_law_583 rfl ?_
  refine lv_aload_n hx hb dL_law_584 rfl (lv_at hl 1 rfl) ?_
  refine lv_aload_n hx hb dL_law_585 rfl (lv_at hl 3 rfl) ?_
  refine lv_iload_n hx hb dL_law_586 rfl (lv_at hl 0 rfl) ?_
  refine lv_iconst (v := 1) hx hb dL_law_587 (by decide) ?_
  refine lv_iadd hx hb dL_law_588 ?_
  refine va_sld hx hb hX hbl hbA hS (k_in (by omega)) dL_law_589 ?_
  refine lv_aload_n hx hb dL_law_590 rfl (lv_at hl 3 rfl) ?_
  refine lv_iload_n hx hb dL_law_591 rfl (lv_at hl 0 rfl) ?_
  refine lv_iconst (v := 2) hx hb dL_law_592 (by decide) ?_
  refine lv_iadd hx hb dL_law_593 ?_
  refine va_sld hx hb hX hbl hbA hS (k_in (by omega)) dL_law_594 ?_
  refine lv_aload_n hx hb dL_law_595 rfl (lv_at hl 3 rfl) ?_
  refine lv_iload_n hx hb dL_law_596 rfl (lv_at hl 0 rfl) ?_
  refine lv_iconst (v := 3) hx hb dL_law_597 (by decide) ?_
  refine lv_iadd hx hb dL_law_598 ?_
  refine va_sld hx hb hX hbl hbA hS (k_in (by omega)) dL_law_599 ?_
  obtain ⟨fsu2, hfsu2⟩ := hrb.recv
  refine lwI (w := rw) (wr := u ++ T) (TT := T) (As := [.int (xs (Int32.toNatClampNeg (i + 1))), .int (xs (Int32.toNatClampNeg (i + 2))), .int (xs (Int32.toNatClampNeg (i + 3)))]) (rest := []) F hE hP hD hS hA hl.1 (perm_of (fun c f h h1 h0 => by simp only [h] <;> ac_rfl)) (fun q hq => List.mem_append_right _ hq) hZ (rx_ahead l D cy T kt vt m0 x ix md rw (xs (Int32.toNatClampNeg (i + 1))) (xs (Int32.toNatClampNeg (i + 2))) (xs (Int32.toNatClampNeg (i + 3))) hrb) q_m_L_77 mv_X12_ahead ⟨(Nat.le_of_ble_eq_true rfl), (Nat.le_of_ble_eq_true rfl)⟩ hfsu2 rfl rfl rfl rfl (Nat.le_of_ble_eq_true rfl) ⟨by show C + 0 + 0 ≤ 600000; omega, by show S + 0 + 0 ≤ 7302250; omega⟩ dL_law_600 (fun r2 u2 H locs hu2 hP hD hS => ?_)
  refine lv_pop hx hb dL_law_603 rfl ?_
  refine lv_goto (tgt := 1260) hx hb dL_law_604 (by decide) ?_
  exact kk u u2 T x ix md H locs ls _ _ (by omega) (by omega) hu hu2 (hP.perm (perm_of (fun c f h h1 h0 => by simp only [h] <;> ac_rfl))) (hD.perm (perm_of (fun c f h h1 h0 => by simp only [h] <;> ac_rfl))) hS hl

set_option maxHeartbeats 4000000 in
set_option maxRecDepth 100000 in
theorem lc_eased {p : Program} {l : Launch} {e : Env} {s : State} {m : MethodId} {below : List Frame} {meth : Method} {c : Code} {b L : Nat} {xs : Nat → Int32} {D : va_G} {cy : Nat → ClassId} {A : Nat → Prop} {kt vt : Nat} (F : kF p s m meth c code 4 ret #[Value.ref b] RL) (hE : kE D (kTY cy) s) (hX : va_X b L xs s s.heap) (hbl : b < s.heap.size) (hAA : ∀ q : Nat, A q → s.heap.size ≤ q) (hA : ∀ q : Nat, s.heap.size ≤ q → A q) (hZ : ZT kt vt A s s.heap) (hL : L ≤ 3072) (i : Int32) (hi0 : 0 ≤ i.toInt) (hi6 : i.toInt + 6 ≤ (L : Int)) (o m0 : Nat) {cw rw T : va_W} {x : Int32} {ix md : Nat → Int32} (hcb : LCB cy T o x ix md cw) (hrb : LRB cy m0 x ix md rw) {H : Heap} {locs : List Loc} (hP : va_P D vwCl (cw ++ (rw ++ T)) H) (hD : va_D A (cw ++ (rw ++ T))) (hS : va_S A s.heap H locs) {ls : Array Slot} (hl : lv_has ls 4 [(3, .int i), (2, .ref m0), (1, .ref o), (0, .ref b)]) {C S : Nat} (hC : C + 2 ≤ 600000) (hSl : S + 414 ≤ 7302250) (kk : ∀ (cw rw T : va_W) (x : Int32) (ix md : Nat → Int32) (H : Heap) (locs : List Loc) (ls : Array Slot) (C1 S1 : Nat), C1 ≤ C + 2 → S1 ≤ S + 414 → LCB cy T o x ix md cw → LRB cy m0 x ix md rw → va_P D vwCl (cw ++ (rw ++ T)) H → va_D A (cw ++ (rw ++ T)) → va_S A s.heap H locs → lv_has ls 4 [(3, .int i), (2, .ref m0), (1, .ref o), (0, .ref b)] → W p l e room_1 s m #[Value.ref b] below meth c H locs C1 S1 (lw_Z below #[Value.ref b] s) (F0 m 1260 ls [])) : W p l e room_1 s m #[Value.ref b] below meth c H locs C S (lw_Z below #[Value.ref b] s) (F0 m 607 ls []) := by
  obtain ⟨hx, hb, hr, hml, hown, hG, hlk⟩ := id F
  have hbA : ¬ A b := fun h => absurd (hAA b h) (Nat.not_le.mpr hbl)
  have j1 : (i + 1).toInt = i.toInt + 1 := k_addI rfl rfl (by decide) (by omega)
  have j2 : (i + 2).toInt = i.toInt + 2 := k_addI rfl rfl (by decide) (by omega)
  have j3 : (i + 3).toInt = i.toInt + 3 := k_addI rfl rfl (by decide) (by omega)
  have j4 : (i + 4).toInt = i.toInt + 4 := k_addI rfl rfl (by decide) (by omega)
  have j5 : (i + 5).toInt = i.toInt + 5 := k_addI rfl rfl (by decide) (by omega)
  refine lv_aload_n hx hb dL_law_607 rfl (lv_at hl 2 rfl) ?_
  refine lv_aload_n hx hb dL_law_608 rfl (lv_at hl 3 rfl) ?_
  refine lv_iload_n hx hb dL_law_609 rfl (lv_at hl 0 rfl) ?_
  refine lv_iconst (v := 1) hx hb dL_law_610 (by decide) ?_
  refine lv_iadd hx hb dL_law_611 ?_
  refine va_sld hx hb hX hbl hbA hS (k_in (by omega)) dL_law_612 ?_
  obtain ⟨fsu, hfsu⟩ := hcb.recv
  refine lwI (w := cw) (wr := rw ++ T) (TT := T) (As := [.int (xs (Int32.toNatClampNeg (i + 1)))]) (rest := []) F hE hP hD hS hA hl.1 (List.Perm.refl _) (fun q hq => List.mem_append_right _ hq) hZ (bx_eased l D cy T kt vt o x ix md cw (xs (Int32.toNatClampNeg (i + 1))) hcb) q_m_L_78 mv_X11_eased ⟨(Nat.le_of_ble_eq_true rfl), (Nat.le_of_ble_eq_true rfl)⟩ hfsu rfl rfl rfl rfl (Nat.le_of_ble_eq_true rfl) ⟨by show C + 0 ≤ 600000; omega, by show S + 0 ≤ 7302250; omega⟩ dL_law_613 (fun r u H locs hu hP hD hS => ?_)
  refine lv_pop hx hb dL_law_616 rfl ?_
  refine lv_aload_n hx hb dL_law_617 rfl (lv_at hl 1 rfl) ?_
  refine lv_aload_n hx hb dL_law_618 rfl (lv_at hl 3 rfl) ?_
  refine lv_iload_n hx hb dL_law_619 rfl (lv_at hl 0 rfl) ?_
  refine lv_iconst (v := 1) hx hb dL_law_620 (by decide) ?_
  refine lv_iadd hx hb dL_law_621 ?_
  refine va_sld hx hb hX hbl hbA hS (k_in (by omega)) dL_law_622 ?_
  obtain ⟨fsu2, hfsu2⟩ := hrb.recv
  refine lwI (w := rw) (wr := u ++ T) (TT := T) (As := [.int (xs (Int32.toNatClampNeg (i + 1)))]) (rest := []) F hE hP hD hS hA hl.1 (perm_of (fun c f h h1 h0 => by simp only [h] <;> ac_rfl)) (fun q hq => List.mem_append_right _ hq) hZ (rx_eased l D cy T kt vt m0 x ix md rw (xs (Int32.toNatClampNeg (i + 1))) hrb) q_m_L_81 mv_X12_eased ⟨(Nat.le_of_ble_eq_true rfl), (Nat.le_of_ble_eq_true rfl)⟩ hfsu2 rfl rfl rfl rfl (Nat.le_of_ble_eq_true rfl) ⟨by show C + 0 + 0 ≤ 600000; omega, by show S + 0 + 0 ≤ 7302250; omega⟩ dL_law_623 (fun r2 u2 H locs hu2 hP hD hS => ?_)
  refine lv_pop hx hb dL_law_626 rfl ?_
  refine lv_goto (tgt := 1260) hx hb dL_law_627 (by decide) ?_
  exact kk u u2 T x ix md H locs ls _ _ (by omega) (by omega) hu hu2 (hP.perm (perm_of (fun c f h h1 h0 => by simp only [h] <;> ac_rfl))) (hD.perm (perm_of (fun c f h h1 h0 => by simp only [h] <;> ac_rfl))) hS hl

set_option maxHeartbeats 4000000 in
set_option maxRecDepth 100000 in
theorem lc_allEased {p : Program} {l : Launch} {e : Env} {s : State} {m : MethodId} {below : List Frame} {meth : Method} {c : Code} {b L : Nat} {xs : Nat → Int32} {D : va_G} {cy : Nat → ClassId} {A : Nat → Prop} {kt vt : Nat} (F : kF p s m meth c code 4 ret #[Value.ref b] RL) (hE : kE D (kTY cy) s) (hX : va_X b L xs s s.heap) (hbl : b < s.heap.size) (hAA : ∀ q : Nat, A q → s.heap.size ≤ q) (hA : ∀ q : Nat, s.heap.size ≤ q → A q) (hZ : ZT kt vt A s s.heap) (hL : L ≤ 3072) (i : Int32) (hi0 : 0 ≤ i.toInt) (hi6 : i.toInt + 6 ≤ (L : Int)) (o m0 : Nat) {cw rw T : va_W} {x : Int32} {ix md : Nat → Int32} (hcb : LCB cy T o x ix md cw) (hrb : LRB cy m0 x ix md rw) {H : Heap} {locs : List Loc} (hP : va_P D vwCl (cw ++ (rw ++ T)) H) (hD : va_D A (cw ++ (rw ++ T))) (hS : va_S A s.heap H locs) {ls : Array Slot} (hl : lv_has ls 4 [(3, .int i), (2, .ref m0), (1, .ref o), (0, .ref b)]) {C S : Nat} (hC : C + 2 ≤ 600000) (hSl : S + 414 ≤ 7302250) (kk : ∀ (cw rw T : va_W) (x : Int32) (ix md : Nat → Int32) (H : Heap) (locs : List Loc) (ls : Array Slot) (C1 S1 : Nat), C1 ≤ C + 2 → S1 ≤ S + 414 → LCB cy T o x ix md cw → LRB cy m0 x ix md rw → va_P D vwCl (cw ++ (rw ++ T)) H → va_D A (cw ++ (rw ++ T)) → va_S A s.heap H locs → lv_has ls 4 [(3, .int i), (2, .ref m0), (1, .ref o), (0, .ref b)] → W p l e room_1 s m #[Value.ref b] below meth c H locs C1 S1 (lw_Z below #[Value.ref b] s) (F0 m 1260 ls [])) : W p l e room_1 s m #[Value.ref b] below meth c H locs C S (lw_Z below #[Value.ref b] s) (F0 m 630 ls []) := by
  obtain ⟨hx, hb, hr, hml, hown, hG, hlk⟩ := id F
  have hbA : ¬ A b := fun h => absurd (hAA b h) (Nat.not_le.mpr hbl)
  have j1 : (i + 1).toInt = i.toInt + 1 := k_addI rfl rfl (by decide) (by omega)
  have j2 : (i + 2).toInt = i.toInt + 2 := k_addI rfl rfl (by decide) (by omega)
  have j3 : (i + 3).toInt = i.toInt + 3 := k_addI rfl rfl (by decide) (by omega)
  have j4 : (i + 4).toInt = i.toInt + 4 := k_addI rfl rfl (by decide) (by omega)
  have j5 : (i + 5).toInt = i.toInt + 5 := k_addI rfl rfl (by decide) (by omega)
  refine lv_aload_n hx hb dL_law_630 rfl (lv_at hl 2 rfl) ?_
  obtain ⟨fsu, hfsu⟩ := hcb.recv
  refine lwI (w := cw) (wr := rw ++ T) (TT := T) (As := []) (rest := []) F hE hP hD hS hA hl.1 (List.Perm.refl _) (fun q hq => List.mem_append_right _ hq) hZ (bx_allEased l D cy T kt vt o x ix md cw  hcb) q_m_L_82 mv_X11_allEased ⟨(Nat.le_of_ble_eq_true rfl), (Nat.le_of_ble_eq_true rfl)⟩ hfsu rfl rfl rfl rfl (Nat.le_of_ble_eq_true rfl) ⟨by show C + 0 ≤ 600000; omega, by show S + 0 ≤ 7302250; omega⟩ dL_law_631 (fun r u H locs hu hP hD hS => ?_)
  refine lv_pop hx hb dL_law_634 rfl ?_
  refine lv_aload_n hx hb dL_law_635 rfl (lv_at hl 1 rfl) ?_
  obtain ⟨fsu2, hfsu2⟩ := hrb.recv
  refine lwI (w := rw) (wr := u ++ T) (TT := T) (As := []) (rest := []) F hE hP hD hS hA hl.1 (perm_of (fun c f h h1 h0 => by simp only [h] <;> ac_rfl)) (fun q hq => List.mem_append_right _ hq) hZ (rx_allEased l D cy T kt vt m0 x ix md rw  hrb) q_m_L_85 mv_X12_allEased ⟨(Nat.le_of_ble_eq_true rfl), (Nat.le_of_ble_eq_true rfl)⟩ hfsu2 rfl rfl rfl rfl (Nat.le_of_ble_eq_true rfl) ⟨by show C + 0 + 0 ≤ 600000; omega, by show S + 0 + 0 ≤ 7302250; omega⟩ dL_law_636 (fun r2 u2 H locs hu2 hP hD hS => ?_)
  refine lv_pop hx hb dL_law_639 rfl ?_
  refine lv_goto (tgt := 1260) hx hb dL_law_640 (by decide) ?_
  exact kk u u2 T x ix md H locs ls _ _ (by omega) (by omega) hu hu2 (hP.perm (perm_of (fun c f h h1 h0 => by simp only [h] <;> ac_rfl))) (hD.perm (perm_of (fun c f h h1 h0 => by simp only [h] <;> ac_rfl))) hS hl

set_option maxHeartbeats 4000000 in
set_option maxRecDepth 100000 in
theorem lc_down {p : Program} {l : Launch} {e : Env} {s : State} {m : MethodId} {below : List Frame} {meth : Method} {c : Code} {b L : Nat} {xs : Nat → Int32} {D : va_G} {cy : Nat → ClassId} {A : Nat → Prop} {kt vt : Nat} (F : kF p s m meth c code 4 ret #[Value.ref b] RL) (hE : kE D (kTY cy) s) (hX : va_X b L xs s s.heap) (hbl : b < s.heap.size) (hAA : ∀ q : Nat, A q → s.heap.size ≤ q) (hA : ∀ q : Nat, s.heap.size ≤ q → A q) (hZ : ZT kt vt A s s.heap) (hL : L ≤ 3072) (i : Int32) (hi0 : 0 ≤ i.toInt) (hi6 : i.toInt + 6 ≤ (L : Int)) (o m0 : Nat) {cw rw T : va_W} {x : Int32} {ix md : Nat → Int32} (hcb : LCB cy T o x ix md cw) (hrb : LRB cy m0 x ix md rw) {H : Heap} {locs : List Loc} (hP : va_P D vwCl (cw ++ (rw ++ T)) H) (hD : va_D A (cw ++ (rw ++ T))) (hS : va_S A s.heap H locs) {ls : Array Slot} (hl : lv_has ls 4 [(3, .int i), (2, .ref m0), (1, .ref o), (0, .ref b)]) {C S : Nat} (hC : C + 2 ≤ 600000) (hSl : S + 414 ≤ 7302250) (kk : ∀ (cw rw T : va_W) (x : Int32) (ix md : Nat → Int32) (H : Heap) (locs : List Loc) (ls : Array Slot) (C1 S1 : Nat), C1 ≤ C + 2 → S1 ≤ S + 414 → LCB cy T o x ix md cw → LRB cy m0 x ix md rw → va_P D vwCl (cw ++ (rw ++ T)) H → va_D A (cw ++ (rw ++ T)) → va_S A s.heap H locs → lv_has ls 4 [(3, .int i), (2, .ref m0), (1, .ref o), (0, .ref b)] → W p l e room_1 s m #[Value.ref b] below meth c H locs C1 S1 (lw_Z below #[Value.ref b] s) (F0 m 1260 ls [])) : W p l e room_1 s m #[Value.ref b] below meth c H locs C S (lw_Z below #[Value.ref b] s) (F0 m 643 ls []) := by
  obtain ⟨hx, hb, hr, hml, hown, hG, hlk⟩ := id F
  have hbA : ¬ A b := fun h => absurd (hAA b h) (Nat.not_le.mpr hbl)
  have j1 : (i + 1).toInt = i.toInt + 1 := k_addI rfl rfl (by decide) (by omega)
  have j2 : (i + 2).toInt = i.toInt + 2 := k_addI rfl rfl (by decide) (by omega)
  have j3 : (i + 3).toInt = i.toInt + 3 := k_addI rfl rfl (by decide) (by omega)
  have j4 : (i + 4).toInt = i.toInt + 4 := k_addI rfl rfl (by decide) (by omega)
  have j5 : (i + 5).toInt = i.toInt + 5 := k_addI rfl rfl (by decide) (by omega)
  refine lv_aload_n hx hb dL_law_643 rfl (lv_at hl 2 rfl) ?_
  refine lv_aload_n hx hb dL_law_644 rfl (lv_at hl 3 rfl) ?_
  refine lv_iload_n hx hb dL_law_645 rfl (lv_at hl 0 rfl) ?_
  refine lv_iconst (v := 1) hx hb dL_law_646 (by decide) ?_
  refine lv_iadd hx hb dL_law_647 ?_
  refine va_sld hx hb hX hbl hbA hS (k_in (by omega)) dL_law_648 ?_
  refine lv_aload_n hx hb dL_law_649 rfl (lv_at hl 3 rfl) ?_
  refine lv_iload_n hx hb dL_law_650 rfl (lv_at hl 0 rfl) ?_
  refine lv_iconst (v := 2) hx hb dL_law_651 (by decide) ?_
  refine lv_iadd hx hb dL_law_652 ?_
  refine va_sld hx hb hX hbl hbA hS (k_in (by omega)) dL_law_653 ?_
  obtain ⟨fsu, hfsu⟩ := hcb.recv
  refine lwI (w := cw) (wr := rw ++ T) (TT := T) (As := [.int (xs (Int32.toNatClampNeg (i + 1))), .int (xs (Int32.toNatClampNeg (i + 2)))]) (rest := []) F hE hP hD hS hA hl.1 (List.Perm.refl _) (fun q hq => List.mem_append_right _ hq) hZ (bx_down l D cy T kt vt o x ix md cw (xs (Int32.toNatClampNeg (i + 1))) (xs (Int32.toNatClampNeg (i + 2))) hcb) q_m_L_86 mv_X11_down ⟨(Nat.le_of_ble_eq_true rfl), (Nat.le_of_ble_eq_true rfl)⟩ hfsu rfl rfl rfl rfl (Nat.le_of_ble_eq_true rfl) ⟨by show C + 0 ≤ 600000; omega, by show S + 0 ≤ 7302250; omega⟩ dL_law_654 (fun r u H locs hu hP hD hS => ?_)
  refine lv_pop hx hb dL_law_657 rfl ?_
  refine lv_aload_n hx hb dL_law_658 rfl (lv_at hl 1 rfl) ?_
  refine lv_aload_n hx hb dL_law_659 rfl (lv_at hl 3 rfl) ?_
  refine lv_iload_n hx hb dL_law_660 rfl (lv_at hl 0 rfl) ?_
  refine lv_iconst (v := 1) hx hb dL_law_661 (by decide) ?_
  refine lv_iadd hx hb dL_law_662 ?_
  refine va_sld hx hb hX hbl hbA hS (k_in (by omega)) dL_law_663 ?_
  refine lv_aload_n hx hb dL_law_664 rfl (lv_at hl 3 rfl) ?_
  refine lv_iload_n hx hb dL_law_665 rfl (lv_at hl 0 rfl) ?_
  refine lv_iconst (v := 2) hx hb dL_law_666 (by decide) ?_
  refine lv_iadd hx hb dL_law_667 ?_
  refine va_sld hx hb hX hbl hbA hS (k_in (by omega)) dL_law_668 ?_
  obtain ⟨fsu2, hfsu2⟩ := hrb.recv
  refine lwI (w := rw) (wr := u ++ T) (TT := T) (As := [.int (xs (Int32.toNatClampNeg (i + 1))), .int (xs (Int32.toNatClampNeg (i + 2)))]) (rest := []) F hE hP hD hS hA hl.1 (perm_of (fun c f h h1 h0 => by simp only [h] <;> ac_rfl)) (fun q hq => List.mem_append_right _ hq) hZ (rx_down l D cy T kt vt m0 x ix md rw (xs (Int32.toNatClampNeg (i + 1))) (xs (Int32.toNatClampNeg (i + 2))) hrb) q_m_L_89 mv_X12_down ⟨(Nat.le_of_ble_eq_true rfl), (Nat.le_of_ble_eq_true rfl)⟩ hfsu2 rfl rfl rfl rfl (Nat.le_of_ble_eq_true rfl) ⟨by show C + 0 + 0 ≤ 600000; omega, by show S + 0 + 0 ≤ 7302250; omega⟩ dL_law_669 (fun r2 u2 H locs hu2 hP hD hS => ?_)
  refine lv_pop hx hb dL_law_672 rfl ?_
  refine lv_goto (tgt := 1260) hx hb dL_law_673 (by decide) ?_
  exact kk u u2 T x ix md H locs ls _ _ (by omega) (by omega) hu hu2 (hP.perm (perm_of (fun c f h h1 h0 => by simp only [h] <;> ac_rfl))) (hD.perm (perm_of (fun c f h h1 h0 => by simp only [h] <;> ac_rfl))) hS hl

set_option maxHeartbeats 4000000 in
set_option maxRecDepth 100000 in
theorem lc_bestAim {p : Program} {l : Launch} {e : Env} {s : State} {m : MethodId} {below : List Frame} {meth : Method} {c : Code} {b L : Nat} {xs : Nat → Int32} {D : va_G} {cy : Nat → ClassId} {A : Nat → Prop} {kt vt : Nat} (F : kF p s m meth c code 4 ret #[Value.ref b] RL) (hE : kE D (kTY cy) s) (hX : va_X b L xs s s.heap) (hbl : b < s.heap.size) (hAA : ∀ q : Nat, A q → s.heap.size ≤ q) (hA : ∀ q : Nat, s.heap.size ≤ q → A q) (hZ : ZT kt vt A s s.heap) (hL : L ≤ 3072) (i : Int32) (hi0 : 0 ≤ i.toInt) (hi6 : i.toInt + 6 ≤ (L : Int)) (o m0 : Nat) {cw rw T : va_W} {x : Int32} {ix md : Nat → Int32} (hcb : LCB cy T o x ix md cw) (hrb : LRB cy m0 x ix md rw) {H : Heap} {locs : List Loc} (hP : va_P D vwCl (cw ++ (rw ++ T)) H) (hD : va_D A (cw ++ (rw ++ T))) (hS : va_S A s.heap H locs) {ls : Array Slot} (hl : lv_has ls 4 [(3, .int i), (2, .ref m0), (1, .ref o), (0, .ref b)]) {C S : Nat} (hC : C + 2 ≤ 600000) (hSl : S + 414 ≤ 7302250) (kk : ∀ (cw rw T : va_W) (x : Int32) (ix md : Nat → Int32) (H : Heap) (locs : List Loc) (ls : Array Slot) (C1 S1 : Nat), C1 ≤ C + 2 → S1 ≤ S + 414 → LCB cy T o x ix md cw → LRB cy m0 x ix md rw → va_P D vwCl (cw ++ (rw ++ T)) H → va_D A (cw ++ (rw ++ T)) → va_S A s.heap H locs → lv_has ls 4 [(3, .int i), (2, .ref m0), (1, .ref o), (0, .ref b)] → W p l e room_1 s m #[Value.ref b] below meth c H locs C1 S1 (lw_Z below #[Value.ref b] s) (F0 m 1260 ls [])) : W p l e room_1 s m #[Value.ref b] below meth c H locs C S (lw_Z below #[Value.ref b] s) (F0 m 676 ls []) := by
  obtain ⟨hx, hb, hr, hml, hown, hG, hlk⟩ := id F
  have hbA : ¬ A b := fun h => absurd (hAA b h) (Nat.not_le.mpr hbl)
  have j1 : (i + 1).toInt = i.toInt + 1 := k_addI rfl rfl (by decide) (by omega)
  have j2 : (i + 2).toInt = i.toInt + 2 := k_addI rfl rfl (by decide) (by omega)
  have j3 : (i + 3).toInt = i.toInt + 3 := k_addI rfl rfl (by decide) (by omega)
  have j4 : (i + 4).toInt = i.toInt + 4 := k_addI rfl rfl (by decide) (by omega)
  have j5 : (i + 5).toInt = i.toInt + 5 := k_addI rfl rfl (by decide) (by omega)
  refine lv_aload_n hx hb dL_law_676 rfl (lv_at hl 2 rfl) ?_
  refine lv_aload_n hx hb dL_law_677 rfl (lv_at hl 3 rfl) ?_
  refine lv_iload_n hx hb dL_law_678 rfl (lv_at hl 0 rfl) ?_
  refine lv_iconst (v := 1) hx hb dL_law_679 (by decide) ?_
  refine lv_iadd hx hb dL_law_680 ?_
  refine va_sld hx hb hX hbl hbA hS (k_in (by omega)) dL_law_681 ?_
  refine lv_aload_n hx hb dL_law_682 rfl (lv_at hl 3 rfl) ?_
  refine lv_iload_n hx hb dL_law_683 rfl (lv_at hl 0 rfl) ?_
  refine lv_iconst (v := 2) hx hb dL_law_684 (by decide) ?_
  refine lv_iadd hx hb dL_law_685 ?_
  refine va_sld hx hb hX hbl hbA hS (k_in (by omega)) dL_law_686 ?_
  obtain ⟨fsu, hfsu⟩ := hcb.recv
  refine lwI (w := cw) (wr := rw ++ T) (TT := T) (As := [.int (xs (Int32.toNatClampNeg (i + 1))), .int (xs (Int32.toNatClampNeg (i + 2)))]) (rest := []) F hE hP hD hS hA hl.1 (List.Perm.refl _) (fun q hq => List.mem_append_right _ hq) hZ (bx_bestAim l D cy T kt vt o x ix md cw (xs (Int32.toNatClampNeg (i + 1))) (xs (Int32.toNatClampNeg (i + 2))) hcb) q_m_L_90 mv_X11_bestAim ⟨(Nat.le_of_ble_eq_true rfl), (Nat.le_of_ble_eq_true rfl)⟩ hfsu rfl rfl rfl rfl (Nat.le_of_ble_eq_true rfl) ⟨by show C + 0 ≤ 600000; omega, by show S + 0 ≤ 7302250; omega⟩ dL_law_687 (fun r u H locs hu hP hD hS => ?_)
  refine lv_pop hx hb dL_law_690 rfl ?_
  refine lv_aload_n hx hb dL_law_691 rfl (lv_at hl 1 rfl) ?_
  refine lv_aload_n hx hb dL_law_692 rfl (lv_at hl 3 rfl) ?_
  refine lv_iload_n hx hb dL_law_693 rfl (lv_at hl 0 rfl) ?_
  refine lv_iconst (v := 1) hx hb dL_law_694 (by decide) ?_
  refine lv_iadd hx hb dL_law_695 ?_
  refine va_sld hx hb hX hbl hbA hS (k_in (by omega)) dL_law_696 ?_
  refine lv_aload_n hx hb dL_law_697 rfl (lv_at hl 3 rfl) ?_
  refine lv_iload_n hx hb dL_law_698 rfl (lv_at hl 0 rfl) ?_
  refine lv_iconst (v := 2) hx hb dL_law_699 (by decide) ?_
  refine lv_iadd hx hb dL_law_700 ?_
  refine va_sld hx hb hX hbl hbA hS (k_in (by omega)) dL_law_701 ?_
  obtain ⟨fsu2, hfsu2⟩ := hrb.recv
  refine lwI (w := rw) (wr := u ++ T) (TT := T) (As := [.int (xs (Int32.toNatClampNeg (i + 1))), .int (xs (Int32.toNatClampNeg (i + 2)))]) (rest := []) F hE hP hD hS hA hl.1 (perm_of (fun c f h h1 h0 => by simp only [h] <;> ac_rfl)) (fun q hq => List.mem_append_right _ hq) hZ (rx_bestAim l D cy T kt vt m0 x ix md rw (xs (Int32.toNatClampNeg (i + 1))) (xs (Int32.toNatClampNeg (i + 2))) hrb) q_m_L_93 mv_X12_bestAim ⟨(Nat.le_of_ble_eq_true rfl), (Nat.le_of_ble_eq_true rfl)⟩ hfsu2 rfl rfl rfl rfl (Nat.le_of_ble_eq_true rfl) ⟨by show C + 0 + 0 ≤ 600000; omega, by show S + 0 + 0 ≤ 7302250; omega⟩ dL_law_702 (fun r2 u2 H locs hu2 hP hD hS => ?_)
  refine lv_pop hx hb dL_law_705 rfl ?_
  refine lv_goto (tgt := 1260) hx hb dL_law_706 (by decide) ?_
  exact kk u u2 T x ix md H locs ls _ _ (by omega) (by omega) hu hu2 (hP.perm (perm_of (fun c f h h1 h0 => by simp only [h] <;> ac_rfl))) (hD.perm (perm_of (fun c f h h1 h0 => by simp only [h] <;> ac_rfl))) hS hl

set_option maxHeartbeats 4000000 in
set_option maxRecDepth 100000 in
theorem lc_row {p : Program} {l : Launch} {e : Env} {s : State} {m : MethodId} {below : List Frame} {meth : Method} {c : Code} {b L : Nat} {xs : Nat → Int32} {D : va_G} {cy : Nat → ClassId} {A : Nat → Prop} {kt vt : Nat} (F : kF p s m meth c code 4 ret #[Value.ref b] RL) (hE : kE D (kTY cy) s) (hX : va_X b L xs s s.heap) (hbl : b < s.heap.size) (hAA : ∀ q : Nat, A q → s.heap.size ≤ q) (hA : ∀ q : Nat, s.heap.size ≤ q → A q) (hZ : ZT kt vt A s s.heap) (hL : L ≤ 3072) (i : Int32) (hi0 : 0 ≤ i.toInt) (hi6 : i.toInt + 6 ≤ (L : Int)) (o m0 : Nat) {cw rw T : va_W} {x : Int32} {ix md : Nat → Int32} (hcb : LCB cy T o x ix md cw) (hrb : LRB cy m0 x ix md rw) {H : Heap} {locs : List Loc} (hP : va_P D vwCl (cw ++ (rw ++ T)) H) (hD : va_D A (cw ++ (rw ++ T))) (hS : va_S A s.heap H locs) {ls : Array Slot} (hl : lv_has ls 4 [(3, .int i), (2, .ref m0), (1, .ref o), (0, .ref b)]) {C S : Nat} (hC : C + 2 ≤ 600000) (hSl : S + 414 ≤ 7302250) (kk : ∀ (cw rw T : va_W) (x : Int32) (ix md : Nat → Int32) (H : Heap) (locs : List Loc) (ls : Array Slot) (C1 S1 : Nat), C1 ≤ C + 2 → S1 ≤ S + 414 → LCB cy T o x ix md cw → LRB cy m0 x ix md rw → va_P D vwCl (cw ++ (rw ++ T)) H → va_D A (cw ++ (rw ++ T)) → va_S A s.heap H locs → lv_has ls 4 [(3, .int i), (2, .ref m0), (1, .ref o), (0, .ref b)] → W p l e room_1 s m #[Value.ref b] below meth c H locs C1 S1 (lw_Z below #[Value.ref b] s) (F0 m 1260 ls [])) : W p l e room_1 s m #[Value.ref b] below meth c H locs C S (lw_Z below #[Value.ref b] s) (F0 m 709 ls []) := by
  obtain ⟨hx, hb, hr, hml, hown, hG, hlk⟩ := id F
  have hbA : ¬ A b := fun h => absurd (hAA b h) (Nat.not_le.mpr hbl)
  have j1 : (i + 1).toInt = i.toInt + 1 := k_addI rfl rfl (by decide) (by omega)
  have j2 : (i + 2).toInt = i.toInt + 2 := k_addI rfl rfl (by decide) (by omega)
  have j3 : (i + 3).toInt = i.toInt + 3 := k_addI rfl rfl (by decide) (by omega)
  have j4 : (i + 4).toInt = i.toInt + 4 := k_addI rfl rfl (by decide) (by omega)
  have j5 : (i + 5).toInt = i.toInt + 5 := k_addI rfl rfl (by decide) (by omega)
  refine lv_aload_n hx hb dL_law_709 rfl (lv_at hl 2 rfl) ?_
  refine lv_aload_n hx hb dL_law_710 rfl (lv_at hl 3 rfl) ?_
  refine lv_iload_n hx hb dL_law_711 rfl (lv_at hl 0 rfl) ?_
  refine lv_iconst (v := 1) hx hb dL_law_712 (by decide) ?_
  refine lv_iadd hx hb dL_law_713 ?_
  refine va_sld hx hb hX hbl hbA hS (k_in (by omega)) dL_law_714 ?_
  refine lv_aload_n hx hb dL_law_715 rfl (lv_at hl 3 rfl) ?_
  refine lv_iload_n hx hb dL_law_716 rfl (lv_at hl 0 rfl) ?_
  refine lv_iconst (v := 2) hx hb dL_law_717 (by decide) ?_
  refine lv_iadd hx hb dL_law_718 ?_
  refine va_sld hx hb hX hbl hbA hS (k_in (by omega)) dL_law_719 ?_
  refine lv_aload_n hx hb dL_law_720 rfl (lv_at hl 3 rfl) ?_
  refine lv_iload_n hx hb dL_law_721 rfl (lv_at hl 0 rfl) ?_
  refine lv_iconst (v := 3) hx hb dL_law_722 (by decide) ?_
  refine lv_iadd hx hb dL_law_723 ?_
  refine va_sld hx hb hX hbl hbA hS (k_in (by omega)) dL_law_724 ?_
  obtain ⟨fsu, hfsu⟩ := hcb.recv
  refine lwI (w := cw) (wr := rw ++ T) (TT := T) (As := [.int (xs (Int32.toNatClampNeg (i + 1))), .int (xs (Int32.toNatClampNeg (i + 2))), .int (xs (Int32.toNatClampNeg (i + 3)))]) (rest := []) F hE hP hD hS hA hl.1 (List.Perm.refl _) (fun q hq => List.mem_append_right _ hq) hZ (bx_row l D cy T kt vt o x ix md cw (xs (Int32.toNatClampNeg (i + 1))) (xs (Int32.toNatClampNeg (i + 2))) (xs (Int32.toNatClampNeg (i + 3))) hcb) q_m_L_94 mv_X11_row ⟨(Nat.le_of_ble_eq_true rfl), (Nat.le_of_ble_eq_true rfl)⟩ hfsu rfl rfl rfl rfl (Nat.le_of_ble_eq_true rfl) ⟨by show C + 0 ≤ 600000; omega, by show S + 0 ≤ 7302250; omega⟩ dL_law_725 (fun r u H locs hu hP hD hS => ?_)
  refine lv_pop hx hb dL_law_728 rfl ?_
  refine lv_aload_n hx hb dL_law_729 rfl (lv_at hl 1 rfl) ?_
  refine lv_aload_n hx hb dL_law_730 rfl (lv_at hl 3 rfl) ?_
  refine lv_iload_n hx hb dL_law_731 rfl (lv_at hl 0 rfl) ?_
  refine lv_iconst (v := 1) hx hb dL_law_732 (by decide) ?_
  refine lv_iadd hx hb dL_law_733 ?_
  refine va_sld hx hb hX hbl hbA hS (k_in (by omega)) dL_law_734 ?_
  refine lv_aload_n hx hb dL_law_735 rfl (lv_at hl 3 rfl) ?_
  refine lv_iload_n hx hb dL_law_736 rfl (lv_at hl 0 rfl) ?_
  refine lv_iconst (v := 2) hx hb dL_law_737 (by decide) ?_
  refine lv_iadd hx hb dL_law_738 ?_
  refine va_sld hx hb hX hbl hbA hS (k_in (by omega)) dL_law_739 ?_
  refine lv_aload_n hx hb dL_law_740 rfl (lv_at hl 3 rfl) ?_
  refine lv_iload_n hx hb dL_law_741 rfl (lv_at hl 0 rfl) ?_
  refine lv_iconst (v := 3) hx hb dL_law_742 (by decide) ?_
  refine lv_iadd hx hb dL_law_743 ?_
  refine va_sld hx hb hX hbl hbA hS (k_in (by omega)) dL_law_744 ?_
  obtain ⟨fsu2, hfsu2⟩ := hrb.recv
  refine lwI (w := rw) (wr := u ++ T) (TT := T) (As := [.int (xs (Int32.toNatClampNeg (i + 1))), .int (xs (Int32.toNatClampNeg (i + 2))), .int (xs (Int32.toNatClampNeg (i + 3)))]) (rest := []) F hE hP hD hS hA hl.1 (perm_of (fun c f h h1 h0 => by simp only [h] <;> ac_rfl)) (fun q hq => List.mem_append_right _ hq) hZ (rx_row l D cy T kt vt m0 x ix md rw (xs (Int32.toNatClampNeg (i + 1))) (xs (Int32.toNatClampNeg (i + 2))) (xs (Int32.toNatClampNeg (i + 3))) hrb) q_m_L_97 mv_X12_row ⟨(Nat.le_of_ble_eq_true rfl), (Nat.le_of_ble_eq_true rfl)⟩ hfsu2 rfl rfl rfl rfl (Nat.le_of_ble_eq_true rfl) ⟨by show C + 0 + 0 ≤ 600000; omega, by show S + 0 + 0 ≤ 7302250; omega⟩ dL_law_745 (fun r2 u2 H locs hu2 hP hD hS => ?_)
  refine lv_pop hx hb dL_law_748 rfl ?_
  refine lv_goto (tgt := 1260) hx hb dL_law_749 (by decide) ?_
  exact kk u u2 T x ix md H locs ls _ _ (by omega) (by omega) hu hu2 (hP.perm (perm_of (fun c f h h1 h0 => by simp only [h] <;> ac_rfl))) (hD.perm (perm_of (fun c f h h1 h0 => by simp only [h] <;> ac_rfl))) hS hl

set_option maxHeartbeats 4000000 in
set_option maxRecDepth 100000 in
theorem lc_hold {p : Program} {l : Launch} {e : Env} {s : State} {m : MethodId} {below : List Frame} {meth : Method} {c : Code} {b L : Nat} {xs : Nat → Int32} {D : va_G} {cy : Nat → ClassId} {A : Nat → Prop} {kt vt : Nat} (F : kF p s m meth c code 4 ret #[Value.ref b] RL) (hE : kE D (kTY cy) s) (hX : va_X b L xs s s.heap) (hbl : b < s.heap.size) (hAA : ∀ q : Nat, A q → s.heap.size ≤ q) (hA : ∀ q : Nat, s.heap.size ≤ q → A q) (hZ : ZT kt vt A s s.heap) (hL : L ≤ 3072) (i : Int32) (hi0 : 0 ≤ i.toInt) (hi6 : i.toInt + 6 ≤ (L : Int)) (o m0 : Nat) {cw rw T : va_W} {x : Int32} {ix md : Nat → Int32} (hcb : LCB cy T o x ix md cw) (hrb : LRB cy m0 x ix md rw) {H : Heap} {locs : List Loc} (hP : va_P D vwCl (cw ++ (rw ++ T)) H) (hD : va_D A (cw ++ (rw ++ T))) (hS : va_S A s.heap H locs) {ls : Array Slot} (hl : lv_has ls 4 [(3, .int i), (2, .ref m0), (1, .ref o), (0, .ref b)]) {C S : Nat} (hC : C + 2 ≤ 600000) (hSl : S + 414 ≤ 7302250) (kk : ∀ (cw rw T : va_W) (x : Int32) (ix md : Nat → Int32) (H : Heap) (locs : List Loc) (ls : Array Slot) (C1 S1 : Nat), C1 ≤ C + 2 → S1 ≤ S + 414 → LCB cy T o x ix md cw → LRB cy m0 x ix md rw → va_P D vwCl (cw ++ (rw ++ T)) H → va_D A (cw ++ (rw ++ T)) → va_S A s.heap H locs → lv_has ls 4 [(3, .int i), (2, .ref m0), (1, .ref o), (0, .ref b)] → W p l e room_1 s m #[Value.ref b] below meth c H locs C1 S1 (lw_Z below #[Value.ref b] s) (F0 m 1260 ls [])) : W p l e room_1 s m #[Value.ref b] below meth c H locs C S (lw_Z below #[Value.ref b] s) (F0 m 752 ls []) := by
  obtain ⟨hx, hb, hr, hml, hown, hG, hlk⟩ := id F
  have hbA : ¬ A b := fun h => absurd (hAA b h) (Nat.not_le.mpr hbl)
  have j1 : (i + 1).toInt = i.toInt + 1 := k_addI rfl rfl (by decide) (by omega)
  have j2 : (i + 2).toInt = i.toInt + 2 := k_addI rfl rfl (by decide) (by omega)
  have j3 : (i + 3).toInt = i.toInt + 3 := k_addI rfl rfl (by decide) (by omega)
  have j4 : (i + 4).toInt = i.toInt + 4 := k_addI rfl rfl (by decide) (by omega)
  have j5 : (i + 5).toInt = i.toInt + 5 := k_addI rfl rfl (by decide) (by omega)
  refine lv_aload_n hx hb dL_law_752 rfl (lv_at hl 2 rfl) ?_
  refine lv_aload_n hx hb dL_law_753 rfl (lv_at hl 3 rfl) ?_
  refine lv_iload_n hx hb dL_law_754 rfl (lv_at hl 0 rfl) ?_
  refine lv_iconst (v := 1) hx hb dL_law_755 (by decide) ?_
  refine lv_iadd hx hb dL_law_756 ?_
  refine va_sld hx hb hX hbl hbA hS (k_in (by omega)) dL_law_757 ?_
  obtain ⟨fsu, hfsu⟩ := hcb.recv
  refine lwI (w := cw) (wr := rw ++ T) (TT := T) (As := [.int (xs (Int32.toNatClampNeg (i + 1)))]) (rest := []) F hE hP hD hS hA hl.1 (List.Perm.refl _) (fun q hq => List.mem_append_right _ hq) hZ (bx_hold l D cy T kt vt o x ix md cw (xs (Int32.toNatClampNeg (i + 1))) hcb) q_m_L_98 mv_X11_hold ⟨(Nat.le_of_ble_eq_true rfl), (Nat.le_of_ble_eq_true rfl)⟩ hfsu rfl rfl rfl rfl (Nat.le_of_ble_eq_true rfl) ⟨by show C + 0 ≤ 600000; omega, by show S + 0 ≤ 7302250; omega⟩ dL_law_758 (fun r u H locs hu hP hD hS => ?_)
  refine lv_pop hx hb dL_law_761 rfl ?_
  refine lv_aload_n hx hb dL_law_762 rfl (lv_at hl 1 rfl) ?_
  refine lv_aload_n hx hb dL_law_763 rfl (lv_at hl 3 rfl) ?_
  refine lv_iload_n hx hb dL_law_764 rfl (lv_at hl 0 rfl) ?_
  refine lv_iconst (v := 1) hx hb dL_law_765 (by decide) ?_
  refine lv_iadd hx hb dL_law_766 ?_
  refine va_sld hx hb hX hbl hbA hS (k_in (by omega)) dL_law_767 ?_
  obtain ⟨fsu2, hfsu2⟩ := hrb.recv
  refine lwI (w := rw) (wr := u ++ T) (TT := T) (As := [.int (xs (Int32.toNatClampNeg (i + 1)))]) (rest := []) F hE hP hD hS hA hl.1 (perm_of (fun c f h h1 h0 => by simp only [h] <;> ac_rfl)) (fun q hq => List.mem_append_right _ hq) hZ (rx_hold l D cy T kt vt m0 x ix md rw (xs (Int32.toNatClampNeg (i + 1))) hrb) q_m_L_101 mv_X12_hold ⟨(Nat.le_of_ble_eq_true rfl), (Nat.le_of_ble_eq_true rfl)⟩ hfsu2 rfl rfl rfl rfl (Nat.le_of_ble_eq_true rfl) ⟨by show C + 0 + 0 ≤ 600000; omega, by show S + 0 + 0 ≤ 7302250; omega⟩ dL_law_768 (fun r2 u2 H locs hu2 hP hD hS => ?_)
  refine lv_pop hx hb dL_law_771 rfl ?_
  refine lv_goto (tgt := 1260) hx hb dL_law_772 (by decide) ?_
  exact kk u u2 T x ix md H locs ls _ _ (by omega) (by omega) hu hu2 (hP.perm (perm_of (fun c f h h1 h0 => by simp only [h] <;> ac_rfl))) (hD.perm (perm_of (fun c f h h1 h0 => by simp only [h] <;> ac_rfl))) hS hl

set_option maxHeartbeats 4000000 in
set_option maxRecDepth 100000 in
theorem lc_leastSkill {p : Program} {l : Launch} {e : Env} {s : State} {m : MethodId} {below : List Frame} {meth : Method} {c : Code} {b L : Nat} {xs : Nat → Int32} {D : va_G} {cy : Nat → ClassId} {A : Nat → Prop} {kt vt : Nat} (F : kF p s m meth c code 4 ret #[Value.ref b] RL) (hE : kE D (kTY cy) s) (hX : va_X b L xs s s.heap) (hbl : b < s.heap.size) (hAA : ∀ q : Nat, A q → s.heap.size ≤ q) (hA : ∀ q : Nat, s.heap.size ≤ q → A q) (hZ : ZT kt vt A s s.heap) (hL : L ≤ 3072) (i : Int32) (hi0 : 0 ≤ i.toInt) (hi6 : i.toInt + 6 ≤ (L : Int)) (o m0 : Nat) {cw rw T : va_W} {x : Int32} {ix md : Nat → Int32} (hcb : LCB cy T o x ix md cw) (hrb : LRB cy m0 x ix md rw) {H : Heap} {locs : List Loc} (hP : va_P D vwCl (cw ++ (rw ++ T)) H) (hD : va_D A (cw ++ (rw ++ T))) (hS : va_S A s.heap H locs) {ls : Array Slot} (hl : lv_has ls 4 [(3, .int i), (2, .ref m0), (1, .ref o), (0, .ref b)]) {C S : Nat} (hC : C + 2 ≤ 600000) (hSl : S + 414 ≤ 7302250) (kk : ∀ (cw rw T : va_W) (x : Int32) (ix md : Nat → Int32) (H : Heap) (locs : List Loc) (ls : Array Slot) (C1 S1 : Nat), C1 ≤ C + 2 → S1 ≤ S + 414 → LCB cy T o x ix md cw → LRB cy m0 x ix md rw → va_P D vwCl (cw ++ (rw ++ T)) H → va_D A (cw ++ (rw ++ T)) → va_S A s.heap H locs → lv_has ls 4 [(3, .int i), (2, .ref m0), (1, .ref o), (0, .ref b)] → W p l e room_1 s m #[Value.ref b] below meth c H locs C1 S1 (lw_Z below #[Value.ref b] s) (F0 m 1260 ls [])) : W p l e room_1 s m #[Value.ref b] below meth c H locs C S (lw_Z below #[Value.ref b] s) (F0 m 775 ls []) := by
  obtain ⟨hx, hb, hr, hml, hown, hG, hlk⟩ := id F
  have hbA : ¬ A b := fun h => absurd (hAA b h) (Nat.not_le.mpr hbl)
  have j1 : (i + 1).toInt = i.toInt + 1 := k_addI rfl rfl (by decide) (by omega)
  have j2 : (i + 2).toInt = i.toInt + 2 := k_addI rfl rfl (by decide) (by omega)
  have j3 : (i + 3).toInt = i.toInt + 3 := k_addI rfl rfl (by decide) (by omega)
  have j4 : (i + 4).toInt = i.toInt + 4 := k_addI rfl rfl (by decide) (by omega)
  have j5 : (i + 5).toInt = i.toInt + 5 := k_addI rfl rfl (by decide) (by omega)
  refine lv_aload_n hx hb dL_law_775 rfl (lv_at hl 2 rfl) ?_
  refine lv_aload_n hx hb dL_law_776 rfl (lv_at hl 3 rfl) ?_
  refine lv_iload_n hx hb dL_law_777 rfl (lv_at hl 0 rfl) ?_
  refine lv_iconst (v := 1) hx hb dL_law_778 (by decide) ?_
  refine lv_iadd hx hb dL_law_779 ?_
  refine va_sld hx hb hX hbl hbA hS (k_in (by omega)) dL_law_780 ?_
  refine lv_aload_n hx hb dL_law_781 rfl (lv_at hl 3 rfl) ?_
  refine lv_iload_n hx hb dL_law_782 rfl (lv_at hl 0 rfl) ?_
  refine lv_iconst (v := 2) hx hb dL_law_783 (by decide) ?_
  refine lv_iadd hx hb dL_law_784 ?_
  refine va_sld hx hb hX hbl hbA hS (k_in (by omega)) dL_law_785 ?_
  obtain ⟨fsu, hfsu⟩ := hcb.recv
  refine lwI (w := cw) (wr := rw ++ T) (TT := T) (As := [.int (xs (Int32.toNatClampNeg (i + 1))), .int (xs (Int32.toNatClampNeg (i + 2)))]) (rest := []) F hE hP hD hS hA hl.1 (List.Perm.refl _) (fun q hq => List.mem_append_right _ hq) hZ (bx_leastSkill l D cy T kt vt o x ix md cw (xs (Int32.toNatClampNeg (i + 1))) (xs (Int32.toNatClampNeg (i + 2))) hcb) q_m_L_102 mv_X11_leastSkill ⟨(Nat.le_of_ble_eq_true rfl), (Nat.le_of_ble_eq_true rfl)⟩ hfsu rfl rfl rfl rfl (Nat.le_of_ble_eq_true rfl) ⟨by show C + 0 ≤ 600000; omega, by show S + 0 ≤ 7302250; omega⟩ dL_law_786 (fun r u H locs hu hP hD hS => ?_)
  refine lv_pop hx hb dL_law_789 rfl ?_
  refine lv_aload_n hx hb dL_law_790 rfl (lv_at hl 1 rfl) ?_
  refine lv_aload_n hx hb dL_law_791 rfl (lv_at hl 3 rfl) ?_
  refine lv_iload_n hx hb dL_law_792 rfl (lv_at hl 0 rfl) ?_
  refine lv_iconst (v := 1) hx hb dL_law_793 (by decide) ?_
  refine lv_iadd hx hb dL_law_794 ?_
  refine va_sld hx hb hX hbl hbA hS (k_in (by omega)) dL_law_795 ?_
  refine lv_aload_n hx hb dL_law_796 rfl (lv_at hl 3 rfl) ?_
  refine lv_iload_n hx hb dL_law_797 rfl (lv_at hl 0 rfl) ?_
  refine lv_iconst (v := 2) hx hb dL_law_798 (by decide) ?_
  refine lv_iadd hx hb dL_law_799 ?_
  refine va_sld hx hb hX hbl hbA hS (k_in (by omega)) dL_law_800 ?_
  obtain ⟨fsu2, hfsu2⟩ := hrb.recv
  refine lwI (w := rw) (wr := u ++ T) (TT := T) (As := [.int (xs (Int32.toNatClampNeg (i + 1))), .int (xs (Int32.toNatClampNeg (i + 2)))]) (rest := []) F hE hP hD hS hA hl.1 (perm_of (fun c f h h1 h0 => by simp only [h] <;> ac_rfl)) (fun q hq => List.mem_append_right _ hq) hZ (rx_leastSkill l D cy T kt vt m0 x ix md rw (xs (Int32.toNatClampNeg (i + 1))) (xs (Int32.toNatClampNeg (i + 2))) hrb) q_m_L_105 mv_X12_leastSkill ⟨(Nat.le_of_ble_eq_true rfl), (Nat.le_of_ble_eq_true rfl)⟩ hfsu2 rfl rfl rfl rfl (Nat.le_of_ble_eq_true rfl) ⟨by show C + 0 + 0 ≤ 600000; omega, by show S + 0 + 0 ≤ 7302250; omega⟩ dL_law_801 (fun r2 u2 H locs hu2 hP hD hS => ?_)
  refine lv_pop hx hb dL_law_804 rfl ?_
  refine lv_goto (tgt := 1260) hx hb dL_law_805 (by decide) ?_
  exact kk u u2 T x ix md H locs ls _ _ (by omega) (by omega) hu hu2 (hP.perm (perm_of (fun c f h h1 h0 => by simp only [h] <;> ac_rfl))) (hD.perm (perm_of (fun c f h h1 h0 => by simp only [h] <;> ac_rfl))) hS hl

set_option maxHeartbeats 4000000 in
set_option maxRecDepth 100000 in
theorem lc_set {p : Program} {l : Launch} {e : Env} {s : State} {m : MethodId} {below : List Frame} {meth : Method} {c : Code} {b L : Nat} {xs : Nat → Int32} {D : va_G} {cy : Nat → ClassId} {A : Nat → Prop} {kt vt : Nat} (F : kF p s m meth c code 4 ret #[Value.ref b] RL) (hE : kE D (kTY cy) s) (hX : va_X b L xs s s.heap) (hbl : b < s.heap.size) (hAA : ∀ q : Nat, A q → s.heap.size ≤ q) (hA : ∀ q : Nat, s.heap.size ≤ q → A q) (hZ : ZT kt vt A s s.heap) (hL : L ≤ 3072) (i : Int32) (hi0 : 0 ≤ i.toInt) (hi6 : i.toInt + 6 ≤ (L : Int)) (o m0 : Nat) {cw rw T : va_W} {x : Int32} {ix md : Nat → Int32} (hcb : LCB cy T o x ix md cw) (hrb : LRB cy m0 x ix md rw) {H : Heap} {locs : List Loc} (hP : va_P D vwCl (cw ++ (rw ++ T)) H) (hD : va_D A (cw ++ (rw ++ T))) (hS : va_S A s.heap H locs) {ls : Array Slot} (hl : lv_has ls 4 [(3, .int i), (2, .ref m0), (1, .ref o), (0, .ref b)]) {C S : Nat} (hC : C + 2 ≤ 600000) (hSl : S + 414 ≤ 7302250) (kk : ∀ (cw rw T : va_W) (x : Int32) (ix md : Nat → Int32) (H : Heap) (locs : List Loc) (ls : Array Slot) (C1 S1 : Nat), C1 ≤ C + 2 → S1 ≤ S + 414 → LCB cy T o x ix md cw → LRB cy m0 x ix md rw → va_P D vwCl (cw ++ (rw ++ T)) H → va_D A (cw ++ (rw ++ T)) → va_S A s.heap H locs → lv_has ls 4 [(3, .int i), (2, .ref m0), (1, .ref o), (0, .ref b)] → W p l e room_1 s m #[Value.ref b] below meth c H locs C1 S1 (lw_Z below #[Value.ref b] s) (F0 m 1260 ls [])) : W p l e room_1 s m #[Value.ref b] below meth c H locs C S (lw_Z below #[Value.ref b] s) (F0 m 808 ls []) := by
  obtain ⟨hx, hb, hr, hml, hown, hG, hlk⟩ := id F
  have hbA : ¬ A b := fun h => absurd (hAA b h) (Nat.not_le.mpr hbl)
  have j1 : (i + 1).toInt = i.toInt + 1 := k_addI rfl rfl (by decide) (by omega)
  have j2 : (i + 2).toInt = i.toInt + 2 := k_addI rfl rfl (by decide) (by omega)
  have j3 : (i + 3).toInt = i.toInt + 3 := k_addI rfl rfl (by decide) (by omega)
  have j4 : (i + 4).toInt = i.toInt + 4 := k_addI rfl rfl (by decide) (by omega)
  have j5 : (i + 5).toInt = i.toInt + 5 := k_addI rfl rfl (by decide) (by omega)
  refine lv_aload_n hx hb dL_law_808 rfl (lv_at hl 2 rfl) ?_
  refine lv_aload_n hx hb dL_law_809 rfl (lv_at hl 3 rfl) ?_
  refine lv_iload_n hx hb dL_law_810 rfl (lv_at hl 0 rfl) ?_
  refine lv_iconst (v := 1) hx hb dL_law_811 (by decide) ?_
  refine lv_iadd hx hb dL_law_812 ?_
  refine va_sld hx hb hX hbl hbA hS (k_in (by omega)) dL_law_813 ?_
  refine lv_aload_n hx hb dL_law_814 rfl (lv_at hl 3 rfl) ?_
  refine lv_iload_n hx hb dL_law_815 rfl (lv_at hl 0 rfl) ?_
  refine lv_iconst (v := 2) hx hb dL_law_816 (by decide) ?_
  refine lv_iadd hx hb dL_law_817 ?_
  refine va_sld hx hb hX hbl hbA hS (k_in (by omega)) dL_law_818 ?_
  refine lv_aload_n hx hb dL_law_819 rfl (lv_at hl 3 rfl) ?_
  refine lv_iload_n hx hb dL_law_820 rfl (lv_at hl 0 rfl) ?_
  refine lv_iconst (v := 3) hx hb dL_law_821 (by decide) ?_
  refine lv_iadd hx hb dL_law_822 ?_
  refine va_sld hx hb hX hbl hbA hS (k_in (by omega)) dL_law_823 ?_
  obtain ⟨fsu, hfsu⟩ := hcb.recv
  refine lwI (w := cw) (wr := rw ++ T) (TT := T) (As := [.int (xs (Int32.toNatClampNeg (i + 1))), .int (xs (Int32.toNatClampNeg (i + 2))), .int (xs (Int32.toNatClampNeg (i + 3)))]) (rest := []) F hE hP hD hS hA hl.1 (List.Perm.refl _) (fun q hq => List.mem_append_right _ hq) hZ (bx_set l D cy T kt vt o x ix md cw (xs (Int32.toNatClampNeg (i + 1))) (xs (Int32.toNatClampNeg (i + 2))) (xs (Int32.toNatClampNeg (i + 3))) hcb) q_m_L_106 mv_X11_set ⟨(Nat.le_of_ble_eq_true rfl), (Nat.le_of_ble_eq_true rfl)⟩ hfsu rfl rfl rfl rfl (Nat.le_of_ble_eq_true rfl) ⟨by show C + 0 ≤ 600000; omega, by show S + 0 ≤ 7302250; omega⟩ dL_law_824 (fun r u H locs hu hP hD hS => ?_)
  refine lv_pop hx hb dL_law_827 rfl ?_
  refine lv_aload_n hx hb dL_law_828 rfl (lv_at hl 1 rfl) ?_
  refine lv_aload_n hx hb dL_law_829 rfl (lv_at hl 3 rfl) ?_
  refine lv_iload_n hx hb dL_law_830 rfl (lv_at hl 0 rfl) ?_
  refine lv_iconst (v := 1) hx hb dL_law_831 (by decide) ?_
  refine lv_iadd hx hb dL_law_832 ?_
  refine va_sld hx hb hX hbl hbA hS (k_in (by omega)) dL_law_833 ?_
  refine lv_aload_n hx hb dL_law_834 rfl (lv_at hl 3 rfl) ?_
  refine lv_iload_n hx hb dL_law_835 rfl (lv_at hl 0 rfl) ?_
  refine lv_iconst (v := 2) hx hb dL_law_836 (by decide) ?_
  refine lv_iadd hx hb dL_law_837 ?_
  refine va_sld hx hb hX hbl hbA hS (k_in (by omega)) dL_law_838 ?_
  refine lv_aload_n hx hb dL_law_839 rfl (lv_at hl 3 rfl) ?_
  refine lv_iload_n hx hb dL_law_840 rfl (lv_at hl 0 rfl) ?_
  refine lv_iconst (v := 3) hx hb dL_law_841 (by decide) ?_
  refine lv_iadd hx hb dL_law_842 ?_
  refine va_sld hx hb hX hbl hbA hS (k_in (by omega)) dL_law_843 ?_
  obtain ⟨fsu2, hfsu2⟩ := hrb.recv
  refine lwI (w := rw) (wr := u ++ T) (TT := T) (As := [.int (xs (Int32.toNatClampNeg (i + 1))), .int (xs (Int32.toNatClampNeg (i + 2))), .int (xs (Int32.toNatClampNeg (i + 3)))]) (rest := []) F hE hP hD hS hA hl.1 (perm_of (fun c f h h1 h0 => by simp only [h] <;> ac_rfl)) (fun q hq => List.mem_append_right _ hq) hZ (rx_set l D cy T kt vt m0 x ix md rw (xs (Int32.toNatClampNeg (i + 1))) (xs (Int32.toNatClampNeg (i + 2))) (xs (Int32.toNatClampNeg (i + 3))) hrb) q_m_L_109 mv_X12_set ⟨(Nat.le_of_ble_eq_true rfl), (Nat.le_of_ble_eq_true rfl)⟩ hfsu2 rfl rfl rfl rfl (Nat.le_of_ble_eq_true rfl) ⟨by show C + 0 + 0 ≤ 600000; omega, by show S + 0 + 0 ≤ 7302250; omega⟩ dL_law_844 (fun r2 u2 H locs hu2 hP hD hS => ?_)
  refine lv_pop hx hb dL_law_847 rfl ?_
  refine lv_goto (tgt := 1260) hx hb dL_law_848 (by decide) ?_
  exact kk u u2 T x ix md H locs ls _ _ (by omega) (by omega) hu hu2 (hP.perm (perm_of (fun c f h h1 h0 => by simp only [h] <;> ac_rfl))) (hD.perm (perm_of (fun c f h h1 h0 => by simp only [h] <;> ac_rfl))) hS hl

set_option maxHeartbeats 4000000 in
set_option maxRecDepth 100000 in
theorem lc_given {p : Program} {l : Launch} {e : Env} {s : State} {m : MethodId} {below : List Frame} {meth : Method} {c : Code} {b L : Nat} {xs : Nat → Int32} {D : va_G} {cy : Nat → ClassId} {A : Nat → Prop} {kt vt : Nat} (F : kF p s m meth c code 4 ret #[Value.ref b] RL) (hE : kE D (kTY cy) s) (hX : va_X b L xs s s.heap) (hbl : b < s.heap.size) (hAA : ∀ q : Nat, A q → s.heap.size ≤ q) (hA : ∀ q : Nat, s.heap.size ≤ q → A q) (hZ : ZT kt vt A s s.heap) (hL : L ≤ 3072) (i : Int32) (hi0 : 0 ≤ i.toInt) (hi6 : i.toInt + 6 ≤ (L : Int)) (o m0 : Nat) {cw rw T : va_W} {x : Int32} {ix md : Nat → Int32} (hcb : LCB cy T o x ix md cw) (hrb : LRB cy m0 x ix md rw) {H : Heap} {locs : List Loc} (hP : va_P D vwCl (cw ++ (rw ++ T)) H) (hD : va_D A (cw ++ (rw ++ T))) (hS : va_S A s.heap H locs) {ls : Array Slot} (hl : lv_has ls 4 [(3, .int i), (2, .ref m0), (1, .ref o), (0, .ref b)]) {C S : Nat} (hC : C + 2 ≤ 600000) (hSl : S + 414 ≤ 7302250) (kk : ∀ (cw rw T : va_W) (x : Int32) (ix md : Nat → Int32) (H : Heap) (locs : List Loc) (ls : Array Slot) (C1 S1 : Nat), C1 ≤ C + 2 → S1 ≤ S + 414 → LCB cy T o x ix md cw → LRB cy m0 x ix md rw → va_P D vwCl (cw ++ (rw ++ T)) H → va_D A (cw ++ (rw ++ T)) → va_S A s.heap H locs → lv_has ls 4 [(3, .int i), (2, .ref m0), (1, .ref o), (0, .ref b)] → W p l e room_1 s m #[Value.ref b] below meth c H locs C1 S1 (lw_Z below #[Value.ref b] s) (F0 m 1260 ls [])) : W p l e room_1 s m #[Value.ref b] below meth c H locs C S (lw_Z below #[Value.ref b] s) (F0 m 851 ls []) := by
  obtain ⟨hx, hb, hr, hml, hown, hG, hlk⟩ := id F
  have hbA : ¬ A b := fun h => absurd (hAA b h) (Nat.not_le.mpr hbl)
  have j1 : (i + 1).toInt = i.toInt + 1 := k_addI rfl rfl (by decide) (by omega)
  have j2 : (i + 2).toInt = i.toInt + 2 := k_addI rfl rfl (by decide) (by omega)
  have j3 : (i + 3).toInt = i.toInt + 3 := k_addI rfl rfl (by decide) (by omega)
  have j4 : (i + 4).toInt = i.toInt + 4 := k_addI rfl rfl (by decide) (by omega)
  have j5 : (i + 5).toInt = i.toInt + 5 := k_addI rfl rfl (by decide) (by omega)
  refine lv_aload_n hx hb dL_law_851 rfl (lv_at hl 2 rfl) ?_
  refine lv_aload_n hx hb dL_law_852 rfl (lv_at hl 3 rfl) ?_
  refine lv_iload_n hx hb dL_law_853 rfl (lv_at hl 0 rfl) ?_
  refine lv_iconst (v := 1) hx hb dL_law_854 (by decide) ?_
  refine lv_iadd hx hb dL_law_855 ?_
  refine va_sld hx hb hX hbl hbA hS (k_in (by omega)) dL_law_856 ?_
  refine lv_aload_n hx hb dL_law_857 rfl (lv_at hl 3 rfl) ?_
  refine lv_iload_n hx hb dL_law_858 rfl (lv_at hl 0 rfl) ?_
  refine lv_iconst (v := 2) hx hb dL_law_859 (by decide) ?_
  refine lv_iadd hx hb dL_law_860 ?_
  refine va_sld hx hb hX hbl hbA hS (k_in (by omega)) dL_law_861 ?_
  obtain ⟨fsu, hfsu⟩ := hcb.recv
  refine lwI (w := cw) (wr := rw ++ T) (TT := T) (As := [.int (xs (Int32.toNatClampNeg (i + 1))), .int (xs (Int32.toNatClampNeg (i + 2)))]) (rest := []) F hE hP hD hS hA hl.1 (List.Perm.refl _) (fun q hq => List.mem_append_right _ hq) hZ (bx_given l D cy T kt vt o x ix md cw (xs (Int32.toNatClampNeg (i + 1))) (xs (Int32.toNatClampNeg (i + 2))) hcb) q_m_L_110 mv_X11_given ⟨(Nat.le_of_ble_eq_true rfl), (Nat.le_of_ble_eq_true rfl)⟩ hfsu rfl rfl rfl rfl (Nat.le_of_ble_eq_true rfl) ⟨by show C + 0 ≤ 600000; omega, by show S + 0 ≤ 7302250; omega⟩ dL_law_862 (fun r u H locs hu hP hD hS => ?_)
  refine lv_pop hx hb dL_law_865 rfl ?_
  refine lv_aload_n hx hb dL_law_866 rfl (lv_at hl 1 rfl) ?_
  refine lv_aload_n hx hb dL_law_867 rfl (lv_at hl 3 rfl) ?_
  refine lv_iload_n hx hb dL_law_868 rfl (lv_at hl 0 rfl) ?_
  refine lv_iconst (v := 1) hx hb dL_law_869 (by decide) ?_
  refine lv_iadd hx hb dL_law_870 ?_
  refine va_sld hx hb hX hbl hbA hS (k_in (by omega)) dL_law_871 ?_
  refine lv_aload_n hx hb dL_law_872 rfl (lv_at hl 3 rfl) ?_
  refine lv_iload_n hx hb dL_law_873 rfl (lv_at hl 0 rfl) ?_
  refine lv_iconst (v := 2) hx hb dL_law_874 (by decide) ?_
  refine lv_iadd hx hb dL_law_875 ?_
  refine va_sld hx hb hX hbl hbA hS (k_in (by omega)) dL_law_876 ?_
  obtain ⟨fsu2, hfsu2⟩ := hrb.recv
  refine lwI (w := rw) (wr := u ++ T) (TT := T) (As := [.int (xs (Int32.toNatClampNeg (i + 1))), .int (xs (Int32.toNatClampNeg (i + 2)))]) (rest := []) F hE hP hD hS hA hl.1 (perm_of (fun c f h h1 h0 => by simp only [h] <;> ac_rfl)) (fun q hq => List.mem_append_right _ hq) hZ (rx_given l D cy T kt vt m0 x ix md rw (xs (Int32.toNatClampNeg (i + 1))) (xs (Int32.toNatClampNeg (i + 2))) hrb) q_m_L_113 mv_X12_given ⟨(Nat.le_of_ble_eq_true rfl), (Nat.le_of_ble_eq_true rfl)⟩ hfsu2 rfl rfl rfl rfl (Nat.le_of_ble_eq_true rfl) ⟨by show C + 0 + 0 ≤ 600000; omega, by show S + 0 + 0 ≤ 7302250; omega⟩ dL_law_877 (fun r2 u2 H locs hu2 hP hD hS => ?_)
  refine lv_pop hx hb dL_law_880 rfl ?_
  refine lv_goto (tgt := 1260) hx hb dL_law_881 (by decide) ?_
  exact kk u u2 T x ix md H locs ls _ _ (by omega) (by omega) hu hu2 (hP.perm (perm_of (fun c f h h1 h0 => by simp only [h] <;> ac_rfl))) (hD.perm (perm_of (fun c f h h1 h0 => by simp only [h] <;> ac_rfl))) hS hl
