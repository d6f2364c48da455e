section KMK
variable {p : Program} {l : Launch} {e : Env} {R : Room} {s : State} {m : MethodId} {args : Array Value} {below : List Frame} {meth : Method} {c : Code} {H : Heap} {locs : List Loc} {cells slots : Nat} {Q : State → Prop}
variable {cc bytes : ByteArray} {pc nL maxL index n : Nat} {ls : Array Slot} {rest st As : List Value} {D : va_G} {T : List (ClassId × FieldType)} {A : Nat → Prop} {w W0 wr : va_W} {H0 : Heap} {ret ret' : Option FieldType}
variable {own : String} {cy : Nat → ClassId}
/-- new int[n][k], all of it kept -/
theorem k_mnaK {n k : Int32} {N' K' : Nat} (hx : p.tables.exec = Jvm.exec) (hb : c.code = cc) (hown : s.vm.findClass own = some m.cls) (hclink : (Cond.classLink own index "[[I").before args s = true) (harr : (Cond.arrayClass .int).before args s = true) (hE : kE D (kTY cy) s) (hP : va_P D vwCl W0 H) (hD : va_D A W0) (hS : va_S A H0 H locs) (hA : ∀ q : Nat, H0.size ≤ q → A q) (hn : ¬ n < 0) (hk : ¬ k < 0) (hN : n.toNatClampNeg = N') (hM : k.toNatClampNeg = K')
    (hb1 : N' * 4 ≤ 536870912) (hb2 : K' * 4 ≤ 536870912) (hb3 : K' ≤ 536870912) (hcells : cells + (1 + N') ≤ R.cells) (hslots : slots + (N' + N' * K') ≤ R.slots) (hdg : decode cc pc = .ok (.multianewarray index 2, 4))
    (kk : ∀ (q : Nat) (r : Nat → Nat) (H1 : Heap), va_P D vwCl ((W0 ++ [(q, .inl (cy 6, N', .inr (.inr (.inr (.inr (fun i => if i < N' then some (r i) else none))))))]) ++ (List.range N').map (fun i => (r i, .inl (cy 0, K', .inl (fun _ => 0))))) H1 → va_D A ((W0 ++ [(q, .inl (cy 6, N', .inr (.inr (.inr (.inr (fun i => if i < N' then some (r i) else none))))))]) ++ (List.range N').map (fun i => (r i, .inl (cy 0, K', .inl (fun _ => 0))))) → va_S A H0 H1 locs → W p l e R s m args below meth c H1 locs (cells + 1 + N') (slots + N' + N' * K') Q (F0 m (pc + 4) ls (.ref q :: rest))) : W p l e R s m args below meth c H locs cells slots Q (F0 m pc ls (.int k :: .int n :: rest)) := by
  have e0 : W0 ++ va_pl [] (fun _ => (.inl (cy 0, (0, .inl (fun _ => 0))) : va_E)) = W0 := List.append_nil W0
  refine va_mna (X := W0) (L := []) (f := fun _ => (.inl (cy 0, (0, .inl (fun _ => 0))) : va_E)) (ty := .int) (cy := cy 0) (N' := N') (K' := K') (z := (K', .inl (fun _ => 0))) hx hb hown (by rw [k_str]; exact hclink) hE.2.2.2.2 harr (hE.1.2 0 _ rfl).2 hE.1 (by rw [e0]; exact hP) (by rw [e0]; exact hD) hS hA hn hk hN hM hb1 hb2 hb3 rfl rfl hcells hslots (fun cx => by first | rfl | (rw [vp_cell_i, ← arrV_new]; rfl)) hdg (fun q r cA H1 _ _ hK1 hP1 hD1 hS1 => ?_)
  have h2 : s.vm.findClass ("[" ++ (FieldType.array FieldType.int).toString) = some cA := (hK1.2 (kTY cy).length (cA, .array .int) (by rw [List.getElem?_append_right (Nat.le_refl _)]; simp)).2
  have h1 : s.vm.findClass ("[" ++ (FieldType.array FieldType.int).toString) = some (cy 6) := (hE.1.2 6 _ rfl).2
  have e : cA = cy 6 := Option.some.inj (h2.symm.trans h1)
  subst e
  have e1 : va_pl ([] ++ (List.range N').map r) (vr_up (fun _ => (.inl (cy 0, (0, .inl (fun _ => 0))) : va_E)) ((List.range N').map r) (.inl (cy 0, (K', .inl (fun _ => 0))))) = (List.range N').map (fun i => (r i, .inl (cy 0, K', .inl (fun _ => 0)))) := by
    show (([] ++ (List.range N').map r).map _) = _
    rw [List.nil_append, List.map_map]
    refine List.map_congr_left (fun i hi => ?_)
    show (r i, vr_up _ _ _ (r i)) = _
    rw [vr_up_in (List.mem_map_of_mem hi)]
  rw [e1] at hP1 hD1
  exact kk q r H1 hP1 hD1 hS1
end KMK

set_option maxHeartbeats 4000000 in
set_option maxRecDepth 100000 in
theorem n_Field (l : Launch) (D : va_G) (cy : Nat → ClassId) (h0 : Nat) : KV l yX1_init cX1_init 1 1 12 D (kTY cy) [.ref h0] [(h0, .inr (1, [.null]))] (S := Nat → Nat) (fun _ => True) (fun u => [(h0, .inr (1, [.ref (u 0)])), ((u 0), .inl (cy 0, 63, .inl (fun _ => 0)))]) 1 63 := by
  refine KV.of (by decide) (Nat.le_of_ble_eq_true rfl) (fun p e s m below meth c ls A F hin hE hP hD hA hS hl => ?_)
  have F : kF p s m meth c cX1_init 1 none _ RX1 := F
  obtain ⟨hx, hb, hr, hml, hown, hG, hlk⟩ := id F
  have hl : lv_has ls 1 [(0, .ref h0)] := hl
  refine lv_aload_n hx hb dX1_init_0 rfl (lv_at hl 0 rfl) ?_
  refine W.objInit hx hb hown (hG _ q_m_X1_5) (hG _ q_i_objectInit) (hG _ q_c_objectInit) rfl (by rw [hml]; exact hl.1) rfl dX1_init_1 (Nat.le_of_ble_eq_true rfl) (Nat.le_of_ble_eq_true rfl) ?_
  refine W.eq (g2 := F0 m 4 ls []) rfl ?_
  refine lv_aload_n hx hb dX1_init_4 rfl (lv_at hl 0 rfl) ?_
  refine lv_bipush (v := 63) hx hb dX1_init_5 (by decide) ?_
  refine k_newa (atype := .int) (ty := .int) (cA := cy 0) (t0 := 0) (a0 := (63, .inl (fun _ => 0))) (N' := 63) hx hb (hG _ q_a_int) rfl (fun _ h => h) hE hP hD hS hA rfl (fun _ => rfl) (by decide) rfl (Nat.le_of_ble_eq_true rfl) (Nat.le_of_ble_eq_true rfl) (Nat.le_of_ble_eq_true rfl) dX1_init_7 (fun q_1 H hP hD hS => ?_)
  have hP : va_P D vwCl [(h0, .inr (1, [.null])), (q_1, .inl (cy 0, 63, .inl (fun _ => 0)))] H := hP
  have hD : va_D A [(h0, .inr (1, [.null])), (q_1, .inl (cy 0, 63, .inl (fun _ => 0)))] := hD
  refine va_putF (D := D) (ci := 1) (v := .ref q_1) (ty := .array .int) (C := RX1) (T := TX1) (N := 1) hx hb hG inG_X1 tyX1 tyX1_ok nmX1 hown hE.1 hP hD hS 0 rfl rfl 0 (by decide) (hG _ q_f_X1_11) (fun _ h9 => h9) rfl hin rfl (by decide +kernel) rfl rfl (Nat.le_of_ble_eq_true rfl) dX1_init_9 (fun H locs hP hD hS => ?_)
  have hP : va_P D vwCl [(h0, .inr (1, [.ref q_1])), (q_1, .inl (cy 0, 63, .inl (fun _ => 0)))] H := hP
  have hD : va_D A [(h0, .inr (1, [.ref q_1])), (q_1, .inl (cy 0, 63, .inl (fun _ => 0)))] := hD
  exact KV.rt (fun i => ([q_1] : List Nat).getD i 0) F (hP.sub [0, 1] rfl) (hD.sub [0, 1] (by decide) rfl) hS trivial (Nat.le_of_ble_eq_true rfl) (Nat.le_of_ble_eq_true rfl) dX1_init_12

set_option maxHeartbeats 4000000 in
set_option maxRecDepth 100000 in
theorem n_Tape (l : Launch) (D : va_G) (cy : Nat → ClassId) (h0 : Nat) : KV l yX10_init cX10_init 1 1 12 D (kTY cy) [.ref h0] [(h0, .inr (10, [.null, .int 0, .null, .null, .null, .int 0, .int 0, .int 0, .int 0, .int 0, .int 0]))] (S := Nat → Nat) (fun _ => True) (fun u => [(h0, .inr (10, [.ref (u 0), .int 0, .ref (u 1), .ref (u 2), .ref (u 3), .int 0, .int 0, .int 0, .int 0, .int 0, .int 0])), ((u 0), .inl (cy 0, 400, .inl (fun _ => 0))), ((u 1), .inl (cy 0, 401, .inl (fun _ => 0))), ((u 2), .inl (cy 0, 401, .inl (fun _ => 0))), ((u 3), .inl (cy 0, 401, .inl (fun _ => 0)))]) 4 1603 := by
  refine KV.of (by decide) (Nat.le_of_ble_eq_true rfl) (fun p e s m below meth c ls A F hin hE hP hD hA hS hl => ?_)
  have F : kF p s m meth c cX10_init 1 none _ RX10 := F
  obtain ⟨hx, hb, hr, hml, hown, hG, hlk⟩ := id F
  have hl : lv_has ls 1 [(0, .ref h0)] := hl
  refine lv_aload_n hx hb dX10_init_0 rfl (lv_at hl 0 rfl) ?_
  refine W.objInit hx hb hown (hG _ q_m_X10_3) (hG _ q_i_objectInit) (hG _ q_c_objectInit) rfl (by rw [hml]; exact hl.1) rfl dX10_init_1 (Nat.le_of_ble_eq_true rfl) (Nat.le_of_ble_eq_true rfl) ?_
  refine W.eq (g2 := F0 m 4 ls []) rfl ?_
  refine lv_aload_n hx hb dX10_init_4 rfl (lv_at hl 0 rfl) ?_
  refine lv_sipush (v := 400) hx hb dX10_init_5 (by decide) ?_
  refine k_newa (atype := .int) (ty := .int) (cA := cy 0) (t0 := 0) (a0 := (400, .inl (fun _ => 0))) (N' := 400) hx hb (hG _ q_a_int) rfl (fun _ h => h) hE hP hD hS hA rfl (fun _ => rfl) (by decide) rfl (Nat.le_of_ble_eq_true rfl) (Nat.le_of_ble_eq_true rfl) (Nat.le_of_ble_eq_true rfl) dX10_init_8 (fun q_1 H hP hD hS => ?_)
  have hP : va_P D vwCl [(h0, .inr (10, [.null, .int 0, .null, .null, .null, .int 0, .int 0, .int 0, .int 0, .int 0, .int 0])), (q_1, .inl (cy 0, 400, .inl (fun _ => 0)))] H := hP
  have hD : va_D A [(h0, .inr (10, [.null, .int 0, .null, .null, .null, .int 0, .int 0, .int 0, .int 0, .int 0, .int 0])), (q_1, .inl (cy 0, 400, .inl (fun _ => 0)))] := hD
  refine va_putF (D := D) (ci := 10) (v := .ref q_1) (ty := .array .int) (C := RX10) (T := TX10) (N := 11) hx hb hG inG_X10 tyX10 tyX10_ok nmX10 hown hE.1 hP hD hS 0 rfl rfl 0 (by decide) (hG _ q_f_X10_11) (fun _ h9 => h9) rfl hin rfl (by decide +kernel) rfl rfl (Nat.le_of_ble_eq_true rfl) dX10_init_10 (fun H locs hP hD hS => ?_)
  have hP : va_P D vwCl [(h0, .inr (10, [.ref q_1, .int 0, .null, .null, .null, .int 0, .int 0, .int 0, .int 0, .int 0, .int 0])), (q_1, .inl (cy 0, 400, .inl (fun _ => 0)))] H := hP
  have hD : va_D A [(h0, .inr (10, [.ref q_1, .int 0, .null, .null, .null, .int 0, .int 0, .int 0, .int 0, .int 0, .int 0])), (q_1, .inl (cy 0, 400, .inl (fun _ => 0)))] := hD
  refine lv_aload_n hx hb dX10_init_13 rfl (lv_at hl 0 rfl) ?_
  refine lv_iconst (v := 0) hx hb dX10_init_14 (by decide) ?_
  refine va_put (D := D) (ci := 10) (v := .int 0) (ty := .int) (C := RX10) (T := TX10) (N := 11) hx hb hG inG_X10 tyX10 tyX10_ok nmX10 hown hE.1 hP hD hS 0 rfl rfl 1 (by decide) (hG _ q_f_X10_15) (fun _ h9 => h9) rfl (by decide +kernel) rfl rfl (Nat.le_of_ble_eq_true rfl) dX10_init_15 (fun H locs hP hD hS => ?_)
  have hP : va_P D vwCl [(h0, .inr (10, [.ref q_1, .int 0, .null, .null, .null, .int 0, .int 0, .int 0, .int 0, .int 0, .int 0])), (q_1, .inl (cy 0, 400, .inl (fun _ => 0)))] H := hP
  have hD : va_D A [(h0, .inr (10, [.ref q_1, .int 0, .null, .null, .null, .int 0, .int 0, .int 0, .int 0, .int 0, .int 0])), (q_1, .inl (cy 0, 400, .inl (fun _ => 0)))] := hD
  refine lv_aload_n hx hb dX10_init_18 rfl (lv_at hl 0 rfl) ?_
  refine lv_sipush (v := 401) hx hb dX10_init_19 (by decide) ?_
  refine k_newa (atype := .int) (ty := .int) (cA := cy 0) (t0 := 0) (a0 := (401, .inl (fun _ => 0))) (N' := 401) hx hb (hG _ q_a_int) rfl (fun _ h => h) hE hP hD hS hA rfl (fun _ => rfl) (by decide) rfl (Nat.le_of_ble_eq_true rfl) (Nat.le_of_ble_eq_true rfl) (Nat.le_of_ble_eq_true rfl) dX10_init_22 (fun q_2 H hP hD hS => ?_)
  have hP : va_P D vwCl [(h0, .inr (10, [.ref q_1, .int 0, .null, .null, .null, .int 0, .int 0, .int 0, .int 0, .int 0, .int 0])), (q_1, .inl (cy 0, 400, .inl (fun _ => 0))), (q_2, .inl (cy 0, 401, .inl (fun _ => 0)))] H := hP
  have hD : va_D A [(h0, .inr (10, [.ref q_1, .int 0, .null, .null, .null, .int 0, .int 0, .int 0, .int 0, .int 0, .int 0])), (q_1, .inl (cy 0, 400, .inl (fun _ => 0))), (q_2, .inl (cy 0, 401, .inl (fun _ => 0)))] := hD
  refine va_putF (D := D) (ci := 10) (v := .ref q_2) (ty := .array .int) (C := RX10) (T := TX10) (N := 11) hx hb hG inG_X10 tyX10 tyX10_ok nmX10 hown hE.1 hP hD hS 0 rfl rfl 2 (by decide) (hG _ q_f_X10_19) (fun _ h9 => h9) rfl hin rfl (by decide +kernel) rfl rfl (Nat.le_of_ble_eq_true rfl) dX10_init_24 (fun H locs hP hD hS => ?_)
  have hP : va_P D vwCl [(h0, .inr (10, [.ref q_1, .int 0, .ref q_2, .null, .null, .int 0, .int 0, .int 0, .int 0, .int 0, .int 0])), (q_1, .inl (cy 0, 400, .inl (fun _ => 0))), (q_2, .inl (cy 0, 401, .inl (fun _ => 0)))] H := hP
  have hD : va_D A [(h0, .inr (10, [.ref q_1, .int 0, .ref q_2, .null, .null, .int 0, .int 0, .int 0, .int 0, .int 0, .int 0])), (q_1, .inl (cy 0, 400, .inl (fun _ => 0))), (q_2, .inl (cy 0, 401, .inl (fun _ => 0)))] := hD
  refine lv_aload_n hx hb dX10_init_27 rfl (lv_at hl 0 rfl) ?_
  refine lv_sipush (v := 401) hx hb dX10_init_28 (by decide) ?_
  refine k_newa (atype := .int) (ty := .int) (cA := cy 0) (t0 := 0) (a0 := (401, .inl (fun _ => 0))) (N' := 401) hx hb (hG _ q_a_int) rfl (fun _ h => h) hE hP hD hS hA rfl (fun _ => rfl) (by decide) rfl (Nat.le_of_ble_eq_true rfl) (Nat.le_of_ble_eq_true rfl) (Nat.le_of_ble_eq_true rfl) dX10_init_31 (fun q_3 H hP hD hS => ?_)
  have hP : va_P D vwCl [(h0, .inr (10, [.ref q_1, .int 0, .ref q_2, .null, .null, .int 0, .int 0, .int 0, .int 0, .int 0, .int 0])), (q_1, .inl (cy 0, 400, .inl (fun _ => 0))), (q_2, .inl (cy 0, 401, .inl (fun _ => 0))), (q_3, .inl (cy 0, 401, .inl (fun _ => 0)))] H := hP
  have hD : va_D A [(h0, .inr (10, [.ref q_1, .int 0, .ref q_2, .null, .null, .int 0, .int 0, .int 0, .int 0, .int 0, .int 0])), (q_1, .inl (cy 0, 400, .inl (fun _ => 0))), (q_2, .inl (cy 0, 401, .inl (fun _ => 0))), (q_3, .inl (cy 0, 401, .inl (fun _ => 0)))] := hD
  refine va_putF (D := D) (ci := 10) (v := .ref q_3) (ty := .array .int) (C := RX10) (T := TX10) (N := 11) hx hb hG inG_X10 tyX10 tyX10_ok nmX10 hown hE.1 hP hD hS 0 rfl rfl 3 (by decide) (hG _ q_f_X10_22) (fun _ h9 => h9) rfl hin rfl (by decide +kernel) rfl rfl (Nat.le_of_ble_eq_true rfl) dX10_init_33 (fun H locs hP hD hS => ?_)
  have hP : va_P D vwCl [(h0, .inr (10, [.ref q_1, .int 0, .ref q_2, .ref q_3, .null, .int 0, .int 0, .int 0, .int 0, .int 0, .int 0])), (q_1, .inl (cy 0, 400, .inl (fun _ => 0))), (q_2, .inl (cy 0, 401, .inl (fun _ => 0))), (q_3, .inl (cy 0, 401, .inl (fun _ => 0)))] H := hP
  have hD : va_D A [(h0, .inr (10, [.ref q_1, .int 0, .ref q_2, .ref q_3, .null, .int 0, .int 0, .int 0, .int 0, .int 0, .int 0])), (q_1, .inl (cy 0, 400, .inl (fun _ => 0))), (q_2, .inl (cy 0, 401, .inl (fun _ => 0))), (q_3, .inl (cy 0, 401, .inl (fun _ => 0)))] := hD
  refine lv_aload_n hx hb dX10_init_36 rfl (lv_at hl 0 rfl) ?_
  refine lv_sipush (v := 401) hx hb dX10_init_37 (by decide) ?_
  refine k_newa (atype := .int) (ty := .int) (cA := cy 0) (t0 := 0) (a0 := (401, .inl (fun _ => 0))) (N' := 401) hx hb (hG _ q_a_int) rfl (fun _ h => h) hE hP hD hS hA rfl (fun _ => rfl) (by decide) rfl (Nat.le_of_ble_eq_true rfl) (Nat.le_of_ble_eq_true rfl) (Nat.le_of_ble_eq_true rfl) dX10_init_40 (fun q_4 H hP hD hS => ?_)
  have hP : va_P D vwCl [(h0, .inr (10, [.ref q_1, .int 0, .ref q_2, .ref q_3, .null, .int 0, .int 0, .int 0, .int 0, .int 0, .int 0])), (q_1, .inl (cy 0, 400, .inl (fun _ => 0))), (q_2, .inl (cy 0, 401, .inl (fun _ => 0))), (q_3, .inl (cy 0, 401, .inl (fun _ => 0))), (q_4, .inl (cy 0, 401, .inl (fun _ => 0)))] H := hP
  have hD : va_D A [(h0, .inr (10, [.ref q_1, .int 0, .ref q_2, .ref q_3, .null, .int 0, .int 0, .int 0, .int 0, .int 0, .int 0])), (q_1, .inl (cy 0, 400, .inl (fun _ => 0))), (q_2, .inl (cy 0, 401, .inl (fun _ => 0))), (q_3, .inl (cy 0, 401, .inl (fun _ => 0))), (q_4, .inl (cy 0, 401, .inl (fun _ => 0)))] := hD
  refine va_putF (D := D) (ci := 10) (v := .ref q_4) (ty := .array .int) (C := RX10) (T := TX10) (N := 11) hx hb hG inG_X10 tyX10 tyX10_ok nmX10 hown hE.1 hP hD hS 0 rfl rfl 4 (by decide) (hG _ q_f_X10_25) (fun _ h9 => h9) rfl hin rfl (by decide +kernel) rfl rfl (Nat.le_of_ble_eq_true rfl) dX10_init_42 (fun H locs hP hD hS => ?_)
  have hP : va_P D vwCl [(h0, .inr (10, [.ref q_1, .int 0, .ref q_2, .ref q_3, .ref q_4, .int 0, .int 0, .int 0, .int 0, .int 0, .int 0])), (q_1, .inl (cy 0, 400, .inl (fun _ => 0))), (q_2, .inl (cy 0, 401, .inl (fun _ => 0))), (q_3, .inl (cy 0, 401, .inl (fun _ => 0))), (q_4, .inl (cy 0, 401, .inl (fun _ => 0)))] H := hP
  have hD : va_D A [(h0, .inr (10, [.ref q_1, .int 0, .ref q_2, .ref q_3, .ref q_4, .int 0, .int 0, .int 0, .int 0, .int 0, .int 0])), (q_1, .inl (cy 0, 400, .inl (fun _ => 0))), (q_2, .inl (cy 0, 401, .inl (fun _ => 0))), (q_3, .inl (cy 0, 401, .inl (fun _ => 0))), (q_4, .inl (cy 0, 401, .inl (fun _ => 0)))] := hD
  refine lv_aload_n hx hb dX10_init_45 rfl (lv_at hl 0 rfl) ?_
  refine lv_iconst (v := 0) hx hb dX10_init_46 (by decide) ?_
  refine va_put (D := D) (ci := 10) (v := .int 0) (ty := .int) (C := RX10) (T := TX10) (N := 11) hx hb hG inG_X10 tyX10 tyX10_ok nmX10 hown hE.1 hP hD hS 0 rfl rfl 5 (by decide) (hG _ q_f_X10_28) (fun _ h9 => h9) rfl (by decide +kernel) rfl rfl (Nat.le_of_ble_eq_true rfl) dX10_init_47 (fun H locs hP hD hS => ?_)
  have hP : va_P D vwCl [(h0, .inr (10, [.ref q_1, .int 0, .ref q_2, .ref q_3, .ref q_4, .int 0, .int 0, .int 0, .int 0, .int 0, .int 0])), (q_1, .inl (cy 0, 400, .inl (fun _ => 0))), (q_2, .inl (cy 0, 401, .inl (fun _ => 0))), (q_3, .inl (cy 0, 401, .inl (fun _ => 0))), (q_4, .inl (cy 0, 401, .inl (fun _ => 0)))] H := hP
  have hD : va_D A [(h0, .inr (10, [.ref q_1, .int 0, .ref q_2, .ref q_3, .ref q_4, .int 0, .int 0, .int 0, .int 0, .int 0, .int 0])), (q_1, .inl (cy 0, 400, .inl (fun _ => 0))), (q_2, .inl (cy 0, 401, .inl (fun _ => 0))), (q_3, .inl (cy 0, 401, .inl (fun _ => 0))), (q_4, .inl (cy 0, 401, .inl (fun _ => 0)))] := hD
  refine lv_aload_n hx hb dX10_init_50 rfl (lv_at hl 0 rfl) ?_
  refine lv_iconst (v := 0) hx hb dX10_init_51 (by decide) ?_
  refine va_put (D := D) (ci := 10) (v := .int 0) (ty := .int) (C := RX10) (T := TX10) (N := 11) hx hb hG inG_X10 tyX10 tyX10_ok nmX10 hown hE.1 hP hD hS 0 rfl rfl 6 (by decide) (hG _ q_f_X10_31) (fun _ h9 => h9) rfl (by decide +kernel) rfl rfl (Nat.le_of_ble_eq_true rfl) dX10_init_52 (fun H locs hP hD hS => ?_)
  have hP : va_P D vwCl [(h0, .inr (10, [.ref q_1, .int 0, .ref q_2, .ref q_3, .ref q_4, .int 0, .int 0, .int 0, .int 0, .int 0, .int 0])), (q_1, .inl (cy 0, 400, .inl (fun _ => 0))), (q_2, .inl (cy 0, 401, .inl (fun _ => 0))), (q_3, .inl (cy 0, 401, .inl (fun _ => 0))), (q_4, .inl (cy 0, 401, .inl (fun _ => 0)))] H := hP
  have hD : va_D A [(h0, .inr (10, [.ref q_1, .int 0, .ref q_2, .ref q_3, .ref q_4, .int 0, .int 0, .int 0, .int 0, .int 0, .int 0])), (q_1, .inl (cy 0, 400, .inl (fun _ => 0))), (q_2, .inl (cy 0, 401, .inl (fun _ => 0))), (q_3, .inl (cy 0, 401, .inl (fun _ => 0))), (q_4, .inl (cy 0, 401, .inl (fun _ => 0)))] := hD
  refine lv_aload_n hx hb dX10_init_55 rfl (lv_at hl 0 rfl) ?_
  refine lv_iconst (v := 0) hx hb dX10_init_56 (by decide) ?_
  refine va_put (D := D) (ci := 10) (v := .int 0) (ty := .int) (C := RX10) (T := TX10) (N := 11) hx hb hG inG_X10 tyX10 tyX10_ok nmX10 hown hE.1 hP hD hS 0 rfl rfl 7 (by decide) (hG _ q_f_X10_34) (fun _ h9 => h9) rfl (by decide +kernel) rfl rfl (Nat.le_of_ble_eq_true rfl) dX10_init_57 (fun H locs hP hD hS => ?_)
  have hP : va_P D vwCl [(h0, .inr (10, [.ref q_1, .int 0, .ref q_2, .ref q_3, .ref q_4, .int 0, .int 0, .int 0, .int 0, .int 0, .int 0])), (q_1, .inl (cy 0, 400, .inl (fun _ => 0))), (q_2, .inl (cy 0, 401, .inl (fun _ => 0))), (q_3, .inl (cy 0, 401, .inl (fun _ => 0))), (q_4, .inl (cy 0, 401, .inl (fun _ => 0)))] H := hP
  have hD : va_D A [(h0, .inr (10, [.ref q_1, .int 0, .ref q_2, .ref q_3, .ref q_4, .int 0, .int 0, .int 0, .int 0, .int 0, .int 0])), (q_1, .inl (cy 0, 400, .inl (fun _ => 0))), (q_2, .inl (cy 0, 401, .inl (fun _ => 0))), (q_3, .inl (cy 0, 401, .inl (fun _ => 0))), (q_4, .inl (cy 0, 401, .inl (fun _ => 0)))] := hD
  refine lv_aload_n hx hb dX10_init_60 rfl (lv_at hl 0 rfl) ?_
  refine lv_iconst (v := 0) hx hb dX10_init_61 (by decide) ?_
  refine va_put (D := D) (ci := 10) (v := .int 0) (ty := .int) (C := RX10) (T := TX10) (N := 11) hx hb hG inG_X10 tyX10 tyX10_ok nmX10 hown hE.1 hP hD hS 0 rfl rfl 8 (by decide) (hG _ q_f_X10_37) (fun _ h9 => h9) rfl (by decide +kernel) rfl rfl (Nat.le_of_ble_eq_true rfl) dX10_init_62 (fun H locs hP hD hS => ?_)
  have hP : va_P D vwCl [(h0, .inr (10, [.ref q_1, .int 0, .ref q_2, .ref q_3, .ref q_4, .int 0, .int 0, .int 0, .int 0, .int 0, .int 0])), (q_1, .inl (cy 0, 400, .inl (fun _ => 0))), (q_2, .inl (cy 0, 401, .inl (fun _ => 0))), (q_3, .inl (cy 0, 401, .inl (fun _ => 0))), (q_4, .inl (cy 0, 401, .inl (fun _ => 0)))] H := hP
  have hD : va_D A [(h0, .inr (10, [.ref q_1, .int 0, .ref q_2, .ref q_3, .ref q_4, .int 0, .int 0, .int 0, .int 0, .int 0, .int 0])), (q_1, .inl (cy 0, 400, .inl (fun _ => 0))), (q_2, .inl (cy 0, 401, .inl (fun _ => 0))), (q_3, .inl (cy 0, 401, .inl (fun _ => 0))), (q_4, .inl (cy 0, 401, .inl (fun _ => 0)))] := hD
  refine lv_aload_n hx hb dX10_init_65 rfl (lv_at hl 0 rfl) ?_
  refine lv_iconst (v := 0) hx hb dX10_init_66 (by decide) ?_
  refine va_put (D := D) (ci := 10) (v := .int 0) (ty := .int) (C := RX10) (T := TX10) (N := 11) hx hb hG inG_X10 tyX10 tyX10_ok nmX10 hown hE.1 hP hD hS 0 rfl rfl 9 (by decide) (hG _ q_f_X10_40) (fun _ h9 => h9) rfl (by decide +kernel) rfl rfl (Nat.le_of_ble_eq_true rfl) dX10_init_67 (fun H locs hP hD hS => ?_)
  have hP : va_P D vwCl [(h0, .inr (10, [.ref q_1, .int 0, .ref q_2, .ref q_3, .ref q_4, .int 0, .int 0, .int 0, .int 0, .int 0, .int 0])), (q_1, .inl (cy 0, 400, .inl (fun _ => 0))), (q_2, .inl (cy 0, 401, .inl (fun _ => 0))), (q_3, .inl (cy 0, 401, .inl (fun _ => 0))), (q_4, .inl (cy 0, 401, .inl (fun _ => 0)))] H := hP
  have hD : va_D A [(h0, .inr (10, [.ref q_1, .int 0, .ref q_2, .ref q_3, .ref q_4, .int 0, .int 0, .int 0, .int 0, .int 0, .int 0])), (q_1, .inl (cy 0, 400, .inl (fun _ => 0))), (q_2, .inl (cy 0, 401, .inl (fun _ => 0))), (q_3, .inl (cy 0, 401, .inl (fun _ => 0))), (q_4, .inl (cy 0, 401, .inl (fun _ => 0)))] := hD
  refine lv_aload_n hx hb dX10_init_70 rfl (lv_at hl 0 rfl) ?_
  refine lv_iconst (v := 0) hx hb dX10_init_71 (by decide) ?_
  refine va_put (D := D) (ci := 10) (v := .int 0) (ty := .int) (C := RX10) (T := TX10) (N := 11) hx hb hG inG_X10 tyX10 tyX10_ok nmX10 hown hE.1 hP hD hS 0 rfl rfl 10 (by decide) (hG _ q_f_X10_43) (fun _ h9 => h9) rfl (by decide +kernel) rfl rfl (Nat.le_of_ble_eq_true rfl) dX10_init_72 (fun H locs hP hD hS => ?_)
  have hP : va_P D vwCl [(h0, .inr (10, [.ref q_1, .int 0, .ref q_2, .ref q_3, .ref q_4, .int 0, .int 0, .int 0, .int 0, .int 0, .int 0])), (q_1, .inl (cy 0, 400, .inl (fun _ => 0))), (q_2, .inl (cy 0, 401, .inl (fun _ => 0))), (q_3, .inl (cy 0, 401, .inl (fun _ => 0))), (q_4, .inl (cy 0, 401, .inl (fun _ => 0)))] H := hP
  have hD : va_D A [(h0, .inr (10, [.ref q_1, .int 0, .ref q_2, .ref q_3, .ref q_4, .int 0, .int 0, .int 0, .int 0, .int 0, .int 0])), (q_1, .inl (cy 0, 400, .inl (fun _ => 0))), (q_2, .inl (cy 0, 401, .inl (fun _ => 0))), (q_3, .inl (cy 0, 401, .inl (fun _ => 0))), (q_4, .inl (cy 0, 401, .inl (fun _ => 0)))] := hD
  exact KV.rt (fun i => ([q_1, q_2, q_3, q_4] : List Nat).getD i 0) F (hP.sub [0, 1, 2, 3, 4] rfl) (hD.sub [0, 1, 2, 3, 4] (by decide) rfl) hS trivial (Nat.le_of_ble_eq_true rfl) (Nat.le_of_ble_eq_true rfl) dX10_init_75

set_option maxHeartbeats 4000000 in
set_option maxRecDepth 100000 in
theorem n_GreenReader (l : Launch) (D : va_G) (cy : Nat → ClassId) (h0 : Nat) : KV l yX3_init cX3_init 1 2 32 D (kTY cy) [.ref h0] [(h0, .inr (3, [.null]))] (S := Nat → Nat) (fun _ => True) (fun u => [(h0, .inr (3, [.ref (u 0)])), ((u 0), .inr (1, [.ref (u 1)])), ((u 1), .inl (cy 0, 63, .inl (fun _ => 0)))]) 2 64 := by
  refine KV.of (by decide) (Nat.le_of_ble_eq_true rfl) (fun p e s m below meth c ls A F hin hE hP hD hA hS hl => ?_)
  have F : kF p s m meth c cX3_init 1 none _ RX3 := F
  obtain ⟨hx, hb, hr, hml, hown, hG, hlk⟩ := id F
  have hl : lv_has ls 1 [(0, .ref h0)] := hl
  refine lv_aload_n hx hb dX3_init_0 rfl (lv_at hl 0 rfl) ?_
  refine W.objInit hx hb hown (hG _ q_m_X3_3) (hG _ q_i_objectInit) (hG _ q_c_objectInit) rfl (by rw [hml]; exact hl.1) rfl dX3_init_1 (Nat.le_of_ble_eq_true rfl) (Nat.le_of_ble_eq_true rfl) ?_
  refine W.eq (g2 := F0 m 4 ls []) rfl ?_
  refine lv_aload_n hx hb dX3_init_4 rfl (lv_at hl 0 rfl) ?_
  refine va_new (ci := 1) (fs := [.null]) (C := RX1) (T := TX1) (N := 1) hx hb hG inG_X1 tyX1 tyX1_ok hown (hG _ q_k_X3_9) (hG _ q_n_X1) (hG _ q_z_X1) hE.1 hP hD hS hA rfl dfX1 (Nat.le_of_ble_eq_true rfl) (Nat.le_of_ble_eq_true rfl) dX3_init_5 (fun q_1 H hP hD hS => ?_)
  have hP : va_P D vwCl [(h0, .inr (3, [.null])), (q_1, .inr (1, [.null]))] H := hP
  have hD : va_D A [(h0, .inr (3, [.null])), (q_1, .inr (1, [.null]))] := hD
  refine lv_dup hx hb dX3_init_8 rfl ?_
  refine kwIN (host := RX11) (wr := [(h0, .inr (3, [.null]))]) (As := []) (rest := [.ref q_1, .ref h0]) F hE hP hD hS hA hl.1 (n_Field l D cy (h0 := q_1)) mi_X1_init (by decide +kernel) ⟨(Nat.le_of_ble_eq_true rfl), (Nat.le_of_ble_eq_true rfl)⟩ [1] [0] (by decide) rfl rfl (by decide) (by decide) rfl rfl (Nat.le_of_ble_eq_true rfl) ⟨(Nat.le_of_ble_eq_true rfl), (Nat.le_of_ble_eq_true rfl)⟩ dX3_init_9 (fun u_2 H locs eu_2 hP hD hS => ?_)
  have hP : va_P D vwCl [(h0, .inr (3, [.null])), (q_1, .inr (1, [.ref (u_2 0)])), ((u_2 0), .inl (cy 0, 63, .inl (fun _ => 0)))] H := hP
  have hD : va_D A [(h0, .inr (3, [.null])), (q_1, .inr (1, [.ref (u_2 0)])), ((u_2 0), .inl (cy 0, 63, .inl (fun _ => 0)))] := hD
  refine va_putF (D := D) (ci := 3) (v := .ref q_1) (ty := .object "StrawButts$Field") (C := RX3) (T := TX3) (N := 1) hx hb hG inG_X3 tyX3 tyX3_ok nmX3 hown hE.1 hP hD hS 0 rfl rfl 0 (by decide) (hG _ q_f_X3_12) (fun _ h9 => h9) rfl hin rfl (by decide +kernel) rfl rfl (Nat.le_of_ble_eq_true rfl) dX3_init_12 (fun H locs hP hD hS => ?_)
  have hP : va_P D vwCl [(h0, .inr (3, [.ref q_1])), (q_1, .inr (1, [.ref (u_2 0)])), ((u_2 0), .inl (cy 0, 63, .inl (fun _ => 0)))] H := hP
  have hD : va_D A [(h0, .inr (3, [.ref q_1])), (q_1, .inr (1, [.ref (u_2 0)])), ((u_2 0), .inl (cy 0, 63, .inl (fun _ => 0)))] := hD
  exact KV.rt (fun i => ([q_1, (u_2 0)] : List Nat).getD i 0) F (hP.sub [0, 1, 2] rfl) (hD.sub [0, 1, 2] (by decide) rfl) hS trivial (Nat.le_of_ble_eq_true rfl) (Nat.le_of_ble_eq_true rfl) dX3_init_15

set_option maxHeartbeats 4000000 in
set_option maxRecDepth 100000 in
theorem n_RuleReader (l : Launch) (D : va_G) (cy : Nat → ClassId) (h0 : Nat) : KV l yX8_init cX8_init 1 1 12 D (kTY cy) [.ref h0] [(h0, .inr (8, [.null, .int 0, .int 0]))] (S := Nat → Nat) (fun _ => True) (fun u => [(h0, .inr (8, [.ref (u 0), .int 0, .int 0])), ((u 0), .inl (cy 0, 412, .inl (fun _ => 0)))]) 1 412 := by
  refine KV.of (by decide) (Nat.le_of_ble_eq_true rfl) (fun p e s m below meth c ls A F hin hE hP hD hA hS hl => ?_)
  have F : kF p s m meth c cX8_init 1 none _ RX8 := F
  obtain ⟨hx, hb, hr, hml, hown, hG, hlk⟩ := id F
  have hl : lv_has ls 1 [(0, .ref h0)] := hl
  refine lv_aload_n hx hb dX8_init_0 rfl (lv_at hl 0 rfl) ?_
  refine W.objInit hx hb hown (hG _ q_m_X8_7) (hG _ q_i_objectInit) (hG _ q_c_objectInit) rfl (by rw [hml]; exact hl.1) rfl dX8_init_1 (Nat.le_of_ble_eq_true rfl) (Nat.le_of_ble_eq_true rfl) ?_
  refine W.eq (g2 := F0 m 4 ls []) rfl ?_
  refine lv_aload_n hx hb dX8_init_4 rfl (lv_at hl 0 rfl) ?_
  refine lv_sipush (v := 412) hx hb dX8_init_5 (by decide) ?_
  refine k_newa (atype := .int) (ty := .int) (cA := cy 0) (t0 := 0) (a0 := (412, .inl (fun _ => 0))) (N' := 412) hx hb (hG _ q_a_int) rfl (fun _ h => h) hE hP hD hS hA rfl (fun _ => rfl) (by decide) rfl (Nat.le_of_ble_eq_true rfl) (Nat.le_of_ble_eq_true rfl) (Nat.le_of_ble_eq_true rfl) dX8_init_8 (fun q_1 H hP hD hS => ?_)
  have hP : va_P D vwCl [(h0, .inr (8, [.null, .int 0, .int 0])), (q_1, .inl (cy 0, 412, .inl (fun _ => 0)))] H := hP
  have hD : va_D A [(h0, .inr (8, [.null, .int 0, .int 0])), (q_1, .inl (cy 0, 412, .inl (fun _ => 0)))] := hD
  refine va_putF (D := D) (ci := 8) (v := .ref q_1) (ty := .array .int) (C := RX8) (T := TX8) (N := 3) hx hb hG inG_X8 tyX8 tyX8_ok nmX8 hown hE.1 hP hD hS 0 rfl rfl 0 (by decide) (hG _ q_f_X8_13) (fun _ h9 => h9) rfl hin rfl (by decide +kernel) rfl rfl (Nat.le_of_ble_eq_true rfl) dX8_init_10 (fun H locs hP hD hS => ?_)
  have hP : va_P D vwCl [(h0, .inr (8, [.ref q_1, .int 0, .int 0])), (q_1, .inl (cy 0, 412, .inl (fun _ => 0)))] H := hP
  have hD : va_D A [(h0, .inr (8, [.ref q_1, .int 0, .int 0])), (q_1, .inl (cy 0, 412, .inl (fun _ => 0)))] := hD
  refine lv_aload_n hx hb dX8_init_13 rfl (lv_at hl 0 rfl) ?_
  refine lv_iconst (v := 0) hx hb dX8_init_14 (by decide) ?_
  refine va_put (D := D) (ci := 8) (v := .int 0) (ty := .int) (C := RX8) (T := TX8) (N := 3) hx hb hG inG_X8 tyX8 tyX8_ok nmX8 hown hE.1 hP hD hS 0 rfl rfl 1 (by decide) (hG _ q_f_X8_17) (fun _ h9 => h9) rfl (by decide +kernel) rfl rfl (Nat.le_of_ble_eq_true rfl) dX8_init_15 (fun H locs hP hD hS => ?_)
  have hP : va_P D vwCl [(h0, .inr (8, [.ref q_1, .int 0, .int 0])), (q_1, .inl (cy 0, 412, .inl (fun _ => 0)))] H := hP
  have hD : va_D A [(h0, .inr (8, [.ref q_1, .int 0, .int 0])), (q_1, .inl (cy 0, 412, .inl (fun _ => 0)))] := hD
  refine lv_aload_n hx hb dX8_init_18 rfl (lv_at hl 0 rfl) ?_
  refine lv_iconst (v := 0) hx hb dX8_init_19 (by decide) ?_
  refine va_put (D := D) (ci := 8) (v := .int 0) (ty := .int) (C := RX8) (T := TX8) (N := 3) hx hb hG inG_X8 tyX8 tyX8_ok nmX8 hown hE.1 hP hD hS 0 rfl rfl 2 (by decide) (hG _ q_f_X8_21) (fun _ h9 => h9) rfl (by decide +kernel) rfl rfl (Nat.le_of_ble_eq_true rfl) dX8_init_20 (fun H locs hP hD hS => ?_)
  have hP : va_P D vwCl [(h0, .inr (8, [.ref q_1, .int 0, .int 0])), (q_1, .inl (cy 0, 412, .inl (fun _ => 0)))] H := hP
  have hD : va_D A [(h0, .inr (8, [.ref q_1, .int 0, .int 0])), (q_1, .inl (cy 0, 412, .inl (fun _ => 0)))] := hD
  exact KV.rt (fun i => ([q_1] : List Nat).getD i 0) F (hP.sub [0, 1] rfl) (hD.sub [0, 1] (by decide) rfl) hS trivial (Nat.le_of_ble_eq_true rfl) (Nat.le_of_ble_eq_true rfl) dX8_init_23

set_option maxHeartbeats 4000000 in
set_option maxRecDepth 100000 in
theorem n_Notes (l : Launch) (D : va_G) (cy : Nat → ClassId) (h0 : Nat) : KV l yX5_init cX5_init 1 1 12 D (kTY cy) [.ref h0] [(h0, .inr (5, [.null, .null, .null, .int 0]))] (S := Nat → Nat) (fun _ => True) (fun u => [(h0, .inr (5, [.ref (u 0), .ref (u 1), .ref (u 2), .int 0])), ((u 0), .inl (cy 0, 10, .inl (fun _ => 0))), ((u 1), .inl (cy 0, 10, .inl (fun _ => 0))), ((u 2), .inl (cy 0, 10, .inl (fun _ => 0)))]) 3 30 := by
  refine KV.of (by decide) (Nat.le_of_ble_eq_true rfl) (fun p e s m below meth c ls A F hin hE hP hD hA hS hl => ?_)
  have F : kF p s m meth c cX5_init 1 none _ RX5 := F
  obtain ⟨hx, hb, hr, hml, hown, hG, hlk⟩ := id F
  have hl : lv_has ls 1 [(0, .ref h0)] := hl
  refine lv_aload_n hx hb dX5_init_0 rfl (lv_at hl 0 rfl) ?_
  refine W.objInit hx hb hown (hG _ q_m_X5_3) (hG _ q_i_objectInit) (hG _ q_c_objectInit) rfl (by rw [hml]; exact hl.1) rfl dX5_init_1 (Nat.le_of_ble_eq_true rfl) (Nat.le_of_ble_eq_true rfl) ?_
  refine W.eq (g2 := F0 m 4 ls []) rfl ?_
  refine lv_aload_n hx hb dX5_init_4 rfl (lv_at hl 0 rfl) ?_
  refine lv_bipush (v := 10) hx hb dX5_init_5 (by decide) ?_
  refine k_newa (atype := .int) (ty := .int) (cA := cy 0) (t0 := 0) (a0 := (10, .inl (fun _ => 0))) (N' := 10) hx hb (hG _ q_a_int) rfl (fun _ h => h) hE hP hD hS hA rfl (fun _ => rfl) (by decide) rfl (Nat.le_of_ble_eq_true rfl) (Nat.le_of_ble_eq_true rfl) (Nat.le_of_ble_eq_true rfl) dX5_init_7 (fun q_1 H hP hD hS => ?_)
  have hP : va_P D vwCl [(h0, .inr (5, [.null, .null, .null, .int 0])), (q_1, .inl (cy 0, 10, .inl (fun _ => 0)))] H := hP
  have hD : va_D A [(h0, .inr (5, [.null, .null, .null, .int 0])), (q_1, .inl (cy 0, 10, .inl (fun _ => 0)))] := hD
  refine va_putF (D := D) (ci := 5) (v := .ref q_1) (ty := .array .int) (C := RX5) (T := TX5) (N := 4) hx hb hG inG_X5 tyX5 tyX5_ok nmX5 hown hE.1 hP hD hS 0 rfl rfl 0 (by decide) (hG _ q_f_X5_11) (fun _ h9 => h9) rfl hin rfl (by decide +kernel) rfl rfl (Nat.le_of_ble_eq_true rfl) dX5_init_9 (fun H locs hP hD hS => ?_)
  have hP : va_P D vwCl [(h0, .inr (5, [.ref q_1, .null, .null, .int 0])), (q_1, .inl (cy 0, 10, .inl (fun _ => 0)))] H := hP
  have hD : va_D A [(h0, .inr (5, [.ref q_1, .null, .null, .int 0])), (q_1, .inl (cy 0, 10, .inl (fun _ => 0)))] := hD
  refine lv_aload_n hx hb dX5_init_12 rfl (lv_at hl 0 rfl) ?_
  refine lv_bipush (v := 10) hx hb dX5_init_13 (by decide) ?_
  refine k_newa (atype := .int) (ty := .int) (cA := cy 0) (t0 := 0) (a0 := (10, .inl (fun _ => 0))) (N' := 10) hx hb (hG _ q_a_int) rfl (fun _ h => h) hE hP hD hS hA rfl (fun _ => rfl) (by decide) rfl (Nat.le_of_ble_eq_true rfl) (Nat.le_of_ble_eq_true rfl) (Nat.le_of_ble_eq_true rfl) dX5_init_15 (fun q_2 H hP hD hS => ?_)
  have hP : va_P D vwCl [(h0, .inr (5, [.ref q_1, .null, .null, .int 0])), (q_1, .inl (cy 0, 10, .inl (fun _ => 0))), (q_2, .inl (cy 0, 10, .inl (fun _ => 0)))] H := hP
  have hD : va_D A [(h0, .inr (5, [.ref q_1, .null, .null, .int 0])), (q_1, .inl (cy 0, 10, .inl (fun _ => 0))), (q_2, .inl (cy 0, 10, .inl (fun _ => 0)))] := hD
  refine va_putF (D := D) (ci := 5) (v := .ref q_2) (ty := .array .int) (C := RX5) (T := TX5) (N := 4) hx hb hG inG_X5 tyX5 tyX5_ok nmX5 hown hE.1 hP hD hS 0 rfl rfl 1 (by decide) (hG _ q_f_X5_15) (fun _ h9 => h9) rfl hin rfl (by decide +kernel) rfl rfl (Nat.le_of_ble_eq_true rfl) dX5_init_17 (fun H locs hP hD hS => ?_)
  have hP : va_P D vwCl [(h0, .inr (5, [.ref q_1, .ref q_2, .null, .int 0])), (q_1, .inl (cy 0, 10, .inl (fun _ => 0))), (q_2, .inl (cy 0, 10, .inl (fun _ => 0)))] H := hP
  have hD : va_D A [(h0, .inr (5, [.ref q_1, .ref q_2, .null, .int 0])), (q_1, .inl (cy 0, 10, .inl (fun _ => 0))), (q_2, .inl (cy 0, 10, .inl (fun _ => 0)))] := hD
  refine lv_aload_n hx hb dX5_init_20 rfl (lv_at hl 0 rfl) ?_
  refine lv_bipush (v := 10) hx hb dX5_init_21 (by decide) ?_
  refine k_newa (atype := .int) (ty := .int) (cA := cy 0) (t0 := 0) (a0 := (10, .inl (fun _ => 0))) (N' := 10) hx hb (hG _ q_a_int) rfl (fun _ h => h) hE hP hD hS hA rfl (fun _ => rfl) (by decide) rfl (Nat.le_of_ble_eq_true rfl) (Nat.le_of_ble_eq_true rfl) (Nat.le_of_ble_eq_true rfl) dX5_init_23 (fun q_3 H hP hD hS => ?_)
  have hP : va_P D vwCl [(h0, .inr (5, [.ref q_1, .ref q_2, .null, .int 0])), (q_1, .inl (cy 0, 10, .inl (fun _ => 0))), (q_2, .inl (cy 0, 10, .inl (fun _ => 0))), (q_3, .inl (cy 0, 10, .inl (fun _ => 0)))] H := hP
  have hD : va_D A [(h0, .inr (5, [.ref q_1, .ref q_2, .null, .int 0])), (q_1, .inl (cy 0, 10, .inl (fun _ => 0))), (q_2, .inl (cy 0, 10, .inl (fun _ => 0))), (q_3, .inl (cy 0, 10, .inl (fun _ => 0)))] := hD
  refine va_putF (D := D) (ci := 5) (v := .ref q_3) (ty := .array .int) (C := RX5) (T := TX5) (N := 4) hx hb hG inG_X5 tyX5 tyX5_ok nmX5 hown hE.1 hP hD hS 0 rfl rfl 2 (by decide) (hG _ q_f_X5_18) (fun _ h9 => h9) rfl hin rfl (by decide +kernel) rfl rfl (Nat.le_of_ble_eq_true rfl) dX5_init_25 (fun H locs hP hD hS => ?_)
  have hP : va_P D vwCl [(h0, .inr (5, [.ref q_1, .ref q_2, .ref q_3, .int 0])), (q_1, .inl (cy 0, 10, .inl (fun _ => 0))), (q_2, .inl (cy 0, 10, .inl (fun _ => 0))), (q_3, .inl (cy 0, 10, .inl (fun _ => 0)))] H := hP
  have hD : va_D A [(h0, .inr (5, [.ref q_1, .ref q_2, .ref q_3, .int 0])), (q_1, .inl (cy 0, 10, .inl (fun _ => 0))), (q_2, .inl (cy 0, 10, .inl (fun _ => 0))), (q_3, .inl (cy 0, 10, .inl (fun _ => 0)))] := hD
  refine lv_aload_n hx hb dX5_init_28 rfl (lv_at hl 0 rfl) ?_
  refine lv_iconst (v := 0) hx hb dX5_init_29 (by decide) ?_
  refine va_put (D := D) (ci := 5) (v := .int 0) (ty := .int) (C := RX5) (T := TX5) (N := 4) hx hb hG inG_X5 tyX5 tyX5_ok nmX5 hown hE.1 hP hD hS 0 rfl rfl 3 (by decide) (hG _ q_f_X5_21) (fun _ h9 => h9) rfl (by decide +kernel) rfl rfl (Nat.le_of_ble_eq_true rfl) dX5_init_30 (fun H locs hP hD hS => ?_)
  have hP : va_P D vwCl [(h0, .inr (5, [.ref q_1, .ref q_2, .ref q_3, .int 0])), (q_1, .inl (cy 0, 10, .inl (fun _ => 0))), (q_2, .inl (cy 0, 10, .inl (fun _ => 0))), (q_3, .inl (cy 0, 10, .inl (fun _ => 0)))] H := hP
  have hD : va_D A [(h0, .inr (5, [.ref q_1, .ref q_2, .ref q_3, .int 0])), (q_1, .inl (cy 0, 10, .inl (fun _ => 0))), (q_2, .inl (cy 0, 10, .inl (fun _ => 0))), (q_3, .inl (cy 0, 10, .inl (fun _ => 0)))] := hD
  exact KV.rt (fun i => ([q_1, q_2, q_3] : List Nat).getD i 0) F (hP.sub [0, 1, 2, 3] rfl) (hD.sub [0, 1, 2, 3] (by decide) rfl) hS trivial (Nat.le_of_ble_eq_true rfl) (Nat.le_of_ble_eq_true rfl) dX5_init_33

set_option maxHeartbeats 4000000 in
set_option maxRecDepth 100000 in
theorem n_Moment (l : Launch) (D : va_G) (cy : Nat → ClassId) (h0 : Nat) : KV l yX4_init cX4_init 1 2 32 D (kTY cy) [.ref h0] [(h0, .inr (4, [.null, .null, .null, .int 0, .int 0, .int 0]))] (S := Nat → Nat) (fun _ => True) (fun u => [(h0, .inr (4, [.ref (u 0), .ref (u 1), .ref (u 2), .int (-1), .int 0, .int 0])), ((u 0), .inr (1, [.ref (u 3)])), ((u 3), .inl (cy 0, 63, .inl (fun _ => 0))), ((u 1), .inr (1, [.ref (u 4)])), ((u 4), .inl (cy 0, 63, .inl (fun _ => 0))), ((u 2), .inr (5, [.ref (u 5), .ref (u 6), .ref (u 7), .int 0])), ((u 5), .inl (cy 0, 10, .inl (fun _ => 0))), ((u 6), .inl (cy 0, 10, .inl (fun _ => 0))), ((u 7), .inl (cy 0, 10, .inl (fun _ => 0)))]) 8 162 := by
  refine KV.of (by decide) (Nat.le_of_ble_eq_true rfl) (fun p e s m below meth c ls A F hin hE hP hD hA hS hl => ?_)
  have F : kF p s m meth c cX4_init 1 none _ RX4 := F
  obtain ⟨hx, hb, hr, hml, hown, hG, hlk⟩ := id F
  have hl : lv_has ls 1 [(0, .ref h0)] := hl
  refine lv_aload_n hx hb dX4_init_0 rfl (lv_at hl 0 rfl) ?_
  refine W.objInit hx hb hown (hG _ q_m_X4_3) (hG _ q_i_objectInit) (hG _ q_c_objectInit) rfl (by rw [hml]; exact hl.1) rfl dX4_init_1 (Nat.le_of_ble_eq_true rfl) (Nat.le_of_ble_eq_true rfl) ?_
  refine W.eq (g2 := F0 m 4 ls []) rfl ?_
  refine lv_aload_n hx hb dX4_init_4 rfl (lv_at hl 0 rfl) ?_
  refine va_new (ci := 1) (fs := [.null]) (C := RX1) (T := TX1) (N := 1) hx hb hG inG_X1 tyX1 tyX1_ok hown (hG _ q_k_X4_9) (hG _ q_n_X1) (hG _ q_z_X1) hE.1 hP hD hS hA rfl dfX1 (Nat.le_of_ble_eq_true rfl) (Nat.le_of_ble_eq_true rfl) dX4_init_5 (fun q_1 H hP hD hS => ?_)
  have hP : va_P D vwCl [(h0, .inr (4, [.null, .null, .null, .int 0, .int 0, .int 0])), (q_1, .inr (1, [.null]))] H := hP
  have hD : va_D A [(h0, .inr (4, [.null, .null, .null, .int 0, .int 0, .int 0])), (q_1, .inr (1, [.null]))] := hD
  refine lv_dup hx hb dX4_init_8 rfl ?_
  refine kwIN (host := RX11) (wr := [(h0, .inr (4, [.null, .null, .null, .int 0, .int 0, .int 0]))]) (As := []) (rest := [.ref q_1, .ref h0]) F hE hP hD hS hA hl.1 (n_Field l D cy (h0 := q_1)) mi_X1_init (by decide +kernel) ⟨(Nat.le_of_ble_eq_true rfl), (Nat.le_of_ble_eq_true rfl)⟩ [1] [0] (by decide) rfl rfl (by decide) (by decide) rfl rfl (Nat.le_of_ble_eq_true rfl) ⟨(Nat.le_of_ble_eq_true rfl), (Nat.le_of_ble_eq_true rfl)⟩ dX4_init_9 (fun u_2 H locs eu_2 hP hD hS => ?_)
  have hP : va_P D vwCl [(h0, .inr (4, [.null, .null, .null, .int 0, .int 0, .int 0])), (q_1, .inr (1, [.ref (u_2 0)])), ((u_2 0), .inl (cy 0, 63, .inl (fun _ => 0)))] H := hP
  have hD : va_D A [(h0, .inr (4, [.null, .null, .null, .int 0, .int 0, .int 0])), (q_1, .inr (1, [.ref (u_2 0)])), ((u_2 0), .inl (cy 0, 63, .inl (fun _ => 0)))] := hD
  refine va_putF (D := D) (ci := 4) (v := .ref q_1) (ty := .object "StrawButts$Field") (C := RX4) (T := TX4) (N := 6) hx hb hG inG_X4 tyX4 tyX4_ok nmX4 hown hE.1 hP hD hS 0 rfl rfl 0 (by decide) (hG _ q_f_X4_12) (fun _ h9 => h9) rfl hin rfl (by decide +kernel) rfl rfl (Nat.le_of_ble_eq_true rfl) dX4_init_12 (fun H locs hP hD hS => ?_)
  have hP : va_P D vwCl [(h0, .inr (4, [.ref q_1, .null, .null, .int 0, .int 0, .int 0])), (q_1, .inr (1, [.ref (u_2 0)])), ((u_2 0), .inl (cy 0, 63, .inl (fun _ => 0)))] H := hP
  have hD : va_D A [(h0, .inr (4, [.ref q_1, .null, .null, .int 0, .int 0, .int 0])), (q_1, .inr (1, [.ref (u_2 0)])), ((u_2 0), .inl (cy 0, 63, .inl (fun _ => 0)))] := hD
  refine lv_aload_n hx hb dX4_init_15 rfl (lv_at hl 0 rfl) ?_
  refine va_new (ci := 1) (fs := [.null]) (C := RX1) (T := TX1) (N := 1) hx hb hG inG_X1 tyX1 tyX1_ok hown (hG _ q_k_X4_9) (hG _ q_n_X1) (hG _ q_z_X1) hE.1 hP hD hS hA rfl dfX1 (Nat.le_of_ble_eq_true rfl) (Nat.le_of_ble_eq_true rfl) dX4_init_16 (fun q_3 H hP hD hS => ?_)
  have hP : va_P D vwCl [(h0, .inr (4, [.ref q_1, .null, .null, .int 0, .int 0, .int 0])), (q_1, .inr (1, [.ref (u_2 0)])), ((u_2 0), .inl (cy 0, 63, .inl (fun _ => 0))), (q_3, .inr (1, [.null]))] H := hP
  have hD : va_D A [(h0, .inr (4, [.ref q_1, .null, .null, .int 0, .int 0, .int 0])), (q_1, .inr (1, [.ref (u_2 0)])), ((u_2 0), .inl (cy 0, 63, .inl (fun _ => 0))), (q_3, .inr (1, [.null]))] := hD
  refine lv_dup hx hb dX4_init_19 rfl ?_
  refine kwIN (host := RX11) (wr := [(h0, .inr (4, [.ref q_1, .null, .null, .int 0, .int 0, .int 0])), (q_1, .inr (1, [.ref (u_2 0)])), ((u_2 0), .inl (cy 0, 63, .inl (fun _ => 0)))]) (As := []) (rest := [.ref q_3, .ref h0]) F hE hP hD hS hA hl.1 (n_Field l D cy (h0 := q_3)) mi_X1_init (by decide +kernel) ⟨(Nat.le_of_ble_eq_true rfl), (Nat.le_of_ble_eq_true rfl)⟩ [3] [0, 1, 2] (by decide) rfl rfl (by decide) (by decide) rfl rfl (Nat.le_of_ble_eq_true rfl) ⟨(Nat.le_of_ble_eq_true rfl), (Nat.le_of_ble_eq_true rfl)⟩ dX4_init_20 (fun u_4 H locs eu_4 hP hD hS => ?_)
  have hP : va_P D vwCl [(h0, .inr (4, [.ref q_1, .null, .null, .int 0, .int 0, .int 0])), (q_1, .inr (1, [.ref (u_2 0)])), ((u_2 0), .inl (cy 0, 63, .inl (fun _ => 0))), (q_3, .inr (1, [.ref (u_4 0)])), ((u_4 0), .inl (cy 0, 63, .inl (fun _ => 0)))] H := hP
  have hD : va_D A [(h0, .inr (4, [.ref q_1, .null, .null, .int 0, .int 0, .int 0])), (q_1, .inr (1, [.ref (u_2 0)])), ((u_2 0), .inl (cy 0, 63, .inl (fun _ => 0))), (q_3, .inr (1, [.ref (u_4 0)])), ((u_4 0), .inl (cy 0, 63, .inl (fun _ => 0)))] := hD
  refine va_putF (D := D) (ci := 4) (v := .ref q_3) (ty := .object "StrawButts$Field") (C := RX4) (T := TX4) (N := 6) hx hb hG inG_X4 tyX4 tyX4_ok nmX4 hown hE.1 hP hD hS 0 rfl rfl 1 (by decide) (hG _ q_f_X4_18) (fun _ h9 => h9) rfl hin rfl (by decide +kernel) rfl rfl (Nat.le_of_ble_eq_true rfl) dX4_init_23 (fun H locs hP hD hS => ?_)
  have hP : va_P D vwCl [(h0, .inr (4, [.ref q_1, .ref q_3, .null, .int 0, .int 0, .int 0])), (q_1, .inr (1, [.ref (u_2 0)])), ((u_2 0), .inl (cy 0, 63, .inl (fun _ => 0))), (q_3, .inr (1, [.ref (u_4 0)])), ((u_4 0), .inl (cy 0, 63, .inl (fun _ => 0)))] H := hP
  have hD : va_D A [(h0, .inr (4, [.ref q_1, .ref q_3, .null, .int 0, .int 0, .int 0])), (q_1, .inr (1, [.ref (u_2 0)])), ((u_2 0), .inl (cy 0, 63, .inl (fun _ => 0))), (q_3, .inr (1, [.ref (u_4 0)])), ((u_4 0), .inl (cy 0, 63, .inl (fun _ => 0)))] := hD
  refine lv_aload_n hx hb dX4_init_26 rfl (lv_at hl 0 rfl) ?_
  refine va_new (ci := 5) (fs := [.null, .null, .null, .int 0]) (C := RX5) (T := TX5) (N := 4) hx hb hG inG_X5 tyX5 tyX5_ok hown (hG _ q_k_X4_21) (hG _ q_n_X5) (hG _ q_z_X5) hE.1 hP hD hS hA rfl dfX5 (Nat.le_of_ble_eq_true rfl) (Nat.le_of_ble_eq_true rfl) dX4_init_27 (fun q_5 H hP hD hS => ?_)
  have hP : va_P D vwCl [(h0, .inr (4, [.ref q_1, .ref q_3, .null, .int 0, .int 0, .int 0])), (q_1, .inr (1, [.ref (u_2 0)])), ((u_2 0), .inl (cy 0, 63, .inl (fun _ => 0))), (q_3, .inr (1, [.ref (u_4 0)])), ((u_4 0), .inl (cy 0, 63, .inl (fun _ => 0))), (q_5, .inr (5, [.null, .null, .null, .int 0]))] H := hP
  have hD : va_D A [(h0, .inr (4, [.ref q_1, .ref q_3, .null, .int 0, .int 0, .int 0])), (q_1, .inr (1, [.ref (u_2 0)])), ((u_2 0), .inl (cy 0, 63, .inl (fun _ => 0))), (q_3, .inr (1, [.ref (u_4 0)])), ((u_4 0), .inl (cy 0, 63, .inl (fun _ => 0))), (q_5, .inr (5, [.null, .null, .null, .int 0]))] := hD
  refine lv_dup hx hb dX4_init_30 rfl ?_
  refine kwIN (host := RX11) (wr := [(h0, .inr (4, [.ref q_1, .ref q_3, .null, .int 0, .int 0, .int 0])), (q_1, .inr (1, [.ref (u_2 0)])), ((u_2 0), .inl (cy 0, 63, .inl (fun _ => 0))), (q_3, .inr (1, [.ref (u_4 0)])), ((u_4 0), .inl (cy 0, 63, .inl (fun _ => 0)))]) (As := []) (rest := [.ref q_5, .ref h0]) F hE hP hD hS hA hl.1 (n_Notes l D cy (h0 := q_5)) mi_X5_init (by decide +kernel) ⟨(Nat.le_of_ble_eq_true rfl), (Nat.le_of_ble_eq_true rfl)⟩ [5] [0, 1, 2, 3, 4] (by decide) rfl rfl (by decide) (by decide) rfl rfl (Nat.le_of_ble_eq_true rfl) ⟨(Nat.le_of_ble_eq_true rfl), (Nat.le_of_ble_eq_true rfl)⟩ dX4_init_31 (fun u_6 H locs eu_6 hP hD hS => ?_)
  have hP : va_P D vwCl [(h0, .inr (4, [.ref q_1, .ref q_3, .null, .int 0, .int 0, .int 0])), (q_1, .inr (1, [.ref (u_2 0)])), ((u_2 0), .inl (cy 0, 63, .inl (fun _ => 0))), (q_3, .inr (1, [.ref (u_4 0)])), ((u_4 0), .inl (cy 0, 63, .inl (fun _ => 0))), (q_5, .inr (5, [.ref (u_6 0), .ref (u_6 1), .ref (u_6 2), .int 0])), ((u_6 0), .inl (cy 0, 10, .inl (fun _ => 0))), ((u_6 1), .inl (cy 0, 10, .inl (fun _ => 0))), ((u_6 2), .inl (cy 0, 10, .inl (fun _ => 0)))] H := hP
  have hD : va_D A [(h0, .inr (4, [.ref q_1, .ref q_3, .null, .int 0, .int 0, .int 0])), (q_1, .inr (1, [.ref (u_2 0)])), ((u_2 0), .inl (cy 0, 63, .inl (fun _ => 0))), (q_3, .inr (1, [.ref (u_4 0)])), ((u_4 0), .inl (cy 0, 63, .inl (fun _ => 0))), (q_5, .inr (5, [.ref (u_6 0), .ref (u_6 1), .ref (u_6 2), .int 0])), ((u_6 0), .inl (cy 0, 10, .inl (fun _ => 0))), ((u_6 1), .inl (cy 0, 10, .inl (fun _ => 0))), ((u_6 2), .inl (cy 0, 10, .inl (fun _ => 0)))] := hD
  refine va_putF (D := D) (ci := 4) (v := .ref q_5) (ty := .object "StrawButts$Notes") (C := RX4) (T := TX4) (N := 6) hx hb hG inG_X4 tyX4 tyX4_ok nmX4 hown hE.1 hP hD hS 0 rfl rfl 2 (by decide) (hG _ q_f_X4_24) (fun _ h9 => h9) rfl hin rfl (by decide +kernel) rfl rfl (Nat.le_of_ble_eq_true rfl) dX4_init_34 (fun H locs hP hD hS => ?_)
  have hP : va_P D vwCl [(h0, .inr (4, [.ref q_1, .ref q_3, .ref q_5, .int 0, .int 0, .int 0])), (q_1, .inr (1, [.ref (u_2 0)])), ((u_2 0), .inl (cy 0, 63, .inl (fun _ => 0))), (q_3, .inr (1, [.ref (u_4 0)])), ((u_4 0), .inl (cy 0, 63, .inl (fun _ => 0))), (q_5, .inr (5, [.ref (u_6 0), .ref (u_6 1), .ref (u_6 2), .int 0])), ((u_6 0), .inl (cy 0, 10, .inl (fun _ => 0))), ((u_6 1), .inl (cy 0, 10, .inl (fun _ => 0))), ((u_6 2), .inl (cy 0, 10, .inl (fun _ => 0)))] H := hP
  have hD : va_D A [(h0, .inr (4, [.ref q_1, .ref q_3, .ref q_5, .int 0, .int 0, .int 0])), (q_1, .inr (1, [.ref (u_2 0)])), ((u_2 0), .inl (cy 0, 63, .inl (fun _ => 0))), (q_3, .inr (1, [.ref (u_4 0)])), ((u_4 0), .inl (cy 0, 63, .inl (fun _ => 0))), (q_5, .inr (5, [.ref (u_6 0), .ref (u_6 1), .ref (u_6 2), .int 0])), ((u_6 0), .inl (cy 0, 10, .inl (fun _ => 0))), ((u_6 1), .inl (cy 0, 10, .inl (fun _ => 0))), ((u_6 2), .inl (cy 0, 10, .inl (fun _ => 0)))] := hD
  refine lv_aload_n hx hb dX4_init_37 rfl (lv_at hl 0 rfl) ?_
  refine lv_iconst (v := (-1)) hx hb dX4_init_38 (by decide) ?_
  refine va_put (D := D) (ci := 4) (v := .int (-1)) (ty := .int) (C := RX4) (T := TX4) (N := 6) hx hb hG inG_X4 tyX4 tyX4_ok nmX4 hown hE.1 hP hD hS 0 rfl rfl 3 (by decide) (hG _ q_f_X4_28) (fun _ h9 => h9) rfl (by decide +kernel) rfl rfl (Nat.le_of_ble_eq_true rfl) dX4_init_39 (fun H locs hP hD hS => ?_)
  have hP : va_P D vwCl [(h0, .inr (4, [.ref q_1, .ref q_3, .ref q_5, .int (-1), .int 0, .int 0])), (q_1, .inr (1, [.ref (u_2 0)])), ((u_2 0), .inl (cy 0, 63, .inl (fun _ => 0))), (q_3, .inr (1, [.ref (u_4 0)])), ((u_4 0), .inl (cy 0, 63, .inl (fun _ => 0))), (q_5, .inr (5, [.ref (u_6 0), .ref (u_6 1), .ref (u_6 2), .int 0])), ((u_6 0), .inl (cy 0, 10, .inl (fun _ => 0))), ((u_6 1), .inl (cy 0, 10, .inl (fun _ => 0))), ((u_6 2), .inl (cy 0, 10, .inl (fun _ => 0)))] H := hP
  have hD : va_D A [(h0, .inr (4, [.ref q_1, .ref q_3, .ref q_5, .int (-1), .int 0, .int 0])), (q_1, .inr (1, [.ref (u_2 0)])), ((u_2 0), .inl (cy 0, 63, .inl (fun _ => 0))), (q_3, .inr (1, [.ref (u_4 0)])), ((u_4 0), .inl (cy 0, 63, .inl (fun _ => 0))), (q_5, .inr (5, [.ref (u_6 0), .ref (u_6 1), .ref (u_6 2), .int 0])), ((u_6 0), .inl (cy 0, 10, .inl (fun _ => 0))), ((u_6 1), .inl (cy 0, 10, .inl (fun _ => 0))), ((u_6 2), .inl (cy 0, 10, .inl (fun _ => 0)))] := hD
  refine lv_aload_n hx hb dX4_init_42 rfl (lv_at hl 0 rfl) ?_
  refine lv_iconst (v := 0) hx hb dX4_init_43 (by decide) ?_
  refine va_put (D := D) (ci := 4) (v := .int 0) (ty := .int) (C := RX4) (T := TX4) (N := 6) hx hb hG inG_X4 tyX4 tyX4_ok nmX4 hown hE.1 hP hD hS 0 rfl rfl 4 (by decide) (hG _ q_f_X4_32) (fun _ h9 => h9) rfl (by decide +kernel) rfl rfl (Nat.le_of_ble_eq_true rfl) dX4_init_44 (fun H locs hP hD hS => ?_)
  have hP : va_P D vwCl [(h0, .inr (4, [.ref q_1, .ref q_3, .ref q_5, .int (-1), .int 0, .int 0])), (q_1, .inr (1, [.ref (u_2 0)])), ((u_2 0), .inl (cy 0, 63, .inl (fun _ => 0))), (q_3, .inr (1, [.ref (u_4 0)])), ((u_4 0), .inl (cy 0, 63, .inl (fun _ => 0))), (q_5, .inr (5, [.ref (u_6 0), .ref (u_6 1), .ref (u_6 2), .int 0])), ((u_6 0), .inl (cy 0, 10, .inl (fun _ => 0))), ((u_6 1), .inl (cy 0, 10, .inl (fun _ => 0))), ((u_6 2), .inl (cy 0, 10, .inl (fun _ => 0)))] H := hP
  have hD : va_D A [(h0, .inr (4, [.ref q_1, .ref q_3, .ref q_5, .int (-1), .int 0, .int 0])), (q_1, .inr (1, [.ref (u_2 0)])), ((u_2 0), .inl (cy 0, 63, .inl (fun _ => 0))), (q_3, .inr (1, [.ref (u_4 0)])), ((u_4 0), .inl (cy 0, 63, .inl (fun _ => 0))), (q_5, .inr (5, [.ref (u_6 0), .ref (u_6 1), .ref (u_6 2), .int 0])), ((u_6 0), .inl (cy 0, 10, .inl (fun _ => 0))), ((u_6 1), .inl (cy 0, 10, .inl (fun _ => 0))), ((u_6 2), .inl (cy 0, 10, .inl (fun _ => 0)))] := hD
  refine lv_aload_n hx hb dX4_init_47 rfl (lv_at hl 0 rfl) ?_
  refine lv_iconst (v := 0) hx hb dX4_init_48 (by decide) ?_
  refine va_put (D := D) (ci := 4) (v := .int 0) (ty := .boolean) (C := RX4) (T := TX4) (N := 6) hx hb hG inG_X4 tyX4 tyX4_ok nmX4 hown hE.1 hP hD hS 0 rfl rfl 5 (by decide) (hG _ q_f_X4_35) (fun _ h9 => h9) rfl (by decide +kernel) rfl rfl (Nat.le_of_ble_eq_true rfl) dX4_init_49 (fun H locs hP hD hS => ?_)
  have hP : va_P D vwCl [(h0, .inr (4, [.ref q_1, .ref q_3, .ref q_5, .int (-1), .int 0, .int 0])), (q_1, .inr (1, [.ref (u_2 0)])), ((u_2 0), .inl (cy 0, 63, .inl (fun _ => 0))), (q_3, .inr (1, [.ref (u_4 0)])), ((u_4 0), .inl (cy 0, 63, .inl (fun _ => 0))), (q_5, .inr (5, [.ref (u_6 0), .ref (u_6 1), .ref (u_6 2), .int 0])), ((u_6 0), .inl (cy 0, 10, .inl (fun _ => 0))), ((u_6 1), .inl (cy 0, 10, .inl (fun _ => 0))), ((u_6 2), .inl (cy 0, 10, .inl (fun _ => 0)))] H := hP
  have hD : va_D A [(h0, .inr (4, [.ref q_1, .ref q_3, .ref q_5, .int (-1), .int 0, .int 0])), (q_1, .inr (1, [.ref (u_2 0)])), ((u_2 0), .inl (cy 0, 63, .inl (fun _ => 0))), (q_3, .inr (1, [.ref (u_4 0)])), ((u_4 0), .inl (cy 0, 63, .inl (fun _ => 0))), (q_5, .inr (5, [.ref (u_6 0), .ref (u_6 1), .ref (u_6 2), .int 0])), ((u_6 0), .inl (cy 0, 10, .inl (fun _ => 0))), ((u_6 1), .inl (cy 0, 10, .inl (fun _ => 0))), ((u_6 2), .inl (cy 0, 10, .inl (fun _ => 0)))] := hD
  exact KV.rt (fun i => ([q_1, q_3, q_5, (u_2 0), (u_4 0), (u_6 0), (u_6 1), (u_6 2)] : List Nat).getD i 0) F (hP.sub [0, 1, 2, 3, 4, 5, 6, 7, 8] rfl) (hD.sub [0, 1, 2, 3, 4, 5, 6, 7, 8] (by decide) rfl) hS trivial (Nat.le_of_ble_eq_true rfl) (Nat.le_of_ble_eq_true rfl) dX4_init_52

set_option maxHeartbeats 4000000 in
set_option maxRecDepth 100000 in
theorem n_Acts (l : Launch) (D : va_G) (cy : Nat → ClassId) (h0 : Nat) : KV l yX0_init cX0_init 1 1 12 D (kTY cy) [.ref h0] [(h0, .inr (0, [.null, .int 0, .int 0]))] (S := (Nat → Nat) × (Nat → Option Nat)) (fun u => u.2 0 = some (u.1 1) ∧ u.2 1 = some (u.1 2) ∧ u.2 2 = some (u.1 3) ∧ u.2 3 = some (u.1 4) ∧ u.2 4 = some (u.1 5) ∧ u.2 5 = some (u.1 6) ∧ u.2 6 = some (u.1 7) ∧ u.2 7 = some (u.1 8) ∧ u.2 8 = some (u.1 9) ∧ u.2 9 = some (u.1 10) ∧ u.2 10 = some (u.1 11) ∧ u.2 11 = some (u.1 12) ∧ u.2 12 = some (u.1 13) ∧ u.2 13 = some (u.1 14) ∧ u.2 14 = some (u.1 15) ∧ u.2 15 = some (u.1 16) ∧ u.2 16 = some (u.1 17) ∧ u.2 17 = some (u.1 18) ∧ u.2 18 = some (u.1 19) ∧ u.2 19 = some (u.1 20)) (fun u => [(h0, .inr (0, [.ref (u.1 0), .int 0, .int 0])), ((u.1 0), .inl (cy 6, 20, .inr (.inr (.inr (.inr (u.2)))))), ((u.1 1), .inl (cy 0, 63, .inl (fun _ => 0))), ((u.1 2), .inl (cy 0, 63, .inl (fun _ => 0))), ((u.1 3), .inl (cy 0, 63, .inl (fun _ => 0))), ((u.1 4), .inl (cy 0, 63, .inl (fun _ => 0))), ((u.1 5), .inl (cy 0, 63, .inl (fun _ => 0))), ((u.1 6), .inl (cy 0, 63, .inl (fun _ => 0))), ((u.1 7), .inl (cy 0, 63, .inl (fun _ => 0))), ((u.1 8), .inl (cy 0, 63, .inl (fun _ => 0))), ((u.1 9), .inl (cy 0, 63, .inl (fun _ => 0))), ((u.1 10), .inl (cy 0, 63, .inl (fun _ => 0))), ((u.1 11), .inl (cy 0, 63, .inl (fun _ => 0))), ((u.1 12), .inl (cy 0, 63, .inl (fun _ => 0))), ((u.1 13), .inl (cy 0, 63, .inl (fun _ => 0))), ((u.1 14), .inl (cy 0, 63, .inl (fun _ => 0))), ((u.1 15), .inl (cy 0, 63, .inl (fun _ => 0))), ((u.1 16), .inl (cy 0, 63, .inl (fun _ => 0))), ((u.1 17), .inl (cy 0, 63, .inl (fun _ => 0))), ((u.1 18), .inl (cy 0, 63, .inl (fun _ => 0))), ((u.1 19), .inl (cy 0, 63, .inl (fun _ => 0))), ((u.1 20), .inl (cy 0, 63, .inl (fun _ => 0)))]) 21 1280 := by
  refine KV.of (by decide) (Nat.le_of_ble_eq_true rfl) (fun p e s m below meth c ls A F hin hE hP hD hA hS hl => ?_)
  have F : kF p s m meth c cX0_init 1 none _ RX0 := F
  obtain ⟨hx, hb, hr, hml, hown, hG, hlk⟩ := id F
  have hl : lv_has ls 1 [(0, .ref h0)] := hl
  refine lv_aload_n hx hb dX0_init_0 rfl (lv_at hl 0 rfl) ?_
  refine W.objInit hx hb hown (hG _ q_m_X0_1) (hG _ q_i_objectInit) (hG _ q_c_objectInit) rfl (by rw [hml]; exact hl.1) rfl dX0_init_1 (Nat.le_of_ble_eq_true rfl) (Nat.le_of_ble_eq_true rfl) ?_
  refine W.eq (g2 := F0 m 4 ls []) rfl ?_
  refine lv_aload_n hx hb dX0_init_4 rfl (lv_at hl 0 rfl) ?_
  refine lv_bipush (v := 20) hx hb dX0_init_5 (by decide) ?_
  refine lv_bipush (v := 63) hx hb dX0_init_7 (by decide) ?_
  refine k_mnaK (N' := 20) (K' := 63) hx hb hown (hG _ q_k_X0_11) (hG _ q_a_int) hE hP hD hS hA (by decide) (by decide) rfl rfl (Nat.le_of_ble_eq_true rfl) (Nat.le_of_ble_eq_true rfl) (Nat.le_of_ble_eq_true rfl) (Nat.le_of_ble_eq_true rfl) (Nat.le_of_ble_eq_true rfl) dX0_init_9 (fun q_1 rw_2 H hP hD hS => ?_)
  have hP : va_P D vwCl [(h0, .inr (0, [.null, .int 0, .int 0])), (q_1, .inl (cy 6, 20, .inr (.inr (.inr (.inr (fun i => if i < 20 then some (rw_2 i) else none)))))), ((rw_2 0), .inl (cy 0, 63, .inl (fun _ => 0))), ((rw_2 1), .inl (cy 0, 63, .inl (fun _ => 0))), ((rw_2 2), .inl (cy 0, 63, .inl (fun _ => 0))), ((rw_2 3), .inl (cy 0, 63, .inl (fun _ => 0))), ((rw_2 4), .inl (cy 0, 63, .inl (fun _ => 0))), ((rw_2 5), .inl (cy 0, 63, .inl (fun _ => 0))), ((rw_2 6), .inl (cy 0, 63, .inl (fun _ => 0))), ((rw_2 7), .inl (cy 0, 63, .inl (fun _ => 0))), ((rw_2 8), .inl (cy 0, 63, .inl (fun _ => 0))), ((rw_2 9), .inl (cy 0, 63, .inl (fun _ => 0))), ((rw_2 10), .inl (cy 0, 63, .inl (fun _ => 0))), ((rw_2 11), .inl (cy 0, 63, .inl (fun _ => 0))), ((rw_2 12), .inl (cy 0, 63, .inl (fun _ => 0))), ((rw_2 13), .inl (cy 0, 63, .inl (fun _ => 0))), ((rw_2 14), .inl (cy 0, 63, .inl (fun _ => 0))), ((rw_2 15), .inl (cy 0, 63, .inl (fun _ => 0))), ((rw_2 16), .inl (cy 0, 63, .inl (fun _ => 0))), ((rw_2 17), .inl (cy 0, 63, .inl (fun _ => 0))), ((rw_2 18), .inl (cy 0, 63, .inl (fun _ => 0))), ((rw_2 19), .inl (cy 0, 63, .inl (fun _ => 0)))] H := hP
  have hD : va_D A [(h0, .inr (0, [.null, .int 0, .int 0])), (q_1, .inl (cy 6, 20, .inr (.inr (.inr (.inr (fun i => if i < 20 then some (rw_2 i) else none)))))), ((rw_2 0), .inl (cy 0, 63, .inl (fun _ => 0))), ((rw_2 1), .inl (cy 0, 63, .inl (fun _ => 0))), ((rw_2 2), .inl (cy 0, 63, .inl (fun _ => 0))), ((rw_2 3), .inl (cy 0, 63, .inl (fun _ => 0))), ((rw_2 4), .inl (cy 0, 63, .inl (fun _ => 0))), ((rw_2 5), .inl (cy 0, 63, .inl (fun _ => 0))), ((rw_2 6), .inl (cy 0, 63, .inl (fun _ => 0))), ((rw_2 7), .inl (cy 0, 63, .inl (fun _ => 0))), ((rw_2 8), .inl (cy 0, 63, .inl (fun _ => 0))), ((rw_2 9), .inl (cy 0, 63, .inl (fun _ => 0))), ((rw_2 10), .inl (cy 0, 63, .inl (fun _ => 0))), ((rw_2 11), .inl (cy 0, 63, .inl (fun _ => 0))), ((rw_2 12), .inl (cy 0, 63, .inl (fun _ => 0))), ((rw_2 13), .inl (cy 0, 63, .inl (fun _ => 0))), ((rw_2 14), .inl (cy 0, 63, .inl (fun _ => 0))), ((rw_2 15), .inl (cy 0, 63, .inl (fun _ => 0))), ((rw_2 16), .inl (cy 0, 63, .inl (fun _ => 0))), ((rw_2 17), .inl (cy 0, 63, .inl (fun _ => 0))), ((rw_2 18), .inl (cy 0, 63, .inl (fun _ => 0))), ((rw_2 19), .inl (cy 0, 63, .inl (fun _ => 0)))] := hD
  refine va_putF (D := D) (ci := 0) (v := .ref q_1) (ty := .array (.array .int)) (C := RX0) (T := TX0) (N := 3) hx hb hG inG_X0 tyX0 tyX0_ok nmX0 hown hE.1 hP hD hS 0 rfl rfl 0 (by decide) (hG _ q_f_X0_13) (fun _ h9 => h9) rfl hin rfl (by decide +kernel) rfl rfl (Nat.le_of_ble_eq_true rfl) dX0_init_13 (fun H locs hP hD hS => ?_)
  have hP : va_P D vwCl [(h0, .inr (0, [.ref q_1, .int 0, .int 0])), (q_1, .inl (cy 6, 20, .inr (.inr (.inr (.inr (fun i => if i < 20 then some (rw_2 i) else none)))))), ((rw_2 0), .inl (cy 0, 63, .inl (fun _ => 0))), ((rw_2 1), .inl (cy 0, 63, .inl (fun _ => 0))), ((rw_2 2), .inl (cy 0, 63, .inl (fun _ => 0))), ((rw_2 3), .inl (cy 0, 63, .inl (fun _ => 0))), ((rw_2 4), .inl (cy 0, 63, .inl (fun _ => 0))), ((rw_2 5), .inl (cy 0, 63, .inl (fun _ => 0))), ((rw_2 6), .inl (cy 0, 63, .inl (fun _ => 0))), ((rw_2 7), .inl (cy 0, 63, .inl (fun _ => 0))), ((rw_2 8), .inl (cy 0, 63, .inl (fun _ => 0))), ((rw_2 9), .inl (cy 0, 63, .inl (fun _ => 0))), ((rw_2 10), .inl (cy 0, 63, .inl (fun _ => 0))), ((rw_2 11), .inl (cy 0, 63, .inl (fun _ => 0))), ((rw_2 12), .inl (cy 0, 63, .inl (fun _ => 0))), ((rw_2 13), .inl (cy 0, 63, .inl (fun _ => 0))), ((rw_2 14), .inl (cy 0, 63, .inl (fun _ => 0))), ((rw_2 15), .inl (cy 0, 63, .inl (fun _ => 0))), ((rw_2 16), .inl (cy 0, 63, .inl (fun _ => 0))), ((rw_2 17), .inl (cy 0, 63, .inl (fun _ => 0))), ((rw_2 18), .inl (cy 0, 63, .inl (fun _ => 0))), ((rw_2 19), .inl (cy 0, 63, .inl (fun _ => 0)))] H := hP
  have hD : va_D A [(h0, .inr (0, [.ref q_1, .int 0, .int 0])), (q_1, .inl (cy 6, 20, .inr (.inr (.inr (.inr (fun i => if i < 20 then some (rw_2 i) else none)))))), ((rw_2 0), .inl (cy 0, 63, .inl (fun _ => 0))), ((rw_2 1), .inl (cy 0, 63, .inl (fun _ => 0))), ((rw_2 2), .inl (cy 0, 63, .inl (fun _ => 0))), ((rw_2 3), .inl (cy 0, 63, .inl (fun _ => 0))), ((rw_2 4), .inl (cy 0, 63, .inl (fun _ => 0))), ((rw_2 5), .inl (cy 0, 63, .inl (fun _ => 0))), ((rw_2 6), .inl (cy 0, 63, .inl (fun _ => 0))), ((rw_2 7), .inl (cy 0, 63, .inl (fun _ => 0))), ((rw_2 8), .inl (cy 0, 63, .inl (fun _ => 0))), ((rw_2 9), .inl (cy 0, 63, .inl (fun _ => 0))), ((rw_2 10), .inl (cy 0, 63, .inl (fun _ => 0))), ((rw_2 11), .inl (cy 0, 63, .inl (fun _ => 0))), ((rw_2 12), .inl (cy 0, 63, .inl (fun _ => 0))), ((rw_2 13), .inl (cy 0, 63, .inl (fun _ => 0))), ((rw_2 14), .inl (cy 0, 63, .inl (fun _ => 0))), ((rw_2 15), .inl (cy 0, 63, .inl (fun _ => 0))), ((rw_2 16), .inl (cy 0, 63, .inl (fun _ => 0))), ((rw_2 17), .inl (cy 0, 63, .inl (fun _ => 0))), ((rw_2 18), .inl (cy 0, 63, .inl (fun _ => 0))), ((rw_2 19), .inl (cy 0, 63, .inl (fun _ => 0)))] := hD
  refine lv_aload_n hx hb dX0_init_16 rfl (lv_at hl 0 rfl) ?_
  refine lv_iconst (v := 0) hx hb dX0_init_17 (by decide) ?_
  refine va_put (D := D) (ci := 0) (v := .int 0) (ty := .int) (C := RX0) (T := TX0) (N := 3) hx hb hG inG_X0 tyX0 tyX0_ok nmX0 hown hE.1 hP hD hS 0 rfl rfl 1 (by decide) (hG _ q_f_X0_16) (fun _ h9 => h9) rfl (by decide +kernel) rfl rfl (Nat.le_of_ble_eq_true rfl) dX0_init_18 (fun H locs hP hD hS => ?_)
  have hP : va_P D vwCl [(h0, .inr (0, [.ref q_1, .int 0, .int 0])), (q_1, .inl (cy 6, 20, .inr (.inr (.inr (.inr (fun i => if i < 20 then some (rw_2 i) else none)))))), ((rw_2 0), .inl (cy 0, 63, .inl (fun _ => 0))), ((rw_2 1), .inl (cy 0, 63, .inl (fun _ => 0))), ((rw_2 2), .inl (cy 0, 63, .inl (fun _ => 0))), ((rw_2 3), .inl (cy 0, 63, .inl (fun _ => 0))), ((rw_2 4), .inl (cy 0, 63, .inl (fun _ => 0))), ((rw_2 5), .inl (cy 0, 63, .inl (fun _ => 0))), ((rw_2 6), .inl (cy 0, 63, .inl (fun _ => 0))), ((rw_2 7), .inl (cy 0, 63, .inl (fun _ => 0))), ((rw_2 8), .inl (cy 0, 63, .inl (fun _ => 0))), ((rw_2 9), .inl (cy 0, 63, .inl (fun _ => 0))), ((rw_2 10), .inl (cy 0, 63, .inl (fun _ => 0))), ((rw_2 11), .inl (cy 0, 63, .inl (fun _ => 0))), ((rw_2 12), .inl (cy 0, 63, .inl (fun _ => 0))), ((rw_2 13), .inl (cy 0, 63, .inl (fun _ => 0))), ((rw_2 14), .inl (cy 0, 63, .inl (fun _ => 0))), ((rw_2 15), .inl (cy 0, 63, .inl (fun _ => 0))), ((rw_2 16), .inl (cy 0, 63, .inl (fun _ => 0))), ((rw_2 17), .inl (cy 0, 63, .inl (fun _ => 0))), ((rw_2 18), .inl (cy 0, 63, .inl (fun _ => 0))), ((rw_2 19), .inl (cy 0, 63, .inl (fun _ => 0)))] H := hP
  have hD : va_D A [(h0, .inr (0, [.ref q_1, .int 0, .int 0])), (q_1, .inl (cy 6, 20, .inr (.inr (.inr (.inr (fun i => if i < 20 then some (rw_2 i) else none)))))), ((rw_2 0), .inl (cy 0, 63, .inl (fun _ => 0))), ((rw_2 1), .inl (cy 0, 63, .inl (fun _ => 0))), ((rw_2 2), .inl (cy 0, 63, .inl (fun _ => 0))), ((rw_2 3), .inl (cy 0, 63, .inl (fun _ => 0))), ((rw_2 4), .inl (cy 0, 63, .inl (fun _ => 0))), ((rw_2 5), .inl (cy 0, 63, .inl (fun _ => 0))), ((rw_2 6), .inl (cy 0, 63, .inl (fun _ => 0))), ((rw_2 7), .inl (cy 0, 63, .inl (fun _ => 0))), ((rw_2 8), .inl (cy 0, 63, .inl (fun _ => 0))), ((rw_2 9), .inl (cy 0, 63, .inl (fun _ => 0))), ((rw_2 10), .inl (cy 0, 63, .inl (fun _ => 0))), ((rw_2 11), .inl (cy 0, 63, .inl (fun _ => 0))), ((rw_2 12), .inl (cy 0, 63, .inl (fun _ => 0))), ((rw_2 13), .inl (cy 0, 63, .inl (fun _ => 0))), ((rw_2 14), .inl (cy 0, 63, .inl (fun _ => 0))), ((rw_2 15), .inl (cy 0, 63, .inl (fun _ => 0))), ((rw_2 16), .inl (cy 0, 63, .inl (fun _ => 0))), ((rw_2 17), .inl (cy 0, 63, .inl (fun _ => 0))), ((rw_2 18), .inl (cy 0, 63, .inl (fun _ => 0))), ((rw_2 19), .inl (cy 0, 63, .inl (fun _ => 0)))] := hD
  refine lv_aload_n hx hb dX0_init_21 rfl (lv_at hl 0 rfl) ?_
  refine lv_iconst (v := 0) hx hb dX0_init_22 (by decide) ?_
  refine va_put (D := D) (ci := 0) (v := .int 0) (ty := .int) (C := RX0) (T := TX0) (N := 3) hx hb hG inG_X0 tyX0 tyX0_ok nmX0 hown hE.1 hP hD hS 0 rfl rfl 2 (by decide) (hG _ q_f_X0_20) (fun _ h9 => h9) rfl (by decide +kernel) rfl rfl (Nat.le_of_ble_eq_true rfl) dX0_init_23 (fun H locs hP hD hS => ?_)
  have hP : va_P D vwCl [(h0, .inr (0, [.ref q_1, .int 0, .int 0])), (q_1, .inl (cy 6, 20, .inr (.inr (.inr (.inr (fun i => if i < 20 then some (rw_2 i) else none)))))), ((rw_2 0), .inl (cy 0, 63, .inl (fun _ => 0))), ((rw_2 1), .inl (cy 0, 63, .inl (fun _ => 0))), ((rw_2 2), .inl (cy 0, 63, .inl (fun _ => 0))), ((rw_2 3), .inl (cy 0, 63, .inl (fun _ => 0))), ((rw_2 4), .inl (cy 0, 63, .inl (fun _ => 0))), ((rw_2 5), .inl (cy 0, 63, .inl (fun _ => 0))), ((rw_2 6), .inl (cy 0, 63, .inl (fun _ => 0))), ((rw_2 7), .inl (cy 0, 63, .inl (fun _ => 0))), ((rw_2 8), .inl (cy 0, 63, .inl (fun _ => 0))), ((rw_2 9), .inl (cy 0, 63, .inl (fun _ => 0))), ((rw_2 10), .inl (cy 0, 63, .inl (fun _ => 0))), ((rw_2 11), .inl (cy 0, 63, .inl (fun _ => 0))), ((rw_2 12), .inl (cy 0, 63, .inl (fun _ => 0))), ((rw_2 13), .inl (cy 0, 63, .inl (fun _ => 0))), ((rw_2 14), .inl (cy 0, 63, .inl (fun _ => 0))), ((rw_2 15), .inl (cy 0, 63, .inl (fun _ => 0))), ((rw_2 16), .inl (cy 0, 63, .inl (fun _ => 0))), ((rw_2 17), .inl (cy 0, 63, .inl (fun _ => 0))), ((rw_2 18), .inl (cy 0, 63, .inl (fun _ => 0))), ((rw_2 19), .inl (cy 0, 63, .inl (fun _ => 0)))] H := hP
  have hD : va_D A [(h0, .inr (0, [.ref q_1, .int 0, .int 0])), (q_1, .inl (cy 6, 20, .inr (.inr (.inr (.inr (fun i => if i < 20 then some (rw_2 i) else none)))))), ((rw_2 0), .inl (cy 0, 63, .inl (fun _ => 0))), ((rw_2 1), .inl (cy 0, 63, .inl (fun _ => 0))), ((rw_2 2), .inl (cy 0, 63, .inl (fun _ => 0))), ((rw_2 3), .inl (cy 0, 63, .inl (fun _ => 0))), ((rw_2 4), .inl (cy 0, 63, .inl (fun _ => 0))), ((rw_2 5), .inl (cy 0, 63, .inl (fun _ => 0))), ((rw_2 6), .inl (cy 0, 63, .inl (fun _ => 0))), ((rw_2 7), .inl (cy 0, 63, .inl (fun _ => 0))), ((rw_2 8), .inl (cy 0, 63, .inl (fun _ => 0))), ((rw_2 9), .inl (cy 0, 63, .inl (fun _ => 0))), ((rw_2 10), .inl (cy 0, 63, .inl (fun _ => 0))), ((rw_2 11), .inl (cy 0, 63, .inl (fun _ => 0))), ((rw_2 12), .inl (cy 0, 63, .inl (fun _ => 0))), ((rw_2 13), .inl (cy 0, 63, .inl (fun _ => 0))), ((rw_2 14), .inl (cy 0, 63, .inl (fun _ => 0))), ((rw_2 15), .inl (cy 0, 63, .inl (fun _ => 0))), ((rw_2 16), .inl (cy 0, 63, .inl (fun _ => 0))), ((rw_2 17), .inl (cy 0, 63, .inl (fun _ => 0))), ((rw_2 18), .inl (cy 0, 63, .inl (fun _ => 0))), ((rw_2 19), .inl (cy 0, 63, .inl (fun _ => 0)))] := hD
  exact KV.rt ⟨(fun i => ([q_1, (rw_2 0), (rw_2 1), (rw_2 2), (rw_2 3), (rw_2 4), (rw_2 5), (rw_2 6), (rw_2 7), (rw_2 8), (rw_2 9), (rw_2 10), (rw_2 11), (rw_2 12), (rw_2 13), (rw_2 14), (rw_2 15), (rw_2 16), (rw_2 17), (rw_2 18), (rw_2 19)] : List Nat).getD i 0), (fun i => if i < 20 then some (rw_2 i) else none)⟩ F (hP.sub [0, 1, 2, 3, 4, 5, 6, 7, 8, 9, 10, 11, 12, 13, 14, 15, 16, 17, 18, 19, 20, 21] rfl) (hD.sub [0, 1, 2, 3, 4, 5, 6, 7, 8, 9, 10, 11, 12, 13, 14, 15, 16, 17, 18, 19, 20, 21] (by decide) rfl) hS ⟨rfl, rfl, rfl, rfl, rfl, rfl, rfl, rfl, rfl, rfl, rfl, rfl, rfl, rfl, rfl, rfl, rfl, rfl, rfl, rfl⟩ (Nat.le_of_ble_eq_true rfl) (Nat.le_of_ble_eq_true rfl) dX0_init_26

set_option maxHeartbeats 4000000 in
set_option maxRecDepth 100000 in
theorem n_Play (l : Launch) (D : va_G) (cy : Nat → ClassId) (h0 : Nat) : KV l yX6_init cX6_init 1 2 32 D (kTY cy) [.ref h0] [(h0, .inr (6, [.null, .null, .null, .int 0, .int 0, .null, .null, .null]))] (S := Nat → Nat) (fun _ => True) (fun u => [(h0, .inr (6, [.ref (u 0), .ref (u 1), .ref (u 2), .int (-1), .int 0, .null, .ref (u 3), .ref (u 4)])), ((u 0), .inr (1, [.ref (u 5)])), ((u 5), .inl (cy 0, 63, .inl (fun _ => 0))), ((u 1), .inl (cy 0, 5, .inl (fun _ => 0))), ((u 2), .inl (cy 0, 5, .inl (fun _ => 0))), ((u 3), .inl (cy 1, 13, .inr (.inl (fun _ => 0)))), ((u 4), .inl (cy 1, 64, .inr (.inl (fun _ => 0))))]) 6 151 := by
  refine KV.of (by decide) (Nat.le_of_ble_eq_true rfl) (fun p e s m below meth c ls A F hin hE hP hD hA hS hl => ?_)
  have F : kF p s m meth c cX6_init 1 none _ RX6 := F
  obtain ⟨hx, hb, hr, hml, hown, hG, hlk⟩ := id F
  have hl : lv_has ls 1 [(0, .ref h0)] := hl
  refine lv_aload_n hx hb dX6_init_0 rfl (lv_at hl 0 rfl) ?_
  refine W.objInit hx hb hown (hG _ q_m_X6_3) (hG _ q_i_objectInit) (hG _ q_c_objectInit) rfl (by rw [hml]; exact hl.1) rfl dX6_init_1 (Nat.le_of_ble_eq_true rfl) (Nat.le_of_ble_eq_true rfl) ?_
  refine W.eq (g2 := F0 m 4 ls []) rfl ?_
  refine lv_aload_n hx hb dX6_init_4 rfl (lv_at hl 0 rfl) ?_
  refine va_new (ci := 1) (fs := [.null]) (C := RX1) (T := TX1) (N := 1) hx hb hG inG_X1 tyX1 tyX1_ok hown (hG _ q_k_X6_9) (hG _ q_n_X1) (hG _ q_z_X1) hE.1 hP hD hS hA rfl dfX1 (Nat.le_of_ble_eq_true rfl) (Nat.le_of_ble_eq_true rfl) dX6_init_5 (fun q_1 H hP hD hS => ?_)
  have hP : va_P D vwCl [(h0, .inr (6, [.null, .null, .null, .int 0, .int 0, .null, .null, .null])), (q_1, .inr (1, [.null]))] H := hP
  have hD : va_D A [(h0, .inr (6, [.null, .null, .null, .int 0, .int 0, .null, .null, .null])), (q_1, .inr (1, [.null]))] := hD
  refine lv_dup hx hb dX6_init_8 rfl ?_
  refine kwIN (host := RX11) (wr := [(h0, .inr (6, [.null, .null, .null, .int 0, .int 0, .null, .null, .null]))]) (As := []) (rest := [.ref q_1, .ref h0]) F hE hP hD hS hA hl.1 (n_Field l D cy (h0 := q_1)) mi_X1_init (by decide +kernel) ⟨(Nat.le_of_ble_eq_true rfl), (Nat.le_of_ble_eq_true rfl)⟩ [1] [0] (by decide) rfl rfl (by decide) (by decide) rfl rfl (Nat.le_of_ble_eq_true rfl) ⟨(Nat.le_of_ble_eq_true rfl), (Nat.le_of_ble_eq_true rfl)⟩ dX6_init_9 (fun u_2 H locs eu_2 hP hD hS => ?_)
  have hP : va_P D vwCl [(h0, .inr (6, [.null, .null, .null, .int 0, .int 0, .null, .null, .null])), (q_1, .inr (1, [.ref (u_2 0)])), ((u_2 0), .inl (cy 0, 63, .inl (fun _ => 0)))] H := hP
  have hD : va_D A [(h0, .inr (6, [.null, .null, .null, .int 0, .int 0, .null, .null, .null])), (q_1, .inr (1, [.ref (u_2 0)])), ((u_2 0), .inl (cy 0, 63, .inl (fun _ => 0)))] := hD
  refine va_putF (D := D) (ci := 6) (v := .ref q_1) (ty := .object "StrawButts$Field") (C := RX6) (T := TX6) (N := 8) hx hb hG inG_X6 tyX6 tyX6_ok nmX6 hown hE.1 hP hD hS 0 rfl rfl 0 (by decide) (hG _ q_f_X6_12) (fun _ h9 => h9) rfl hin rfl (by decide +kernel) rfl rfl (Nat.le_of_ble_eq_true rfl) dX6_init_12 (fun H locs hP hD hS => ?_)
  have hP : va_P D vwCl [(h0, .inr (6, [.ref q_1, .null, .null, .int 0, .int 0, .null, .null, .null])), (q_1, .inr (1, [.ref (u_2 0)])), ((u_2 0), .inl (cy 0, 63, .inl (fun _ => 0)))] H := hP
  have hD : va_D A [(h0, .inr (6, [.ref q_1, .null, .null, .int 0, .int 0, .null, .null, .null])), (q_1, .inr (1, [.ref (u_2 0)])), ((u_2 0), .inl (cy 0, 63, .inl (fun _ => 0)))] := hD
  refine lv_aload_n hx hb dX6_init_15 rfl (lv_at hl 0 rfl) ?_
  refine lv_iconst (v := 5) hx hb dX6_init_16 (by decide) ?_
  refine k_newa (atype := .int) (ty := .int) (cA := cy 0) (t0 := 0) (a0 := (5, .inl (fun _ => 0))) (N' := 5) hx hb (hG _ q_a_int) rfl (fun _ h => h) hE hP hD hS hA rfl (fun _ => rfl) (by decide) rfl (Nat.le_of_ble_eq_true rfl) (Nat.le_of_ble_eq_true rfl) (Nat.le_of_ble_eq_true rfl) dX6_init_17 (fun q_3 H hP hD hS => ?_)
  have hP : va_P D vwCl [(h0, .inr (6, [.ref q_1, .null, .null, .int 0, .int 0, .null, .null, .null])), (q_1, .inr (1, [.ref (u_2 0)])), ((u_2 0), .inl (cy 0, 63, .inl (fun _ => 0))), (q_3, .inl (cy 0, 5, .inl (fun _ => 0)))] H := hP
  have hD : va_D A [(h0, .inr (6, [.ref q_1, .null, .null, .int 0, .int 0, .null, .null, .null])), (q_1, .inr (1, [.ref (u_2 0)])), ((u_2 0), .inl (cy 0, 63, .inl (fun _ => 0))), (q_3, .inl (cy 0, 5, .inl (fun _ => 0)))] := hD
  refine va_putF (D := D) (ci := 6) (v := .ref q_3) (ty := .array .int) (C := RX6) (T := TX6) (N := 8) hx hb hG inG_X6 tyX6 tyX6_ok nmX6 hown hE.1 hP hD hS 0 rfl rfl 1 (by decide) (hG _ q_f_X6_18) (fun _ h9 => h9) rfl hin rfl (by decide +kernel) rfl rfl (Nat.le_of_ble_eq_true rfl) dX6_init_19 (fun H locs hP hD hS => ?_)
  have hP : va_P D vwCl [(h0, .inr (6, [.ref q_1, .ref q_3, .null, .int 0, .int 0, .null, .null, .null])), (q_1, .inr (1, [.ref (u_2 0)])), ((u_2 0), .inl (cy 0, 63, .inl (fun _ => 0))), (q_3, .inl (cy 0, 5, .inl (fun _ => 0)))] H := hP
  have hD : va_D A [(h0, .inr (6, [.ref q_1, .ref q_3, .null, .int 0, .int 0, .null, .null, .null])), (q_1, .inr (1, [.ref (u_2 0)])), ((u_2 0), .inl (cy 0, 63, .inl (fun _ => 0))), (q_3, .inl (cy 0, 5, .inl (fun _ => 0)))] := hD
  refine lv_aload_n hx hb dX6_init_22 rfl (lv_at hl 0 rfl) ?_
  refine lv_iconst (v := 5) hx hb dX6_init_23 (by decide) ?_
  refine k_newa (atype := .int) (ty := .int) (cA := cy 0) (t0 := 0) (a0 := (5, .inl (fun _ => 0))) (N' := 5) hx hb (hG _ q_a_int) rfl (fun _ h => h) hE hP hD hS hA rfl (fun _ => rfl) (by decide) rfl (Nat.le_of_ble_eq_true rfl) (Nat.le_of_ble_eq_true rfl) (Nat.le_of_ble_eq_true rfl) dX6_init_24 (fun q_4 H hP hD hS => ?_)
  have hP : va_P D vwCl [(h0, .inr (6, [.ref q_1, .ref q_3, .null, .int 0, .int 0, .null, .null, .null])), (q_1, .inr (1, [.ref (u_2 0)])), ((u_2 0), .inl (cy 0, 63, .inl (fun _ => 0))), (q_3, .inl (cy 0, 5, .inl (fun _ => 0))), (q_4, .inl (cy 0, 5, .inl (fun _ => 0)))] H := hP
  have hD : va_D A [(h0, .inr (6, [.ref q_1, .ref q_3, .null, .int 0, .int 0, .null, .null, .null])), (q_1, .inr (1, [.ref (u_2 0)])), ((u_2 0), .inl (cy 0, 63, .inl (fun _ => 0))), (q_3, .inl (cy 0, 5, .inl (fun _ => 0))), (q_4, .inl (cy 0, 5, .inl (fun _ => 0)))] := hD
  refine va_putF (D := D) (ci := 6) (v := .ref q_4) (ty := .array .int) (C := RX6) (T := TX6) (N := 8) hx hb hG inG_X6 tyX6 tyX6_ok nmX6 hown hE.1 hP hD hS 0 rfl rfl 2 (by decide) (hG _ q_f_X6_22) (fun _ h9 => h9) rfl hin rfl (by decide +kernel) rfl rfl (Nat.le_of_ble_eq_true rfl) dX6_init_26 (fun H locs hP hD hS => ?_)
  have hP : va_P D vwCl [(h0, .inr (6, [.ref q_1, .ref q_3, .ref q_4, .int 0, .int 0, .null, .null, .null])), (q_1, .inr (1, [.ref (u_2 0)])), ((u_2 0), .inl (cy 0, 63, .inl (fun _ => 0))), (q_3, .inl (cy 0, 5, .inl (fun _ => 0))), (q_4, .inl (cy 0, 5, .inl (fun _ => 0)))] H := hP
  have hD : va_D A [(h0, .inr (6, [.ref q_1, .ref q_3, .ref q_4, .int 0, .int 0, .null, .null, .null])), (q_1, .inr (1, [.ref (u_2 0)])), ((u_2 0), .inl (cy 0, 63, .inl (fun _ => 0))), (q_3, .inl (cy 0, 5, .inl (fun _ => 0))), (q_4, .inl (cy 0, 5, .inl (fun _ => 0)))] := hD
  refine lv_aload_n hx hb dX6_init_29 rfl (lv_at hl 0 rfl) ?_
  refine lv_iconst (v := (-1)) hx hb dX6_init_30 (by decide) ?_
  refine va_put (D := D) (ci := 6) (v := .int (-1)) (ty := .int) (C := RX6) (T := TX6) (N := 8) hx hb hG inG_X6 tyX6 tyX6_ok nmX6 hown hE.1 hP hD hS 0 rfl rfl 3 (by decide) (hG _ q_f_X6_25) (fun _ h9 => h9) rfl (by decide +kernel) rfl rfl (Nat.le_of_ble_eq_true rfl) dX6_init_31 (fun H locs hP hD hS => ?_)
  have hP : va_P D vwCl [(h0, .inr (6, [.ref q_1, .ref q_3, .ref q_4, .int (-1), .int 0, .null, .null, .null])), (q_1, .inr (1, [.ref (u_2 0)])), ((u_2 0), .inl (cy 0, 63, .inl (fun _ => 0))), (q_3, .inl (cy 0, 5, .inl (fun _ => 0))), (q_4, .inl (cy 0, 5, .inl (fun _ => 0)))] H := hP
  have hD : va_D A [(h0, .inr (6, [.ref q_1, .ref q_3, .ref q_4, .int (-1), .int 0, .null, .null, .null])), (q_1, .inr (1, [.ref (u_2 0)])), ((u_2 0), .inl (cy 0, 63, .inl (fun _ => 0))), (q_3, .inl (cy 0, 5, .inl (fun _ => 0))), (q_4, .inl (cy 0, 5, .inl (fun _ => 0)))] := hD
  refine lv_aload_n hx hb dX6_init_34 rfl (lv_at hl 0 rfl) ?_
  refine lv_iconst (v := 0) hx hb dX6_init_35 (by decide) ?_
  refine va_put (D := D) (ci := 6) (v := .int 0) (ty := .boolean) (C := RX6) (T := TX6) (N := 8) hx hb hG inG_X6 tyX6 tyX6_ok nmX6 hown hE.1 hP hD hS 0 rfl rfl 4 (by decide) (hG _ q_f_X6_29) (fun _ h9 => h9) rfl (by decide +kernel) rfl rfl (Nat.le_of_ble_eq_true rfl) dX6_init_36 (fun H locs hP hD hS => ?_)
  have hP : va_P D vwCl [(h0, .inr (6, [.ref q_1, .ref q_3, .ref q_4, .int (-1), .int 0, .null, .null, .null])), (q_1, .inr (1, [.ref (u_2 0)])), ((u_2 0), .inl (cy 0, 63, .inl (fun _ => 0))), (q_3, .inl (cy 0, 5, .inl (fun _ => 0))), (q_4, .inl (cy 0, 5, .inl (fun _ => 0)))] H := hP
  have hD : va_D A [(h0, .inr (6, [.ref q_1, .ref q_3, .ref q_4, .int (-1), .int 0, .null, .null, .null])), (q_1, .inr (1, [.ref (u_2 0)])), ((u_2 0), .inl (cy 0, 63, .inl (fun _ => 0))), (q_3, .inl (cy 0, 5, .inl (fun _ => 0))), (q_4, .inl (cy 0, 5, .inl (fun _ => 0)))] := hD
  refine lv_aload_n hx hb dX6_init_39 rfl (lv_at hl 0 rfl) ?_
  refine lv_null hx hb dX6_init_40 ?_
  refine va_put (D := D) (ci := 6) (v := .null) (ty := .object "StrawButts$Rule") (C := RX6) (T := TX6) (N := 8) hx hb hG inG_X6 tyX6 tyX6_ok nmX6 hown hE.1 hP hD hS 0 rfl rfl 5 (by decide) (hG _ q_f_X6_33) (fun _ h9 => h9) rfl (by decide +kernel) rfl rfl (Nat.le_of_ble_eq_true rfl) dX6_init_41 (fun H locs hP hD hS => ?_)
  have hP : va_P D vwCl [(h0, .inr (6, [.ref q_1, .ref q_3, .ref q_4, .int (-1), .int 0, .null, .null, .null])), (q_1, .inr (1, [.ref (u_2 0)])), ((u_2 0), .inl (cy 0, 63, .inl (fun _ => 0))), (q_3, .inl (cy 0, 5, .inl (fun _ => 0))), (q_4, .inl (cy 0, 5, .inl (fun _ => 0)))] H := hP
  have hD : va_D A [(h0, .inr (6, [.ref q_1, .ref q_3, .ref q_4, .int (-1), .int 0, .null, .null, .null])), (q_1, .inr (1, [.ref (u_2 0)])), ((u_2 0), .inl (cy 0, 63, .inl (fun _ => 0))), (q_3, .inl (cy 0, 5, .inl (fun _ => 0))), (q_4, .inl (cy 0, 5, .inl (fun _ => 0)))] := hD
  refine lv_aload_n hx hb dX6_init_44 rfl (lv_at hl 0 rfl) ?_
  refine lv_bipush (v := 13) hx hb dX6_init_45 (by decide) ?_
  refine k_newa (atype := .long) (ty := .long) (cA := cy 1) (t0 := 1) (a0 := (13, .inr (.inl (fun _ => 0)))) (N' := 13) hx hb (hG _ q_a_long) rfl (fun _ h => h) hE hP hD hS hA rfl (fun _ => rfl) (by decide) rfl (Nat.le_of_ble_eq_true rfl) (Nat.le_of_ble_eq_true rfl) (Nat.le_of_ble_eq_true rfl) dX6_init_47 (fun q_5 H hP hD hS => ?_)
  have hP : va_P D vwCl [(h0, .inr (6, [.ref q_1, .ref q_3, .ref q_4, .int (-1), .int 0, .null, .null, .null])), (q_1, .inr (1, [.ref (u_2 0)])), ((u_2 0), .inl (cy 0, 63, .inl (fun _ => 0))), (q_3, .inl (cy 0, 5, .inl (fun _ => 0))), (q_4, .inl (cy 0, 5, .inl (fun _ => 0))), (q_5, .inl (cy 1, 13, .inr (.inl (fun _ => 0))))] H := hP
  have hD : va_D A [(h0, .inr (6, [.ref q_1, .ref q_3, .ref q_4, .int (-1), .int 0, .null, .null, .null])), (q_1, .inr (1, [.ref (u_2 0)])), ((u_2 0), .inl (cy 0, 63, .inl (fun _ => 0))), (q_3, .inl (cy 0, 5, .inl (fun _ => 0))), (q_4, .inl (cy 0, 5, .inl (fun _ => 0))), (q_5, .inl (cy 1, 13, .inr (.inl (fun _ => 0))))] := hD
  refine va_putF (D := D) (ci := 6) (v := .ref q_5) (ty := .array .long) (C := RX6) (T := TX6) (N := 8) hx hb hG inG_X6 tyX6 tyX6_ok nmX6 hown hE.1 hP hD hS 0 rfl rfl 6 (by decide) (hG _ q_f_X6_39) (fun _ h9 => h9) rfl hin rfl (by decide +kernel) rfl rfl (Nat.le_of_ble_eq_true rfl) dX6_init_49 (fun H locs hP hD hS => ?_)
  have hP : va_P D vwCl [(h0, .inr (6, [.ref q_1, .ref q_3, .ref q_4, .int (-1), .int 0, .null, .ref q_5, .null])), (q_1, .inr (1, [.ref (u_2 0)])), ((u_2 0), .inl (cy 0, 63, .inl (fun _ => 0))), (q_3, .inl (cy 0, 5, .inl (fun _ => 0))), (q_4, .inl (cy 0, 5, .inl (fun _ => 0))), (q_5, .inl (cy 1, 13, .inr (.inl (fun _ => 0))))] H := hP
  have hD : va_D A [(h0, .inr (6, [.ref q_1, .ref q_3, .ref q_4, .int (-1), .int 0, .null, .ref q_5, .null])), (q_1, .inr (1, [.ref (u_2 0)])), ((u_2 0), .inl (cy 0, 63, .inl (fun _ => 0))), (q_3, .inl (cy 0, 5, .inl (fun _ => 0))), (q_4, .inl (cy 0, 5, .inl (fun _ => 0))), (q_5, .inl (cy 1, 13, .inr (.inl (fun _ => 0))))] := hD
  refine lv_aload_n hx hb dX6_init_52 rfl (lv_at hl 0 rfl) ?_
  refine lv_bipush (v := 64) hx hb dX6_init_53 (by decide) ?_
  refine k_newa (atype := .long) (ty := .long) (cA := cy 1) (t0 := 1) (a0 := (64, .inr (.inl (fun _ => 0)))) (N' := 64) hx hb (hG _ q_a_long) rfl (fun _ h => h) hE hP hD hS hA rfl (fun _ => rfl) (by decide) rfl (Nat.le_of_ble_eq_true rfl) (Nat.le_of_ble_eq_true rfl) (Nat.le_of_ble_eq_true rfl) dX6_init_55 (fun q_6 H hP hD hS => ?_)
  have hP : va_P D vwCl [(h0, .inr (6, [.ref q_1, .ref q_3, .ref q_4, .int (-1), .int 0, .null, .ref q_5, .null])), (q_1, .inr (1, [.ref (u_2 0)])), ((u_2 0), .inl (cy 0, 63, .inl (fun _ => 0))), (q_3, .inl (cy 0, 5, .inl (fun _ => 0))), (q_4, .inl (cy 0, 5, .inl (fun _ => 0))), (q_5, .inl (cy 1, 13, .inr (.inl (fun _ => 0)))), (q_6, .inl (cy 1, 64, .inr (.inl (fun _ => 0))))] H := hP
  have hD : va_D A [(h0, .inr (6, [.ref q_1, .ref q_3, .ref q_4, .int (-1), .int 0, .null, .ref q_5, .null])), (q_1, .inr (1, [.ref (u_2 0)])), ((u_2 0), .inl (cy 0, 63, .inl (fun _ => 0))), (q_3, .inl (cy 0, 5, .inl (fun _ => 0))), (q_4, .inl (cy 0, 5, .inl (fun _ => 0))), (q_5, .inl (cy 1, 13, .inr (.inl (fun _ => 0)))), (q_6, .inl (cy 1, 64, .inr (.inl (fun _ => 0))))] := hD
  refine va_putF (D := D) (ci := 6) (v := .ref q_6) (ty := .array .long) (C := RX6) (T := TX6) (N := 8) hx hb hG inG_X6 tyX6 tyX6_ok nmX6 hown hE.1 hP hD hS 0 rfl rfl 7 (by decide) (hG _ q_f_X6_43) (fun _ h9 => h9) rfl hin rfl (by decide +kernel) rfl rfl (Nat.le_of_ble_eq_true rfl) dX6_init_57 (fun H locs hP hD hS => ?_)
  have hP : va_P D vwCl [(h0, .inr (6, [.ref q_1, .ref q_3, .ref q_4, .int (-1), .int 0, .null, .ref q_5, .ref q_6])), (q_1, .inr (1, [.ref (u_2 0)])), ((u_2 0), .inl (cy 0, 63, .inl (fun _ => 0))), (q_3, .inl (cy 0, 5, .inl (fun _ => 0))), (q_4, .inl (cy 0, 5, .inl (fun _ => 0))), (q_5, .inl (cy 1, 13, .inr (.inl (fun _ => 0)))), (q_6, .inl (cy 1, 64, .inr (.inl (fun _ => 0))))] H := hP
  have hD : va_D A [(h0, .inr (6, [.ref q_1, .ref q_3, .ref q_4, .int (-1), .int 0, .null, .ref q_5, .ref q_6])), (q_1, .inr (1, [.ref (u_2 0)])), ((u_2 0), .inl (cy 0, 63, .inl (fun _ => 0))), (q_3, .inl (cy 0, 5, .inl (fun _ => 0))), (q_4, .inl (cy 0, 5, .inl (fun _ => 0))), (q_5, .inl (cy 1, 13, .inr (.inl (fun _ => 0)))), (q_6, .inl (cy 1, 64, .inr (.inl (fun _ => 0))))] := hD
  exact KV.rt (fun i => ([q_1, q_3, q_4, q_5, q_6, (u_2 0)] : List Nat).getD i 0) F (hP.sub [0, 1, 2, 3, 4, 5, 6] rfl) (hD.sub [0, 1, 2, 3, 4, 5, 6] (by decide) rfl) hS trivial (Nat.le_of_ble_eq_true rfl) (Nat.le_of_ble_eq_true rfl) dX6_init_60

set_option maxHeartbeats 4000000 in
set_option maxRecDepth 100000 in
theorem n_Forecast (l : Launch) (D : va_G) (cy : Nat → ClassId) (h0 : Nat) : KV l yX2_init cX2_init 1 1 12 D (kTY cy) [.ref h0] [(h0, .inr (2, [.int 0, .int 0, .int 0, .null, .null]))] (S := Nat → Nat) (fun _ => True) (fun u => [(h0, .inr (2, [.int (-1), .int 0, .int 0, .ref (u 0), .ref (u 1)])), ((u 0), .inl (cy 0, 36, .inl (fun _ => 0))), ((u 1), .inl (cy 0, 36, .inl (fun _ => 0)))]) 2 72 := by
  refine KV.of (by decide) (Nat.le_of_ble_eq_true rfl) (fun p e s m below meth c ls A F hin hE hP hD hA hS hl => ?_)
  have F : kF p s m meth c cX2_init 1 none _ RX2 := F
  obtain ⟨hx, hb, hr, hml, hown, hG, hlk⟩ := id F
  have hl : lv_has ls 1 [(0, .ref h0)] := hl
  refine lv_aload_n hx hb dX2_init_0 rfl (lv_at hl 0 rfl) ?_
  refine W.objInit hx hb hown (hG _ q_m_X2_3) (hG _ q_i_objectInit) (hG _ q_c_objectInit) rfl (by rw [hml]; exact hl.1) rfl dX2_init_1 (Nat.le_of_ble_eq_true rfl) (Nat.le_of_ble_eq_true rfl) ?_
  refine W.eq (g2 := F0 m 4 ls []) rfl ?_
  refine lv_aload_n hx hb dX2_init_4 rfl (lv_at hl 0 rfl) ?_
  refine lv_iconst (v := (-1)) hx hb dX2_init_5 (by decide) ?_
  refine va_put (D := D) (ci := 2) (v := .int (-1)) (ty := .int) (C := RX2) (T := TX2) (N := 5) hx hb hG inG_X2 tyX2 tyX2_ok nmX2 hown hE.1 hP hD hS 0 rfl rfl 0 (by decide) (hG _ q_f_X2_9) (fun _ h9 => h9) rfl (by decide +kernel) rfl rfl (Nat.le_of_ble_eq_true rfl) dX2_init_6 (fun H locs hP hD hS => ?_)
  have hP : va_P D vwCl [(h0, .inr (2, [.int (-1), .int 0, .int 0, .null, .null]))] H := hP
  have hD : va_D A [(h0, .inr (2, [.int (-1), .int 0, .int 0, .null, .null]))] := hD
  refine lv_aload_n hx hb dX2_init_9 rfl (lv_at hl 0 rfl) ?_
  refine lv_iconst (v := 0) hx hb dX2_init_10 (by decide) ?_
  refine va_put (D := D) (ci := 2) (v := .int 0) (ty := .int) (C := RX2) (T := TX2) (N := 5) hx hb hG inG_X2 tyX2 tyX2_ok nmX2 hown hE.1 hP hD hS 0 rfl rfl 1 (by decide) (hG _ q_f_X2_15) (fun _ h9 => h9) rfl (by decide +kernel) rfl rfl (Nat.le_of_ble_eq_true rfl) dX2_init_11 (fun H locs hP hD hS => ?_)
  have hP : va_P D vwCl [(h0, .inr (2, [.int (-1), .int 0, .int 0, .null, .null]))] H := hP
  have hD : va_D A [(h0, .inr (2, [.int (-1), .int 0, .int 0, .null, .null]))] := hD
  refine lv_aload_n hx hb dX2_init_14 rfl (lv_at hl 0 rfl) ?_
  refine lv_iconst (v := 0) hx hb dX2_init_15 (by decide) ?_
  refine va_put (D := D) (ci := 2) (v := .int 0) (ty := .int) (C := RX2) (T := TX2) (N := 5) hx hb hG inG_X2 tyX2 tyX2_ok nmX2 hown hE.1 hP hD hS 0 rfl rfl 2 (by decide) (hG _ q_f_X2_18) (fun _ h9 => h9) rfl (by decide +kernel) rfl rfl (Nat.le_of_ble_eq_true rfl) dX2_init_16 (fun H locs hP hD hS => ?_)
  have hP : va_P D vwCl [(h0, .inr (2, [.int (-1), .int 0, .int 0, .null, .null]))] H := hP
  have hD : va_D A [(h0, .inr (2, [.int (-1), .int 0, .int 0, .null, .null]))] := hD
  refine lv_aload_n hx hb dX2_init_19 rfl (lv_at hl 0 rfl) ?_
  refine lv_bipush (v := 36) hx hb dX2_init_20 (by decide) ?_
  refine k_newa (atype := .int) (ty := .int) (cA := cy 0) (t0 := 0) (a0 := (36, .inl (fun _ => 0))) (N' := 36) hx hb (hG _ q_a_int) rfl (fun _ h => h) hE hP hD hS hA rfl (fun _ => rfl) (by decide) rfl (Nat.le_of_ble_eq_true rfl) (Nat.le_of_ble_eq_true rfl) (Nat.le_of_ble_eq_true rfl) dX2_init_22 (fun q_1 H hP hD hS => ?_)
  have hP : va_P D vwCl [(h0, .inr (2, [.int (-1), .int 0, .int 0, .null, .null])), (q_1, .inl (cy 0, 36, .inl (fun _ => 0)))] H := hP
  have hD : va_D A [(h0, .inr (2, [.int (-1), .int 0, .int 0, .null, .null])), (q_1, .inl (cy 0, 36, .inl (fun _ => 0)))] := hD
  refine va_putF (D := D) (ci := 2) (v := .ref q_1) (ty := .array .int) (C := RX2) (T := TX2) (N := 5) hx hb hG inG_X2 tyX2 tyX2_ok nmX2 hown hE.1 hP hD hS 0 rfl rfl 3 (by decide) (hG _ q_f_X2_21) (fun _ h9 => h9) rfl hin rfl (by decide +kernel) rfl rfl (Nat.le_of_ble_eq_true rfl) dX2_init_24 (fun H locs hP hD hS => ?_)
  have hP : va_P D vwCl [(h0, .inr (2, [.int (-1), .int 0, .int 0, .ref q_1, .null])), (q_1, .inl (cy 0, 36, .inl (fun _ => 0)))] H := hP
  have hD : va_D A [(h0, .inr (2, [.int (-1), .int 0, .int 0, .ref q_1, .null])), (q_1, .inl (cy 0, 36, .inl (fun _ => 0)))] := hD
  refine lv_aload_n hx hb dX2_init_27 rfl (lv_at hl 0 rfl) ?_
  refine lv_bipush (v := 36) hx hb dX2_init_28 (by decide) ?_
  refine k_newa (atype := .int) (ty := .int) (cA := cy 0) (t0 := 0) (a0 := (36, .inl (fun _ => 0))) (N' := 36) hx hb (hG _ q_a_int) rfl (fun _ h => h) hE hP hD hS hA rfl (fun _ => rfl) (by decide) rfl (Nat.le_of_ble_eq_true rfl) (Nat.le_of_ble_eq_true rfl) (Nat.le_of_ble_eq_true rfl) dX2_init_30 (fun q_2 H hP hD hS => ?_)
  have hP : va_P D vwCl [(h0, .inr (2, [.int (-1), .int 0, .int 0, .ref q_1, .null])), (q_1, .inl (cy 0, 36, .inl (fun _ => 0))), (q_2, .inl (cy 0, 36, .inl (fun _ => 0)))] H := hP
  have hD : va_D A [(h0, .inr (2, [.int (-1), .int 0, .int 0, .ref q_1, .null])), (q_1, .inl (cy 0, 36, .inl (fun _ => 0))), (q_2, .inl (cy 0, 36, .inl (fun _ => 0)))] := hD
  refine va_putF (D := D) (ci := 2) (v := .ref q_2) (ty := .array .int) (C := RX2) (T := TX2) (N := 5) hx hb hG inG_X2 tyX2 tyX2_ok nmX2 hown hE.1 hP hD hS 0 rfl rfl 4 (by decide) (hG _ q_f_X2_25) (fun _ h9 => h9) rfl hin rfl (by decide +kernel) rfl rfl (Nat.le_of_ble_eq_true rfl) dX2_init_32 (fun H locs hP hD hS => ?_)
  have hP : va_P D vwCl [(h0, .inr (2, [.int (-1), .int 0, .int 0, .ref q_1, .ref q_2])), (q_1, .inl (cy 0, 36, .inl (fun _ => 0))), (q_2, .inl (cy 0, 36, .inl (fun _ => 0)))] H := hP
  have hD : va_D A [(h0, .inr (2, [.int (-1), .int 0, .int 0, .ref q_1, .ref q_2])), (q_1, .inl (cy 0, 36, .inl (fun _ => 0))), (q_2, .inl (cy 0, 36, .inl (fun _ => 0)))] := hD
  exact KV.rt (fun i => ([q_1, q_2] : List Nat).getD i 0) F (hP.sub [0, 1, 2] rfl) (hD.sub [0, 1, 2] (by decide) rfl) hS trivial (Nat.le_of_ble_eq_true rfl) (Nat.le_of_ble_eq_true rfl) dX2_init_35

set_option maxHeartbeats 4000000 in
set_option maxRecDepth 100000 in
theorem n_Study (l : Launch) (D : va_G) (cy : Nat → ClassId) (h0 : Nat) : KV l yX9_init cX9_init 1 1 12 D (kTY cy) [.ref h0] [(h0, .inr (9, [.int 0, .int 0, .null]))] (S := (Nat → Nat) × (Nat → Option Nat)) (fun u => u.2 0 = some (u.1 1) ∧ u.2 1 = some (u.1 2) ∧ u.2 2 = some (u.1 3) ∧ u.2 3 = some (u.1 4) ∧ u.2 4 = some (u.1 5) ∧ u.2 5 = some (u.1 6) ∧ u.2 6 = some (u.1 7)) (fun u => [(h0, .inr (9, [.int 0, .int (-1), .ref (u.1 0)])), ((u.1 0), .inl (cy 6, 7, .inr (.inr (.inr (.inr (u.2)))))), ((u.1 1), .inl (cy 0, 5, .inl (fun _ => 0))), ((u.1 2), .inl (cy 0, 5, .inl (fun _ => 0))), ((u.1 3), .inl (cy 0, 5, .inl (fun _ => 0))), ((u.1 4), .inl (cy 0, 5, .inl (fun _ => 0))), ((u.1 5), .inl (cy 0, 5, .inl (fun _ => 0))), ((u.1 6), .inl (cy 0, 5, .inl (fun _ => 0))), ((u.1 7), .inl (cy 0, 5, .inl (fun _ => 0)))]) 8 42 := by
  refine KV.of (by decide) (Nat.le_of_ble_eq_true rfl) (fun p e s m below meth c ls A F hin hE hP hD hA hS hl => ?_)
  have F : kF p s m meth c cX9_init 1 none _ RX9 := F
  obtain ⟨hx, hb, hr, hml, hown, hG, hlk⟩ := id F
  have hl : lv_has ls 1 [(0, .ref h0)] := hl
  refine lv_aload_n hx hb dX9_init_0 rfl (lv_at hl 0 rfl) ?_
  refine W.objInit hx hb hown (hG _ q_m_X9_3) (hG _ q_i_objectInit) (hG _ q_c_objectInit) rfl (by rw [hml]; exact hl.1) rfl dX9_init_1 (Nat.le_of_ble_eq_true rfl) (Nat.le_of_ble_eq_true rfl) ?_
  refine W.eq (g2 := F0 m 4 ls []) rfl ?_
  refine lv_aload_n hx hb dX9_init_4 rfl (lv_at hl 0 rfl) ?_
  refine lv_iconst (v := 0) hx hb dX9_init_5 (by decide) ?_
  refine va_put (D := D) (ci := 9) (v := .int 0) (ty := .int) (C := RX9) (T := TX9) (N := 3) hx hb hG inG_X9 tyX9 tyX9_ok nmX9 hown hE.1 hP hD hS 0 rfl rfl 0 (by decide) (hG _ q_f_X9_9) (fun _ h9 => h9) rfl (by decide +kernel) rfl rfl (Nat.le_of_ble_eq_true rfl) dX9_init_6 (fun H locs hP hD hS => ?_)
  have hP : va_P D vwCl [(h0, .inr (9, [.int 0, .int 0, .null]))] H := hP
  have hD : va_D A [(h0, .inr (9, [.int 0, .int 0, .null]))] := hD
  refine lv_aload_n hx hb dX9_init_9 rfl (lv_at hl 0 rfl) ?_
  refine lv_iconst (v := (-1)) hx hb dX9_init_10 (by decide) ?_
  refine va_put (D := D) (ci := 9) (v := .int (-1)) (ty := .int) (C := RX9) (T := TX9) (N := 3) hx hb hG inG_X9 tyX9 tyX9_ok nmX9 hown hE.1 hP hD hS 0 rfl rfl 1 (by decide) (hG _ q_f_X9_15) (fun _ h9 => h9) rfl (by decide +kernel) rfl rfl (Nat.le_of_ble_eq_true rfl) dX9_init_11 (fun H locs hP hD hS => ?_)
  have hP : va_P D vwCl [(h0, .inr (9, [.int 0, .int (-1), .null]))] H := hP
  have hD : va_D A [(h0, .inr (9, [.int 0, .int (-1), .null]))] := hD
  refine lv_aload_n hx hb dX9_init_14 rfl (lv_at hl 0 rfl) ?_
  refine lv_bipush (v := 7) hx hb dX9_init_15 (by decide) ?_
  refine lv_iconst (v := 5) hx hb dX9_init_17 (by decide) ?_
  refine k_mnaK (N' := 7) (K' := 5) hx hb hown (hG _ q_k_X9_18) (hG _ q_a_int) hE hP hD hS hA (by decide) (by decide) rfl rfl (Nat.le_of_ble_eq_true rfl) (Nat.le_of_ble_eq_true rfl) (Nat.le_of_ble_eq_true rfl) (Nat.le_of_ble_eq_true rfl) (Nat.le_of_ble_eq_true rfl) dX9_init_18 (fun q_1 rw_2 H hP hD hS => ?_)
  have hP : va_P D vwCl [(h0, .inr (9, [.int 0, .int (-1), .null])), (q_1, .inl (cy 6, 7, .inr (.inr (.inr (.inr (fun i => if i < 7 then some (rw_2 i) else none)))))), ((rw_2 0), .inl (cy 0, 5, .inl (fun _ => 0))), ((rw_2 1), .inl (cy 0, 5, .inl (fun _ => 0))), ((rw_2 2), .inl (cy 0, 5, .inl (fun _ => 0))), ((rw_2 3), .inl (cy 0, 5, .inl (fun _ => 0))), ((rw_2 4), .inl (cy 0, 5, .inl (fun _ => 0))), ((rw_2 5), .inl (cy 0, 5, .inl (fun _ => 0))), ((rw_2 6), .inl (cy 0, 5, .inl (fun _ => 0)))] H := hP
  have hD : va_D A [(h0, .inr (9, [.int 0, .int (-1), .null])), (q_1, .inl (cy 6, 7, .inr (.inr (.inr (.inr (fun i => if i < 7 then some (rw_2 i) else none)))))), ((rw_2 0), .inl (cy 0, 5, .inl (fun _ => 0))), ((rw_2 1), .inl (cy 0, 5, .inl (fun _ => 0))), ((rw_2 2), .inl (cy 0, 5, .inl (fun _ => 0))), ((rw_2 3), .inl (cy 0, 5, .inl (fun _ => 0))), ((rw_2 4), .inl (cy 0, 5, .inl (fun _ => 0))), ((rw_2 5), .inl (cy 0, 5, .inl (fun _ => 0))), ((rw_2 6), .inl (cy 0, 5, .inl (fun _ => 0)))] := hD
  refine va_putF (D := D) (ci := 9) (v := .ref q_1) (ty := .array (.array .int)) (C := RX9) (T := TX9) (N := 3) hx hb hG inG_X9 tyX9 tyX9_ok nmX9 hown hE.1 hP hD hS 0 rfl rfl 2 (by decide) (hG _ q_f_X9_20) (fun _ h9 => h9) rfl hin rfl (by decide +kernel) rfl rfl (Nat.le_of_ble_eq_true rfl) dX9_init_22 (fun H locs hP hD hS => ?_)
  have hP : va_P D vwCl [(h0, .inr (9, [.int 0, .int (-1), .ref q_1])), (q_1, .inl (cy 6, 7, .inr (.inr (.inr (.inr (fun i => if i < 7 then some (rw_2 i) else none)))))), ((rw_2 0), .inl (cy 0, 5, .inl (fun _ => 0))), ((rw_2 1), .inl (cy 0, 5, .inl (fun _ => 0))), ((rw_2 2), .inl (cy 0, 5, .inl (fun _ => 0))), ((rw_2 3), .inl (cy 0, 5, .inl (fun _ => 0))), ((rw_2 4), .inl (cy 0, 5, .inl (fun _ => 0))), ((rw_2 5), .inl (cy 0, 5, .inl (fun _ => 0))), ((rw_2 6), .inl (cy 0, 5, .inl (fun _ => 0)))] H := hP
  have hD : va_D A [(h0, .inr (9, [.int 0, .int (-1), .ref q_1])), (q_1, .inl (cy 6, 7, .inr (.inr (.inr (.inr (fun i => if i < 7 then some (rw_2 i) else none)))))), ((rw_2 0), .inl (cy 0, 5, .inl (fun _ => 0))), ((rw_2 1), .inl (cy 0, 5, .inl (fun _ => 0))), ((rw_2 2), .inl (cy 0, 5, .inl (fun _ => 0))), ((rw_2 3), .inl (cy 0, 5, .inl (fun _ => 0))), ((rw_2 4), .inl (cy 0, 5, .inl (fun _ => 0))), ((rw_2 5), .inl (cy 0, 5, .inl (fun _ => 0))), ((rw_2 6), .inl (cy 0, 5, .inl (fun _ => 0)))] := hD
  exact KV.rt ⟨(fun i => ([q_1, (rw_2 0), (rw_2 1), (rw_2 2), (rw_2 3), (rw_2 4), (rw_2 5), (rw_2 6)] : List Nat).getD i 0), (fun i => if i < 7 then some (rw_2 i) else none)⟩ F (hP.sub [0, 1, 2, 3, 4, 5, 6, 7, 8] rfl) (hD.sub [0, 1, 2, 3, 4, 5, 6, 7, 8] (by decide) rfl) hS ⟨rfl, rfl, rfl, rfl, rfl, rfl, rfl⟩ (Nat.le_of_ble_eq_true rfl) (Nat.le_of_ble_eq_true rfl) dX9_init_25
