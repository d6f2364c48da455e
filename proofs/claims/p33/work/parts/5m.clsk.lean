/-! ===== methods that answer a reference ===== -/
theorem k_fitZ {v : Int32} (h : v.toInt = 0 ∨ v.toInt = 1) : fits .boolean (.int v) = true := by
  have e : v = 0 ∨ v = 1 := h.imp (fun q => Int32.toInt_inj.mp (by rw [q]; decide)) (fun q => Int32.toInt_inj.mp (by rw [q]; decide))
  rcases e with rfl | rfl <;> rfl
def kBr {S : Type} (D : va_G) (A : Nat → Prop) (wf : S → Nat → va_W) (u : S) (a : Nat) (t : State) : Prop := va_P D vwCl (wf u a) t.heap ∧ va_D A (wf u a)
def JR (l : Launch) (y : MethodName) (cc : ByteArray) (nL : Nat) (ret : Option FieldType) (fr lo : Nat) (D : va_G) (T : List (ClassId × FieldType)) (as : List Value) (w : va_W) (Z : ((Nat → Prop) → State → Heap → Prop)) {S : Type} (post : S → Prop) (wf : S → Nat → va_W) (mc ms : Nat) : Prop := ∀ sz : Nat, Met l y (kw y cc nL ret) (kRm fr lo mc ms) (va_Pc as (jWc D T w Z sz)) (va_Qr post (kBr D (va_A w sz) wf) (va_A w sz)) mc ms (va_A w sz)
theorem JR.of {l : Launch} {y : MethodName} {fr lo mc ms : Nat} {D : va_G} {T : List (ClassId × FieldType)} {as : List Value} {w : va_W} {Z : ((Nat → Prop) → State → Heap → Prop)} {S : Type} {post : S → Prop} {wf : S → Nat → va_W} {cc : ByteArray} {maxL : Nat} {ret : Option FieldType} (hy : plainName y.cls = true) (hlen : (lg_sl as).length ≤ maxL)
    (body : ∀ (p : Program) (e : Env) (s : State) (m : MethodId) (below : List Frame) (meth : Method) (c : Code) (ls : Array Slot) (A : Nat → Prop), kF p s m meth c cc maxL ret as.toArray y.cls → kE D T s → va_P D vwCl w s.heap → va_D A w → (∀ q : Nat, s.heap.size ≤ q → A q) → va_S A s.heap s.heap [] → lv_has ls maxL (lv_args 0 as) → Z A s s.heap → W p l e (kRm fr lo mc ms) s m as.toArray below meth c s.heap [] 0 0 (MQ below (va_Qr post (kBr D A wf) A) as.toArray s mc ms A) (F0 m 0 ls [])) : JR l y cc maxL ret fr lo D T as w Z post wf mc ms := by
  intro sz
  refine Met.ofW (cc := cc) (maxL := maxL) (ret := ret) hy rfl ?_
  intro p e s m args below meth c s₁ B hml hv
  obtain ⟨rfl, ⟨rfl, hP, hE, hD0⟩, hZ⟩ := hv
  have hl := lv_entry as (n := maxL) hlen
  rw [lg_entry_eq]
  exact body p e s m below meth c _ (va_A w s.heap.size) ⟨B.exec, B.bytes, B.returns, hml, findClass_of_methodNamed B.named, fun w h => atoms_spec (ws := kw y cc maxL ret) B.pre w (List.mem_cons_of_mem _ h), B.notSynchronized⟩ hE hP (hD0.self (sz := s.heap.size)) (fun q h => Or.inr h) va_S.rf hl hZ
def kQr (post : Value → Prop) : Array Value → State → Outcome → State → Prop := fun _ st oc t => ∃ v : Value, oc = .returned (some v) ∧ post v ∧ t.heap = st.heap
def KPr (l : Launch) (y : MethodName) (cc : ByteArray) (nL : Nat) (ret : Option FieldType) (fr lo : Nat) (D : va_G) (T : List (ClassId × FieldType)) (as : List Value) (w : va_W) (post : Value → Prop) : Prop := Met l y (kw y cc nL ret) (kR fr lo) (va_Pc as (kPc D T w)) (kQr post) 0 0 (fun _ => False)
theorem KPr.of {l : Launch} {y : MethodName} {fr lo : Nat} {D : va_G} {T : List (ClassId × FieldType)} {as : List Value} {w : va_W} {post : Value → Prop} {cc : ByteArray} {maxL : Nat} {ret : Option FieldType} (hy : plainName y.cls = true) (hlen : (lg_sl as).length ≤ maxL)
    (body : ∀ (p : Program) (e : Env) (s : State) (m : MethodId) (below : List Frame) (meth : Method) (c : Code) (ls : Array Slot), kF p s m meth c cc maxL ret as.toArray y.cls → kE D T s → va_P D vwCl w s.heap → lv_has ls maxL (lv_args 0 as) → W p l e (kR fr lo) s m as.toArray below meth c s.heap [] 0 0 (MQ below (kQr post) as.toArray s 0 0 (fun _ => False)) (F0 m 0 ls [])) : KPr l y cc maxL ret fr lo D T as w post := by
  refine Met.ofW (cc := cc) (maxL := maxL) (ret := ret) hy rfl ?_
  intro p e s m args below meth c s₁ B hml hv
  obtain ⟨rfl, hP, hE⟩ := hv
  have hl := lv_entry as (n := maxL) hlen
  rw [lg_entry_eq]
  exact body p e s m below meth c _ ⟨B.exec, B.bytes, B.returns, hml, findClass_of_methodNamed B.named, fun w h => atoms_spec (ws := kw y cc maxL ret) B.pre w (List.mem_cons_of_mem _ h), B.notSynchronized⟩ hE hP hl
section KRR
variable {p : Program} {l : Launch} {e : Env} {R : Room} {s : State} {m : MethodId} {args : Array Value} {below : List Frame} {meth : Method} {c : Code} {H : Heap} {locs : List Loc} {cells slots : Nat} {Q : State → Prop}
variable {cc bytes : ByteArray} {pc nL maxL index n ci : Nat} {ls : Array Slot} {rest st As : List Value} {D : va_G} {T : List (ClassId × FieldType)} {A : Nat → Prop} {w W0 wr : va_W} {H0 : Heap} {ret ret' : Option FieldType} {b : Nat} {fs : List Value} {cq : vw_C}
variable {y : MethodName} {fr lo mc ms : Nat} {own host : String}
theorem JR.rt {S : Type} {post : S → Prop} {wf : S → Nat → va_W} {a : Nat} {rt : FieldType} (u : S) (F : kF p s m meth c cc nL (some rt) args own) (hrt : (∃ n, rt = .object n) ∨ ∃ t, rt = .array t) (hP : va_P D vwCl (wf u a) H) (hD : va_D A (wf u a)) (hS : va_S A s.heap H locs) (hp : post u) (hc : cells ≤ mc) (hs : slots ≤ ms) (hdg : decode cc pc = .ok (.areturn, 1)) : W p l e R s m args below meth c H locs cells slots (MQ below (va_Qr post (kBr D A wf) A) args s mc ms A) (F0 m pc ls [.ref a]) :=
  W.widen hc hs (W.aret F.1 F.2.1 F.2.2.1 hrt (Or.inr ⟨a, rfl⟩) (fun t ht _ => ⟨⟨u, a, rfl, hp, by rw [ht]; exact hP, hD⟩, hS.F ht⟩) hS.2.2 hdg F.2.2.2.2.2.2)
theorem KPr.rt {post : Value → Prop} {v : Value} {rt : FieldType} (F : kF p s m meth c cc nL (some rt) args own) (hrt : (∃ n, rt = .object n) ∨ ∃ t, rt = .array t) (hv : v = .null ∨ ∃ a, v = .ref a) (hp : post v) (hdg : decode cc pc = .ok (.areturn, 1)) : W p l e R s m args below meth c s.heap [] 0 0 (MQ below (kQr post) args s 0 0 (fun _ => False)) (F0 m pc ls [v]) :=
  W.aret F.1 F.2.1 F.2.2.1 hrt hv (fun t ht _ => ⟨v, rfl, hp, ht⟩) (fun q h => by cases h) hdg F.2.2.2.2.2.2
theorem kcPr {post : Value → Prop} {a : Array Value} (hr : va_Run p l e R s m args below meth c H locs cells slots 0 0 (F0 m pc ls st) rest (kQr post a) (fun _ => False)) (kk : ∀ r : Value, post r → W p l e R s m args below meth c H locs cells slots Q (F0 m (pc + 3) ls (r :: rest))) : W p l e R s m args below meth c H locs cells slots Q (F0 m pc ls st) := by
  intro T hT X
  obtain ⟨v, st₀, t, T', L, h0, X', hL, e1, e2, ⟨r, hv, hp, hh⟩, st⟩ := hr T hT X
  cases hv
  obtain ⟨t2, a1, b1⟩ := kk r hp T' (by rw [e1, hh, h0]) (Stand.forget X' (fun q h => (hL q h).elim))
  exact ⟨t2, st t2 a1, b1⟩
theorem kcVr {post : Value → Prop} {C : String} (F : kF p s m meth c cc nL ret args own) (hE : kE D T s) (hP : va_P D vwCl W0 H) (hl : ls.size = nL) (hM : KPr l y bytes maxL ret' fr lo D T (.ref b :: As) w post) (hm : Cond.methodLink own index y ∈ kGW) (hY : kMV C y bytes maxL ret' n) (hR : fr + 1 ≤ R.frames ∧ 8 + (maxL + 11) + lo ≤ R.locals) (is : List Nat) (hsub : is.filterMap (fun i => W0[i]?) = w) (hb0 : w[0]? = some (b, .inr (ci, fs))) (hci : vwCl[ci]? = some cq) (hq : cq.1 = C) (hn : As.length = n) (hst : st = As.reverse ++ .ref b :: rest) (hW : (rest.map fun v => v.category).sum ≤ 8) (hf : cells ≤ R.cells ∧ slots ≤ R.slots) (hdg : decode cc pc = .ok (.invokevirtual index, 3))
    (kk : ∀ r : Value, post r → W p l e R s m args below meth c H locs cells slots Q (F0 m (pc + 3) ls (r :: rest))) : W p l e R s m args below meth c H locs cells slots Q (F0 m pc ls st) := by
  have hPc := hP.sub is hsub
  obtain ⟨f1, f2, f3, f4, f5, f6, f7⟩ := F
  subst hq
  exact kcPr (va_runV (As := As) (rest := rest) (nL := nL) ⟨f1, f2, f4, f5, f6⟩ hM (cwV n f6 (k_gV hm hY) rfl rfl rfl hY.2.2.2.2 hR) ⟨kPc.blind, va_recv hE.1 hPc hci hb0, fun U hU hW => ⟨rfl, by rw [hU]; exact hPc, hE.warm hW⟩⟩ rfl hn hl hst (lv_room hW) hdg hf) kk
theorem kwR {S : Type} {post : S → Prop} {wf : S → Nat → va_W} {a : Array Value} (hr : va_Run p l e R s m args below meth c H locs cells slots mc ms (F0 m pc ls st) rest (va_Qr post (kBr D (va_A w H.size) wf) (va_A w H.size) a) (va_A w H.size)) (hP : va_P D vwCl W0 H) (hD : va_D A W0) (hS : va_S A H0 H locs) (hA : ∀ q : Nat, H0.size ≤ q → A q) (isC isR : List Nat) (hC : isC.map (fun i => W0[i]?) = w.map some) (hRr : isR.map (fun i => W0[i]?) = wr.map some) (hn1 : va_nd isR = true) (hdis : ∀ i ∈ isR, i ∉ isC)
    (kk : ∀ (u : S) (ra : Nat) (H1 : Heap) (locs1 : List Loc), post u → va_P D vwCl (wr ++ wf u ra) H1 → va_D A (wr ++ wf u ra) → va_S A H0 H1 locs1 → W p l e R s m args below meth c H1 locs1 (cells + mc) (slots + ms) Q (F0 m (pc + 3) ls (.ref ra :: rest))) : W p l e R s m args below meth c H locs cells slots Q (F0 m pc ls st) := by
  have hFc := va_free (wc := w) hD hS hA isC hC
  refine va_callr hr hS (fun q _ h => hFc q h) hFc (fun u ra t H1 locs1 ht hvm hw hB hz1 hk1 hS1 => ?_)
  obtain ⟨hP1, hD1⟩ := hB
  rw [ht] at hP1
  obtain ⟨hP2, hD2⟩ := va_join (wr := wr) (w1 := wf u ra) hP hD isC isR hC hRr hn1 hdis hk1 hFc hP1 hD1
  exact kk u ra H1 locs1 hw hP2 hD2 hS1
variable {Z : ((Nat → Prop) → State → Heap → Prop)}
theorem jxVR {S : Type} {post : S → Prop} {wf : S → Nat → va_W} {C : String} (F : kF p s m meth c cc nL ret args own) (hE : kE D T s) (hP : va_P D vwCl W0 H) (hD : va_D A W0) (hS : va_S A s.heap H locs) (hA : ∀ q : Nat, s.heap.size ≤ q → A q) (hl : ls.size = nL) (hz : zOW Z) (hZ : Z A s s.heap) (hM : JR l y bytes maxL ret' fr lo D T (.ref b :: As) w Z post wf mc ms) (hm : Cond.methodLink own index y ∈ kGW) (hY : kMV C y bytes maxL ret' n) (hR : fr + 1 ≤ R.frames ∧ 8 + (maxL + 11) + lo ≤ R.locals) (isC isR : List Nat) (hnC : va_nd isC = true) (hC : isC.map (fun i => W0[i]?) = w.map some) (hRr : isR.map (fun i => W0[i]?) = wr.map some) (hn1 : va_nd isR = true) (hdis : ∀ i ∈ isR, i ∉ isC) (hb0 : w[0]? = some (b, .inr (ci, fs))) (hci : vwCl[ci]? = some cq) (hq : cq.1 = C) (hn : As.length = n) (hst : st = As.reverse ++ .ref b :: rest) (hW : (rest.map fun v => v.category).sum ≤ 8) (hf : cells + mc ≤ R.cells ∧ slots + ms ≤ R.slots) (hdg : decode cc pc = .ok (.invokevirtual index, 3))
    (kk : ∀ (u : S) (ra : Nat) (H1 : Heap) (locs1 : List Loc), post u → va_P D vwCl (wr ++ wf u ra) H1 → va_D A (wr ++ wf u ra) → va_S A s.heap H1 locs1 → W p l e R s m args below meth c H1 locs1 (cells + mc) (slots + ms) Q (F0 m (pc + 3) ls (.ref ra :: rest))) : W p l e R s m args below meth c H locs cells slots Q (F0 m pc ls st) := by
  obtain ⟨f1, f2, f3, f4, f5, f6, f7⟩ := F
  subst hq
  exact kwR (va_runV (As := As) (rest := rest) (nL := nL) ⟨f1, f2, f4, f5, f6⟩ (hM H.size) (cwV n f6 (k_gV hm hY) rfl rfl rfl hY.2.2.2.2 hR) ⟨jWc.blindW hz, va_recv hE.1 (hP.sub isC (k_pick hC)) hci hb0, j_preW hz hZ hE hP hD hS hA rfl isC hnC hC⟩ rfl hn hl hst (lv_room hW) hdg hf) hP hD hS hA isC isR hC hRr hn1 hdis kk
theorem jxSR {S : Type} {post : S → Prop} {wf : S → Nat → va_W} (F : kF p s m meth c cc nL ret args own) (hE : kE D T s) (hP : va_P D vwCl W0 H) (hD : va_D A W0) (hS : va_S A s.heap H locs) (hA : ∀ q : Nat, s.heap.size ≤ q → A q) (hl : ls.size = nL) (hz : zOW Z) (hZ : Z A s s.heap) (hM : JR l y bytes maxL ret' fr lo D T As w Z post wf mc ms) (hm : Cond.methodLink own index y ∈ kGW) (hY : kMS y bytes maxL ret' n) (hR : fr + 1 ≤ R.frames ∧ 8 + (maxL + 11) + lo ≤ R.locals) (isC isR : List Nat) (hnC : va_nd isC = true) (hC : isC.map (fun i => W0[i]?) = w.map some) (hRr : isR.map (fun i => W0[i]?) = wr.map some) (hn1 : va_nd isR = true) (hdis : ∀ i ∈ isR, i ∉ isC) (hn : As.length = n) (hst : st = As.reverse ++ rest) (hW : (rest.map fun v => v.category).sum ≤ 8) (hf : cells + mc ≤ R.cells ∧ slots + ms ≤ R.slots) (hdg : decode cc pc = .ok (.invokestatic index, 3))
    (kk : ∀ (u : S) (ra : Nat) (H1 : Heap) (locs1 : List Loc), post u → va_P D vwCl (wr ++ wf u ra) H1 → va_D A (wr ++ wf u ra) → va_S A s.heap H1 locs1 → W p l e R s m args below meth c H1 locs1 (cells + mc) (slots + ms) Q (F0 m (pc + 3) ls (.ref ra :: rest))) : W p l e R s m args below meth c H locs cells slots Q (F0 m pc ls st) := by
  obtain ⟨f1, f2, f3, f4, f5, f6, f7⟩ := F
  exact kwR (va_runS (As := As) (rest := rest) (nL := nL) ⟨f1, f2, f4, f5, f6⟩ (hM H.size) (va_cwS n f6 (k_gS hm hY) rfl rfl rfl hY.2.2.2 hR) ⟨jWc.blindW hz, j_preW hz hZ hE hP hD hS hA rfl isC hnC hC⟩ rfl hn hl hst (lv_room hW) hdg hf) hP hD hS hA isC isR hC hRr hn1 hdis kk
end KRR
theorem k_strI : ("[" ++ FieldType.int.toString) = "[I" := by decide
theorem k_fitI {cA : ClassId} {n : Nat} {f : Nat → Int32} (i : Nat) (v : Value) (h : (vp_cell cA (n, .inl f)).slots[i]? = some v) : fits .int v = true := by
  rw [vp_cell_i] at h
  have hlt : i < n := by
    rcases Nat.lt_or_ge i n with q | q
    · exact q
    · rw [Array.getElem?_eq_none (by rw [arrV_size]; exact q)] at h; cases h
  rw [arrV_read _ _ hlt] at h
  cases h; rfl
set_option maxHeartbeats 4000000 in
set_option maxRecDepth 100000 in
/-- Arrays.copyOf(a, z) -/
theorem c_copyOf (l : Launch) (D : va_G) (cy : Nat → ClassId) (kt vt q : Nat) (g : Nat → Int32) (z : Int32) (h0 : 0 ≤ z.toInt) (h1 : z.toInt ≤ 412) : JR l yJ7_copyOf_59c91 cJ7_copyOf_59c91 3 (some (.array .int)) 1 60 D (kTY cy) [.ref q, .int z] [(q, .inl (cy 0, 412, .inl g))] (ZT kt vt) (S := Nat × (Nat → Int32)) (fun u => (u.1 : Int) = z.toInt ∧ ∀ j : Nat, j < u.1 → u.2 j = g j) (fun u a => [(q, .inl (cy 0, 412, .inl g)), (a, .inl (cy 0, u.1, .inl u.2))]) 1 412 := by
  refine JR.of (by decide) (Nat.le_of_ble_eq_true rfl) (fun p e s m below meth c ls A F hE hP hD hA hS hl hZ => ?_)
  have F : kF p s m meth c cJ7_copyOf_59c91 3 (some (.array .int)) _ RJ7 := F
  obtain ⟨hx, hb, hr, hml, hown, hG, hlk⟩ := id F
  have hl : lv_has ls 3 [(0, .ref q), (1, .int z)] := hl
  have hcI : s.vm.findClass "[I" = some (cy 0) := by rw [← k_strI]; exact (hE.1.2 0 _ rfl).2
  refine lv_iload_n hx hb dJ7_copyOf_59c91_0 rfl (lv_at hl 1 rfl) ?_
  refine lv_aload_n hx hb dJ7_copyOf_59c91_1 rfl (lv_at hl 0 rfl) ?_
  refine va_alen (v := 412) hx hb hE.1 hP 0 0 rfl rfl rfl dJ7_copyOf_59c91_2 ?_
  refine lv_icmp_ne (tgt := 14) hx hb dJ7_copyOf_59c91_3 (by decide) (fun c1 => ?_) (fun c1 => ?_)
  · have hN : z.toNatClampNeg ≤ 412 := by rw [k_cl]; omega
    refine lv_iload_n hx hb dJ7_copyOf_59c91_14 rfl (lv_at hl 1 rfl) ?_
    refine k_newa (atype := .int) (ty := .int) (cA := cy 0) (t0 := 0) (a0 := (z.toNatClampNeg, .inl (fun _ => 0))) (N' := z.toNatClampNeg) hx hb (hG _ q_a_int) rfl (fun _ h => h) hE hP hD hS hA rfl (fun _ => rfl) (fun q => by have := k_lt q rfl (show (0 : Int32).toInt = 0 by decide); omega) rfl (by show z.toNatClampNeg * 4 ≤ 536870912; omega) (Nat.le_of_ble_eq_true rfl) (by show 0 + z.toNatClampNeg ≤ 412; omega) dJ7_copyOf_59c91_15 (fun q1 H hP hD hS => ?_)
    have hP : va_P D vwCl [(q, .inl (cy 0, 412, .inl g)), (q1, .inl (cy 0, z.toNatClampNeg, .inl (fun _ => 0)))] H := hP
    have hD : va_D A [(q, .inl (cy 0, 412, .inl g)), (q1, .inl (cy 0, z.toNatClampNeg, .inl (fun _ => 0)))] := hD
    refine lv_astore_n (lv' := [(2, .ref q1), (0, .ref q), (1, .int z)]) hx hb dJ7_copyOf_59c91_17 rfl hl (by decide) rfl (fun ls hl => ?_)
    refine lv_aload_n hx hb dJ7_copyOf_59c91_18 rfl (lv_at hl 1 rfl) ?_
    refine lv_iconst (v := 0) hx hb dJ7_copyOf_59c91_19 (by decide) ?_
    refine lv_aload_n hx hb dJ7_copyOf_59c91_20 rfl (lv_at hl 0 rfl) ?_
    refine lv_iconst (v := 0) hx hb dJ7_copyOf_59c91_21 (by decide) ?_
    refine lv_aload_n hx hb dJ7_copyOf_59c91_22 rfl (lv_at hl 1 rfl) ?_
    refine va_alen (v := 412) hx hb hE.1 hP 0 0 rfl rfl rfl dJ7_copyOf_59c91_23 ?_
    refine lv_iload_n hx hb dJ7_copyOf_59c91_24 rfl (lv_at hl 2 rfl) ?_
    refine va_mmin hx hb (by rw [hml]; exact hl.1.symm) hown (hG _ q_m_J7_304) (hG _ q_s_J9_min_7cf53) (hG _ q_z_J9) (hG _ q_c_J9_min_7cf53) (Nat.le_of_ble_eq_true rfl) (Nat.le_of_ble_eq_true rfl) (Nat.le_of_ble_eq_true rfl) (by show 0 + z.toNatClampNeg ≤ 412; omega) dJ7_copyOf_59c91_25 ?_
    refine lv_topi (fun w ew => ?_)
    obtain ⟨w1, w2, w3⟩ := k_minI (a := z.toInt) (b := 412) ew rfl (by decide)
    have hw : w.toNatClampNeg = z.toNatClampNeg := by rw [k_cl, k_cl]; omega
    refine va_copyi (ty := .int) hx hb (by rw [hml]; exact hl.1.symm) hown (hG _ q_m_J7_150) (hG _ q_n_arraycopyName) (hG _ q_s_arraycopyName) (hG _ q_z_J10) hE.1 hP hD hS 0 1 0 0 rfl rfl rfl rfl rfl (by decide) (by decide) (fun q => by have := k_lt q rfl (show (0 : Int32).toInt = 0 by decide); omega) (by show 0 + w.toNatClampNeg ≤ 412; omega) (by show 0 + w.toNatClampNeg ≤ z.toNatClampNeg; omega) (fun _ _ => rfl) (Nat.le_of_ble_eq_true rfl) (Nat.le_of_ble_eq_true rfl) dJ7_copyOf_59c91_28 (fun H locs hP hD hS => ?_)
    refine lv_aload_n hx hb dJ7_copyOf_59c91_31 rfl (lv_at hl 0 rfl) ?_
    exact JR.rt (wf := fun (u : Nat × (Nat → Int32)) a => [(q, .inl (cy 0, 412, .inl g)), (a, .inl (cy 0, u.1, .inl u.2))]) ⟨z.toNatClampNeg, va_cpy g (fun _ => 0) (Int32.toNatClampNeg 0) (Int32.toNatClampNeg 0) w.toNatClampNeg⟩ F (Or.inr ⟨_, rfl⟩) hP hD hS ⟨by show (z.toNatClampNeg : Int) = z.toInt; rw [k_cl]; omega, fun j hj => k_cpy (f := g) (g := fun _ => 0) (n := w.toNatClampNeg) (i := j) (Nat.lt_of_lt_of_eq hj hw.symm)⟩ (Nat.le_of_ble_eq_true rfl) (by omega) dJ7_copyOf_59c91_32
  · have hz : z.toInt = 412 := k_eq c1 rfl (by decide)
    refine lv_aload_n hx hb dJ7_copyOf_59c91_6 rfl (lv_at hl 0 rfl) ?_
    refine va_clone (ad := "[I") hx hb (by rw [hml]; exact hl.1.symm) hown (hG _ (kin3 (i := 76) rfl rfl)) (hG _ (kin3 (i := 77) rfl rfl)) (hG _ (kin3 (i := 78) rfl rfl)) (hG _ (kin3 (i := 79) rfl rfl)) (hG _ (kin3 (i := 80) rfl rfl)) hZ.2.2.2.2.2.2.2 hE.1 hP hD hS hA 0 0 rfl rfl hcI k_fitI (Nat.le_of_ble_eq_true rfl) (Nat.le_of_ble_eq_true rfl) (Nat.le_of_ble_eq_true rfl) (Nat.le_of_ble_eq_true rfl) dJ7_copyOf_59c91_7 (fun q1 H hK hP hD hS => ?_)
    have hP : va_P D vwCl [(q, .inl (cy 0, 412, .inl g)), (q1, .inl (cy 0, 412, .inl g))] H := hP
    have hD : va_D A [(q, .inl (cy 0, 412, .inl g)), (q1, .inl (cy 0, 412, .inl g))] := hD
    refine va_castA hx hb hown (hG _ q_k_J7_317) hP 1 rfl hcI dJ7_copyOf_59c91_10 ?_
    exact JR.rt (wf := fun (u : Nat × (Nat → Int32)) a => [(q, .inl (cy 0, 412, .inl g)), (a, .inl (cy 0, u.1, .inl u.2))]) ⟨412, g⟩ F (Or.inr ⟨_, rfl⟩) hP hD hS ⟨by show ((412 : Nat) : Int) = z.toInt; omega, fun j hj => rfl⟩ (Nat.le_of_ble_eq_true rfl) (Nat.le_of_ble_eq_true rfl) dJ7_copyOf_59c91_13

set_option maxHeartbeats 4000000 in
set_option maxRecDepth 100000 in
theorem cc_X7_init (l : Launch) (D : va_G) (cy : Nat → ClassId) (o : Nat) (t : Nat) (o_sv : Value) (o_ra : Int32) (rn : Nat) (rg : Nat → Int32) (hn4 : rn ≤ 412) : KV l yX7_init cX7_init 4 1 12 D (kTY cy) [.ref o, .ref t] [(o, .inr (7, [o_sv, .int o_ra])), (t, .inl (cy 0, rn, .inl rg))] (S := Value × Int32) (fun u => ((u.1) = .ref t)) (fun u => [(o, .inr (7, [(u.1), .int (u.2)])), (t, .inl (cy 0, rn, .inl rg))]) 0 0 := by
  refine KV.of (by decide) (Nat.le_of_ble_eq_true rfl) (fun p e s m below meth c ls A F hin hE hP hD hA hS hl => ?_)
  have F : kF p s m meth c cX7_init 4 none _ RX7 := F
  obtain ⟨hx, hb, hr, hml, hown, hG, hlk⟩ := id F
  have hl : lv_has ls 4 [(0, .ref o), (1, .ref t)] := hl
  refine lv_aload_n hx hb dX7_init_0 rfl (lv_at hl 0 rfl) ?_
  refine W.objInit hx hb hown (hG _ q_m_X7_1) (hG _ q_i_objectInit) (hG _ q_c_objectInit) rfl (by rw [hml]; exact hl.1) rfl dX7_init_1 (Nat.le_of_ble_eq_true rfl) (Nat.le_of_ble_eq_true rfl) ?_
  refine W.eq (g2 := F0 m 4 ls []) rfl ?_
  refine lv_aload_n hx hb dX7_init_4 rfl (lv_at hl 0 rfl) ?_
  refine lv_aload_n hx hb dX7_init_5 rfl (lv_at hl 1 rfl) ?_
  refine va_putF (D := D) (ci := 7) (v := .ref t) (ty := .array .int) (C := RX7) (T := TX7) (N := 2) hx hb hG inG_X7 tyX7 tyX7_ok nmX7 hown hE.1 hP hD hS 0 rfl rfl 0 (by decide) (hG _ q_f_X7_7) (fun _ h9 => h9) rfl hin rfl (by decide +kernel) rfl rfl (Nat.le_of_ble_eq_true rfl) dX7_init_6 (fun H locs hP hD hS => ?_)
  have hP : va_P D vwCl [(o, .inr (7, [.ref t, .int o_ra])), (t, .inl (cy 0, rn, .inl rg))] H := hP
  have hD : va_D A [(o, .inr (7, [.ref t, .int o_ra])), (t, .inl (cy 0, rn, .inl rg))] := hD
  refine lv_iconst (v := 0) hx hb dX7_init_9 (by decide) ?_
  refine lv_istore_n (lv' := [(2, .int 0), (0, .ref o), (1, .ref t)]) hx hb dX7_init_10 rfl hl (by decide) rfl (fun ls hl => ?_)
  refine lv_iconst (v := 0) hx hb dX7_init_11 (by decide) ?_
  refine lv_istore_n (lv' := [(3, .int 0), (2, .int 0), (0, .ref o), (1, .ref t)]) hx hb dX7_init_12 rfl hl (by decide) rfl (fun ls hl => ?_)
  have lp13 : ∀ (fu : Nat) (v3_13 : Int32) (v2_13 : Int32) (H : Heap) (locs : List Loc) (ls : Array Slot), (0 ≤ v3_13.toInt) → (v3_13.toInt ≤ (rn : Int)) → (v2_13.toInt = 0 ∨ v2_13.toInt = 1) → (rn : Int) - v3_13.toInt < (fu : Int) → va_P D vwCl [(o, .inr (7, [.ref t, .int o_ra])), (t, .inl (cy 0, rn, .inl rg))] H → va_D A [(o, .inr (7, [.ref t, .int o_ra])), (t, .inl (cy 0, rn, .inl rg))] → va_S A s.heap H locs → lv_has ls 4 [(3, .int v3_13), (2, .int v2_13), (0, .ref o), (1, .ref t)] → W p l e (kRm 1 12 0 0) s m ([.ref o, .ref t] : List Value).toArray below meth c H locs 0 0 (MQ below (va_Qv (S := Value × Int32) (fun u => ((u.1) = .ref t)) (kBw D A (fun u => [(o, .inr (7, [(u.1), .int (u.2)])), (t, .inl (cy 0, rn, .inl rg))])) A) ([.ref o, .ref t] : List Value).toArray s 0 0 A) (F0 m 13 ls []) := by
    intro fu13
    induction fu13 with
    | zero =>
      intro v3_13 v2_13 H locs ls j0_13 j1_13 j2_13 hm13 hP hD hS hl
      exact absurd hm13 (by omega)
    | succ fu13 ih13 =>
      intro v3_13 v2_13 H locs ls j0_13 j1_13 j2_13 hm13 hP hD hS hl
      refine lv_iload_n hx hb dX7_init_13 rfl (lv_at hl 0 rfl) ?_
      refine lv_aload_n hx hb dX7_init_14 rfl (lv_at hl 3 rfl) ?_
      refine va_alen (v := nI rn) hx hb hE.1 hP 1 0 rfl rfl rfl dX7_init_15 ?_
      refine lv_topi (fun z_1 ez_1 => ?_)
      have iz_1 : z_1.toInt = (rn : Int) := by rw [ez_1]; exact nI_toInt (by omega)
      refine lv_icmp_ge (tgt := 44) hx hb dX7_init_16 (by decide) (fun c_2 => ?_) (fun c_2 => ?_)
      · have ic_2 : z_1.toInt ≤ v3_13.toInt := k_le c_2 rfl rfl
        refine lv_aload_n hx hb dX7_init_44 rfl (lv_at hl 2 rfl) ?_
        refine lv_iload_n hx hb dX7_init_45 rfl (lv_at hl 1 rfl) ?_
        refine va_putF (D := D) (ci := 7) (v := .int v2_13) (ty := .boolean) (C := RX7) (T := TX7) (N := 2) hx hb hG inG_X7 tyX7 tyX7_ok nmX7 hown hE.1 hP hD hS 0 rfl rfl 1 (by decide) (hG _ q_f_X7_13) (fun _ h9 => h9) rfl hin rfl (by decide +kernel) (k_narZ (by omega)) (k_fitZ (by omega)) (Nat.le_of_ble_eq_true rfl) dX7_init_46 (fun H locs hP hD hS => ?_)
        have hP : va_P D vwCl [(o, .inr (7, [.ref t, .int v2_13])), (t, .inl (cy 0, rn, .inl rg))] H := hP
        have hD : va_D A [(o, .inr (7, [.ref t, .int v2_13])), (t, .inl (cy 0, rn, .inl rg))] := hD
        exact KV.rt ⟨(Value.ref t), v2_13⟩ F (hP.sub [0, 1] rfl) (hD.sub [0, 1] (by decide) rfl) hS (show ((Value.ref t) = .ref t) from rfl) (Nat.le_of_ble_eq_true rfl) (Nat.le_of_ble_eq_true rfl) dX7_init_49
      · have ic_2 : v3_13.toInt < z_1.toInt := k_nle c_2 rfl rfl
        refine lv_iload_n hx hb dX7_init_19 rfl (lv_at hl 1 rfl) ?_
        refine lv_if_ne (tgt := 32) hx hb dX7_init_20 (by decide) (fun c_3 => ?_) (fun c_3 => ?_)
        · have ic_3 : v2_13.toInt ≠ 0 := k_ne c_3 rfl (by decide)
          refine lv_iconst (v := 1) hx hb dX7_init_32 (by decide) ?_
          refine lv_goto (tgt := 37) hx hb dX7_init_33 (by decide) ?_
          refine lv_istore_n (lv' := [(2, .int 1), (3, .int v3_13), (0, .ref o), (1, .ref t)]) hx hb dX7_init_37 rfl hl (by decide) rfl (fun ls hl => ?_)
          obtain ⟨z_4, ez_4⟩ : ∃ y : Int32, y = v3_13 + Int32.ofInt 1 := ⟨_, rfl⟩
          have iz_4 : z_4.toInt = v3_13.toInt + 1 := k_addI ez_4 rfl (by decide) (by omega)
          refine lv_iinc (v := z_4) (lv' := [(3, .int z_4), (2, .int 1), (0, .ref o), (1, .ref t)]) hx hb dX7_init_38 hl (k := 1) rfl ez_4.symm (by decide) rfl (fun ls hl => ?_)
          refine lv_goto (tgt := 13) hx hb dX7_init_41 (by decide) ?_
          have lt_5 : (1 : Int32).toInt = 1 := by decide
          exact ih13 z_4 1 _ _ ls (by first | omega | assumption) (by first | omega | assumption) (by first | omega | assumption) (by omega) hP hD hS (lv_sub hl [0, 1, 2, 3] rfl)
        · have ic_3 : v2_13.toInt = 0 := k_eq c_3 rfl (by decide)
          refine lv_aload_n hx hb dX7_init_23 rfl (lv_at hl 3 rfl) ?_
          refine lv_iload_n hx hb dX7_init_24 rfl (lv_at hl 0 rfl) ?_
          refine va_iald hx hb hE.1 hP 1 0 rfl rfl (k_in (by omega)) dX7_init_25 ?_
          refine k_top (z := (rg (Int32.toNatClampNeg v3_13))) rfl ?_
          refine lv_sipush (v := 385) hx hb dX7_init_26 (by decide) ?_
          refine lv_icmp_ne (tgt := 36) hx hb dX7_init_29 (by decide) (fun c_6 => ?_) (fun c_6 => ?_)
          · have ic_6 : (rg (Int32.toNatClampNeg v3_13)).toInt ≠ 385 := k_ne c_6 rfl (by decide)
            refine lv_iconst (v := 0) hx hb dX7_init_36 (by decide) ?_
            refine lv_istore_n (lv' := [(2, .int 0), (3, .int v3_13), (0, .ref o), (1, .ref t)]) hx hb dX7_init_37 rfl hl (by decide) rfl (fun ls hl => ?_)
            obtain ⟨z_7, ez_7⟩ : ∃ y : Int32, y = v3_13 + Int32.ofInt 1 := ⟨_, rfl⟩
            have iz_7 : z_7.toInt = v3_13.toInt + 1 := k_addI ez_7 rfl (by decide) (by omega)
            refine lv_iinc (v := z_7) (lv' := [(3, .int z_7), (2, .int 0), (0, .ref o), (1, .ref t)]) hx hb dX7_init_38 hl (k := 1) rfl ez_7.symm (by decide) rfl (fun ls hl => ?_)
            refine lv_goto (tgt := 13) hx hb dX7_init_41 (by decide) ?_
            have lt_8 : (0 : Int32).toInt = 0 := by decide
            exact ih13 z_7 0 _ _ ls (by first | omega | assumption) (by first | omega | assumption) (by first | omega | assumption) (by omega) hP hD hS (lv_sub hl [0, 1, 2, 3] rfl)
          · have ic_6 : (rg (Int32.toNatClampNeg v3_13)).toInt = 385 := k_eq c_6 rfl (by decide)
            refine lv_iconst (v := 1) hx hb dX7_init_32 (by decide) ?_
            refine lv_goto (tgt := 37) hx hb dX7_init_33 (by decide) ?_
            refine lv_istore_n (lv' := [(2, .int 1), (3, .int v3_13), (0, .ref o), (1, .ref t)]) hx hb dX7_init_37 rfl hl (by decide) rfl (fun ls hl => ?_)
            obtain ⟨z_9, ez_9⟩ : ∃ y : Int32, y = v3_13 + Int32.ofInt 1 := ⟨_, rfl⟩
            have iz_9 : z_9.toInt = v3_13.toInt + 1 := k_addI ez_9 rfl (by decide) (by omega)
            refine lv_iinc (v := z_9) (lv' := [(3, .int z_9), (2, .int 1), (0, .ref o), (1, .ref t)]) hx hb dX7_init_38 hl (k := 1) rfl ez_9.symm (by decide) rfl (fun ls hl => ?_)
            refine lv_goto (tgt := 13) hx hb dX7_init_41 (by decide) ?_
            have lt_10 : (1 : Int32).toInt = 1 := by decide
            exact ih13 z_9 1 _ _ ls (by first | omega | assumption) (by first | omega | assumption) (by first | omega | assumption) (by omega) hP hD hS (lv_sub hl [0, 1, 2, 3] rfl)
  have lt_11 : (0 : Int32).toInt = 0 := by decide
  exact lp13 100000 0 0 _ _ ls (by first | omega | assumption) (by first | omega | assumption) (by first | omega | assumption) (by omega) hP hD hS hl

set_option maxHeartbeats 4000000 in
set_option maxRecDepth 100000 in
/-- a rule of the steps that were read -/
theorem cc_X8_made (l : Launch) (D : va_G) (cy : Nat → ClassId) (kt vt o o_st : Nat) (o_size o_parts : Int32) (g_ost : Nat → Int32) (p0 : 0 ≤ o_size.toInt) (p1 : o_size.toInt ≤ 412) (p2 : SPS True g_ost o_size.toInt) : JR l yX8_made cX8_made 1 (some (.object "StrawButts$Rule")) 2 123 D (kTY cy) [.ref o] [(o, .inr (8, [.ref o_st, .int o_size, .int o_parts])), (o_st, .inl (cy 0, 412, .inl g_ost))] (ZT kt vt) (S := Nat × Nat × Int32 × (Nat → Int32)) (fun u => u.2.1 ≤ 412 ∧ ∀ k : Nat, k < u.2.1 → 0 ≤ (u.2.2.2 k).toInt) (fun u a => [(o, .inr (8, [.ref o_st, .int o_size, .int o_parts])), (o_st, .inl (cy 0, 412, .inl g_ost)), (a, .inr (7, [.ref u.1, .int u.2.2.1])), (u.1, .inl (cy 0, u.2.1, .inl u.2.2.2))]) 2 414 := by
  refine JR.of (by decide) (Nat.le_of_ble_eq_true rfl) (fun p e s m below meth c ls A F hE hP hD hA hS hl hZ => ?_)
  have F : kF p s m meth c cX8_made 1 (some (.object "StrawButts$Rule")) _ RX8 := F
  obtain ⟨hx, hb, hr, hml, hown, hG, hlk⟩ := id F
  have hl : lv_has ls 1 [(0, .ref o)] := hl
  refine va_new (ci := 7) (fs := [.null, .int 0]) (C := RX7) (T := TX7) (N := 2) hx hb hG inG_X7 tyX7 tyX7_ok hown (hG _ q_k_X8_38) (hG _ q_n_X7) (hG _ q_z_X7) hE.1 hP hD hS hA rfl dfX7 (Nat.le_of_ble_eq_true rfl) (Nat.le_of_ble_eq_true rfl) dX8_made_0 (fun a H hP hD hS => ?_)
  have hP : va_P D vwCl [(o, .inr (8, [.ref o_st, .int o_size, .int o_parts])), (o_st, .inl (cy 0, 412, .inl g_ost)), (a, .inr (7, [.null, .int 0]))] H := hP
  have hD : va_D A [(o, .inr (8, [.ref o_st, .int o_size, .int o_parts])), (o_st, .inl (cy 0, 412, .inl g_ost)), (a, .inr (7, [.null, .int 0]))] := hD
  refine lv_dup hx hb dX8_made_3 rfl ?_
  refine lv_aload_n hx hb dX8_made_4 rfl (lv_at hl 0 rfl) ?_
  refine va_get (D := D) (ci := 8) (v := .ref o_st) (C := RX8) (T := TX8) (N := 3) hx hb hG inG_X8 hown hE.1 hP 0 rfl rfl 0 (by decide) (hG _ q_f_X8_13) (fun _ h9 => h9) rfl dX8_made_5 ?_
  refine lv_aload_n hx hb dX8_made_8 rfl (lv_at hl 0 rfl) ?_
  refine va_get (D := D) (ci := 8) (v := .int o_size) (C := RX8) (T := TX8) (N := 3) hx hb hG inG_X8 hown hE.1 hP 0 rfl rfl 1 (by decide) (hG _ q_f_X8_17) (fun _ h9 => h9) rfl dX8_made_9 ?_
  refine jxSR (wr := [(o, .inr (8, [.ref o_st, .int o_size, .int o_parts])), (a, .inr (7, [.null, .int 0]))]) (As := [.ref o_st, .int o_size]) (rest := [.ref a, .ref a]) F hE hP hD hS hA hl.1 ZT_ok hZ (c_copyOf l D cy kt vt o_st g_ost o_size p0 p1) q_m_X8_40 ms_J7_copyOf_59c91 ⟨(Nat.le_of_ble_eq_true rfl), (Nat.le_of_ble_eq_true rfl)⟩ [1] [0, 2] (by decide) rfl rfl (by decide) (by decide) rfl rfl (Nat.le_of_ble_eq_true rfl) ⟨(Nat.le_of_ble_eq_true rfl), (Nat.le_of_ble_eq_true rfl)⟩ dX8_made_12 (fun u b H locs eu hP hD hS => ?_)
  obtain ⟨k, h⟩ := u
  obtain ⟨e1, e2⟩ := eu
  have e1 : (k : Int) = o_size.toInt := e1
  have e2 : ∀ j : Nat, j < k → h j = g_ost j := e2
  have hk : k ≤ 412 := by omega
  have hP : va_P D vwCl [(o, .inr (8, [.ref o_st, .int o_size, .int o_parts])), (a, .inr (7, [.null, .int 0])), (o_st, .inl (cy 0, 412, .inl g_ost)), (b, .inl (cy 0, k, .inl h))] H := hP
  have hD : va_D A [(o, .inr (8, [.ref o_st, .int o_size, .int o_parts])), (a, .inr (7, [.null, .int 0])), (o_st, .inl (cy 0, 412, .inl g_ost)), (b, .inl (cy 0, k, .inl h))] := hD
  refine kwII (wr := [(o, .inr (8, [.ref o_st, .int o_size, .int o_parts])), (o_st, .inl (cy 0, 412, .inl g_ost))]) (As := [.ref b]) (rest := [.ref a]) F hE hP hD hS hA hl.1 (cc_X7_init l D cy (o := a) (t := b) (o_sv := Value.null) (o_ra := 0) (rn := k) (rg := h) (hn4 := hk)) q_m_X8_46 mi_X7_init ⟨(Nat.le_of_ble_eq_true rfl), (Nat.le_of_ble_eq_true rfl)⟩ [1, 3] [0, 2] (by decide) rfl rfl (by decide) (by decide) rfl rfl (Nat.le_of_ble_eq_true rfl) ⟨(Nat.le_of_ble_eq_true rfl), (Nat.le_of_ble_eq_true rfl)⟩ dX8_made_15 (fun u H locs eu hP hD hS => ?_)
  obtain ⟨sv, ra⟩ := u
  have eu : sv = .ref b := eu
  subst eu
  have hP : va_P D vwCl [(o, .inr (8, [.ref o_st, .int o_size, .int o_parts])), (o_st, .inl (cy 0, 412, .inl g_ost)), (a, .inr (7, [.ref b, .int ra])), (b, .inl (cy 0, k, .inl h))] H := hP
  have hD : va_D A [(o, .inr (8, [.ref o_st, .int o_size, .int o_parts])), (o_st, .inl (cy 0, 412, .inl g_ost)), (a, .inr (7, [.ref b, .int ra])), (b, .inl (cy 0, k, .inl h))] := hD
  exact JR.rt (wf := fun (u : Nat × Nat × Int32 × (Nat → Int32)) a => [(o, .inr (8, [.ref o_st, .int o_size, .int o_parts])), (o_st, .inl (cy 0, 412, .inl g_ost)), (a, .inr (7, [.ref u.1, .int u.2.2.1])), (u.1, .inl (cy 0, u.2.1, .inl u.2.2.2))]) ⟨b, k, ra, h⟩ F (Or.inl ⟨_, rfl⟩) hP hD hS ⟨hk, fun j hj => by have hj : j < k := hj; show 0 ≤ (h j).toInt; rw [e2 j hj]; exact p2.2 j (by omega)⟩ (Nat.le_of_ble_eq_true rfl) (Nat.le_of_ble_eq_true rfl) dX8_made_18
