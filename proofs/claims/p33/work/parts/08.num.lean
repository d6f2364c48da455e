/-! ===== ints as whole numbers; long answers ===== -/
theorem k_bm {a : Int} (h : -2147483648 ≤ a ∧ a ≤ 2147483647) : a.bmod (2 ^ 32) = a := Int.bmod_eq_of_le (by omega) (by omega)
theorem k_addI {x y z : Int32} {a b : Int} (ez : z = x + y) (ha : x.toInt = a) (hb : y.toInt = b) (h : -2147483648 ≤ a + b ∧ a + b ≤ 2147483647) : z.toInt = a + b := by
  subst ez; rw [Int32.toInt_add, ha, hb]; exact k_bm h
theorem k_subI {x y z : Int32} {a b : Int} (ez : z = x - y) (ha : x.toInt = a) (hb : y.toInt = b) (h : -2147483648 ≤ a - b ∧ a - b ≤ 2147483647) : z.toInt = a - b := by
  subst ez; rw [Int32.toInt_sub, ha, hb]; exact k_bm h
theorem k_mulI {x y z : Int32} {a b : Int} (ez : z = x * y) (ha : x.toInt = a) (hb : y.toInt = b) (h : -2147483648 ≤ a * b ∧ a * b ≤ 2147483647) : z.toInt = a * b := by
  subst ez; rw [Int32.toInt_mul, ha, hb]; exact k_bm h
theorem k_divI {x y z : Int32} {a b : Int} (ez : z = x / y) (ha : x.toInt = a) (hb : y.toInt = b) (h0 : 0 ≤ a) (h : 0 < b) : z.toInt = a / b := by
  subst ez
  have hy : y ≠ -1 := fun q => by
    have : (-1 : Int32).toInt = -1 := by decide
    rw [q, this] at hb; omega
  rw [Int32.toInt_div_of_ne_right _ _ hy, ha, hb, Int.tdiv_eq_ediv_of_nonneg h0]
theorem k_remI {x y z : Int32} {b : Int} (ez : z = x - x / y * y) (hb : y.toInt = b) (h : 0 < b) : -b < z.toInt ∧ z.toInt < b ∧ (0 ≤ x.toInt → z.toInt = x.toInt % b) := by
  have hy : y ≠ -1 := fun q => by
    have : (-1 : Int32).toInt = -1 := by decide
    rw [q, this] at hb; omega
  have e1 : (x / y).toInt = x.toInt.tdiv b := by rw [Int32.toInt_div_of_ne_right _ _ hy, hb]
  have hx1 := Int32.le_toInt x
  have hx2 := Int32.toInt_lt x
  have e4 : x.toInt.tdiv b * b = x.toInt - x.toInt.tmod b := by
    have q := Int.mul_tdiv_add_tmod x.toInt b
    rw [Int.mul_comm] at q
    omega
  have m1 : -b < x.toInt.tmod b ∧ x.toInt.tmod b < b := by
    refine ⟨?_, Int.tmod_lt_of_pos _ h⟩
    have q := Int.lt_tmod_of_pos x.toInt h
    exact q
  have m2 : x.toInt.natAbs ≤ 2147483648 := by omega
  have m3 : (x.toInt.tmod b).natAbs ≤ x.toInt.natAbs := by
    rw [Int.natAbs_tmod]; exact Nat.mod_le _ _
  have m4 : 0 ≤ x.toInt → 0 ≤ x.toInt.tmod b := fun q => Int.tmod_nonneg _ q
  have m5 : x.toInt ≤ 0 → x.toInt.tmod b ≤ 0 := fun q => by
    have q2 := Int.tmod_nonneg (a := -x.toInt) b (by omega)
    rw [Int.neg_tmod] at q2
    omega
  have e2 : (x / y * y).toInt = x.toInt - x.toInt.tmod b := by
    rw [Int32.toInt_mul, e1, hb, e4]; exact k_bm (by omega)
  have e3 : z.toInt = x.toInt.tmod b := by
    rw [k_subI ez rfl e2 (by omega)]; omega
  refine ⟨by omega, by omega, fun q => ?_⟩
  rw [e3, Int.tmod_eq_emod_of_nonneg q]
theorem k_le {x y : Int32} {a b : Int} (h : x ≤ y) (ha : x.toInt = a) (hb : y.toInt = b) : a ≤ b := by rw [← ha, ← hb]; exact Int32.le_iff_toInt_le.mp h
theorem k_lt {x y : Int32} {a b : Int} (h : x < y) (ha : x.toInt = a) (hb : y.toInt = b) : a < b := by rw [← ha, ← hb]; exact Int32.lt_iff_toInt_lt.mp h
theorem k_nle {x y : Int32} {a b : Int} (h : ¬ x ≤ y) (ha : x.toInt = a) (hb : y.toInt = b) : b < a := k_lt (Int32.not_le.mp h) hb ha
theorem k_nlt {x y : Int32} {a b : Int} (h : ¬ x < y) (ha : x.toInt = a) (hb : y.toInt = b) : b ≤ a := k_le (Int32.not_lt.mp h) hb ha
theorem k_eq {x y : Int32} {a b : Int} (h : x = y) (ha : x.toInt = a) (hb : y.toInt = b) : a = b := by rw [← ha, ← hb, h]
theorem k_ne {x y : Int32} {a b : Int} (h : ¬ x = y) (ha : x.toInt = a) (hb : y.toInt = b) : a ≠ b := fun q => h (Int32.toInt_inj.mp (by rw [ha, hb]; exact q))
theorem k_nz {y : Int32} (h : y.toInt ≠ 0) : ¬ y = 0 := fun q => h (by rw [q]; decide)
theorem k_in {i : Int32} {n : Nat} (h1 : 0 ≤ i.toInt ∧ i.toInt < n) : vp_in i n := vp_in_iff.mpr h1
theorem k_cl (i : Int32) : i.toNatClampNeg = i.toInt.toNat := rfl
theorem k_clE {i : Int32} {k : Nat} (h : i.toInt = k) : i.toNatClampNeg = k := by rw [k_cl, h]; rfl
theorem k_lit {i : Int32} {k : Int} (x : Int32) (hx : x.toInt = k) (h : i.toInt = k) : i = x := Int32.toInt_inj.mp (h.trans hx.symm)
theorem k_narZ {v : Int32} (h : v.toInt = 0 ∨ v.toInt = 1) : narrow .boolean (.int v) = .int v := by
  rcases h with h | h
  · rw [k_lit 0 (by decide) h]; rfl
  · rw [k_lit 1 (by decide) h]; rfl
/-- a method that answers a long -/
def KL (l : Launch) (y : MethodName) (cc : ByteArray) (nL : Nat) (ret : Option FieldType) (fr lo : Nat) (D : va_G) (T : List (ClassId × FieldType)) (as : List Value) (w : va_W) {S : Type} (post : Int64 → S → Prop) (wf : S → va_W) (mc ms : Nat) : Prop := ∀ sz : Nat, Met l y (kw y cc nL ret) (kRm fr lo mc ms) (va_Pc as (kWc D T w sz)) (va_Ql post (kBw D (va_A w sz) wf) (va_A w sz)) mc ms (va_A w sz)
theorem KL.of {l : Launch} {y : MethodName} {fr lo mc ms : Nat} {D : va_G} {T : List (ClassId × FieldType)} {as : List Value} {w : va_W} {S : Type} {post : Int64 → S → Prop} {wf : S → va_W} {cc : ByteArray} {maxL : Nat} {ret : Option FieldType} (hy : plainName y.cls = true) (hlen : (lg_sl as).length ≤ maxL)
    (body : ∀ (p : Program) (e : Env) (s : State) (m : MethodId) (below : List Frame) (meth : Method) (c : Code) (ls : Array Slot) (A : Nat → Prop), kF p s m meth c cc maxL ret as.toArray y.cls → kE D T s → va_P D vwCl w s.heap → va_D A w → (∀ q : Nat, s.heap.size ≤ q → A q) → va_S A s.heap s.heap [] → lv_has ls maxL (lv_args 0 as) → W p l e (kRm fr lo mc ms) s m as.toArray below meth c s.heap [] 0 0 (MQ below (va_Ql post (kBw D A wf) A) as.toArray s mc ms A) (F0 m 0 ls [])) : KL l y cc maxL ret fr lo D T as w post wf mc ms := by
  intro sz
  refine Met.ofW (cc := cc) (maxL := maxL) (ret := ret) hy rfl ?_
  intro p e s m args below meth c s₁ B hml hv
  obtain ⟨rfl, rfl, hP, hE, hD0⟩ := hv
  have hl := lv_entry as (n := maxL) hlen
  rw [lg_entry_eq]
  exact body p e s m below meth c _ (va_A w s.heap.size) ⟨B.exec, B.bytes, B.returns, hml, findClass_of_methodNamed B.named, fun w h => atoms_spec (ws := kw y cc maxL ret) B.pre w (List.mem_cons_of_mem _ h), B.notSynchronized⟩ hE hP (hD0.self (sz := s.heap.size)) (fun q h => Or.inr h) va_S.rf hl
section KN
variable {p : Program} {l : Launch} {e : Env} {R : Room} {s : State} {m : MethodId} {args : Array Value} {below : List Frame} {meth : Method} {c : Code} {H : Heap} {locs : List Loc} {cells slots : Nat} {Q : State → Prop}
variable {cc bytes : ByteArray} {pc nL maxL index n ci : Nat} {ls : Array Slot} {rest st As : List Value} {D : va_G} {T : List (ClassId × FieldType)} {A : Nat → Prop} {w W0 wr : va_W} {H0 : Heap} {ret ret' : Option FieldType} {b : Nat} {fs : List Value} {cq : vw_C}
variable {y : MethodName} {fr lo mc ms : Nat} {own host : String}
theorem KL.rt {S : Type} {post : Int64 → S → Prop} {wf : S → va_W} {v : Int64} (u : S) (F : kF p s m meth c cc nL (some .long) args own) (hP : va_P D vwCl (wf u) H) (hD : va_D A (wf u)) (hS : va_S A s.heap H locs) (hp : post v u) (hc : cells ≤ mc) (hs : slots ≤ ms) (hdg : decode cc pc = .ok (.lreturn, 1)) : W p l e R s m args below meth c H locs cells slots (MQ below (va_Ql post (kBw D A wf) A) args s mc ms A) (F0 m pc ls [.long v]) :=
  W.widen hc hs (W.lret F.1 F.2.1 F.2.2.1 (fun t ht _ => ⟨⟨v, u, rfl, hp, by rw [ht]; exact hP, hD⟩, hS.F ht⟩) hS.2.2 hdg F.2.2.2.2.2.2)
theorem kwL {S : Type} {post : Int64 → S → Prop} {wf : S → va_W} {a : Array Value} (hr : va_Run p l e R s m args below meth c H locs cells slots mc ms (F0 m pc ls st) rest (va_Ql post (kBw D (va_A w H.size) wf) (va_A w H.size) a) (va_A w H.size)) (hP : va_P D vwCl W0 H) (hD : va_D A W0) (hS : va_S A H0 H locs) (hA : ∀ q : Nat, H0.size ≤ q → A q) (isC isR : List Nat) (hC : isC.map (fun i => W0[i]?) = w.map some) (hRr : isR.map (fun i => W0[i]?) = wr.map some) (hn1 : va_nd isR = true) (hdis : ∀ i ∈ isR, i ∉ isC)
    (kk : ∀ (r : Int64) (u : S) (H1 : Heap) (locs1 : List Loc), post r u → va_P D vwCl (wr ++ wf u) H1 → va_D A (wr ++ wf u) → va_S A H0 H1 locs1 → W p l e R s m args below meth c H1 locs1 (cells + mc) (slots + ms) Q (F0 m (pc + 3) ls (.long r :: rest))) : W p l e R s m args below meth c H locs cells slots Q (F0 m pc ls st) := by
  have hFc := va_free (wc := w) hD hS hA isC hC
  refine va_calll hr hS (fun q _ h => hFc q h) hFc (fun r u t H1 locs1 ht hvm hw hB hz1 hk1 hS1 => ?_)
  obtain ⟨hP1, hD1⟩ := hB
  rw [ht] at hP1
  obtain ⟨hP2, hD2⟩ := va_join (wr := wr) (w1 := wf u) hP hD isC isR hC hRr hn1 hdis hk1 hFc hP1 hD1
  exact kk r u H1 locs1 hw hP2 hD2 hS1
theorem kwVL {S : Type} {post : Int64 → S → Prop} {wf : S → va_W} {C : String} (F : kF p s m meth c cc nL ret args own) (hE : kE D T s) (hP : va_P D vwCl W0 H) (hD : va_D A W0) (hS : va_S A H0 H locs) (hA : ∀ q : Nat, H0.size ≤ q → A q) (hl : ls.size = nL) (hM : KL l y bytes maxL ret' fr lo D T (.ref b :: As) w post wf mc ms) (hm : Cond.methodLink own index y ∈ kGW) (hY : kMV C y bytes maxL ret' n) (hR : fr + 1 ≤ R.frames ∧ 8 + (maxL + 11) + lo ≤ R.locals) (isC isR : List Nat) (hnC : va_nd isC = true) (hC : isC.map (fun i => W0[i]?) = w.map some) (hRr : isR.map (fun i => W0[i]?) = wr.map some) (hn1 : va_nd isR = true) (hdis : ∀ i ∈ isR, i ∉ isC) (hb0 : w[0]? = some (b, .inr (ci, fs))) (hci : vwCl[ci]? = some cq) (hq : cq.1 = C) (hn : As.length = n) (hst : st = As.reverse ++ .ref b :: rest) (hW : (rest.map fun v => v.category).sum ≤ 8) (hf : cells + mc ≤ R.cells ∧ slots + ms ≤ R.slots) (hdg : decode cc pc = .ok (.invokevirtual index, 3))
    (kk : ∀ (r : Int64) (u : S) (H1 : Heap) (locs1 : List Loc), post r u → va_P D vwCl (wr ++ wf u) H1 → va_D A (wr ++ wf u) → va_S A H0 H1 locs1 → W p l e R s m args below meth c H1 locs1 (cells + mc) (slots + ms) Q (F0 m (pc + 3) ls (.long r :: rest))) : W p l e R s m args below meth c H locs cells slots Q (F0 m pc ls st) := by
  obtain ⟨f1, f2, f3, f4, f5, f6, f7⟩ := F
  subst hq
  exact kwL (va_runV (As := As) (rest := rest) (nL := nL) ⟨f1, f2, f4, f5, f6⟩ (hM H.size) (cwV n f6 (k_gV hm hY) rfl rfl rfl hY.2.2.2.2 hR) ⟨kWc.blind, va_recv hE.1 (hP.sub isC (k_pick hC)) hci hb0, k_pre hE hP hD rfl isC hnC hC⟩ rfl hn hl hst (lv_room hW) hdg hf) hP hD hS hA isC isR hC hRr hn1 hdis kk
theorem kwSL {S : Type} {post : Int64 → S → Prop} {wf : S → va_W} (F : kF p s m meth c cc nL ret args own) (hE : kE D T s) (hP : va_P D vwCl W0 H) (hD : va_D A W0) (hS : va_S A H0 H locs) (hA : ∀ q : Nat, H0.size ≤ q → A q) (hl : ls.size = nL) (hM : KL l y bytes maxL ret' fr lo D T As w post wf mc ms) (hm : Cond.methodLink own index y ∈ kGW) (hY : kMS y bytes maxL ret' n) (hR : fr + 1 ≤ R.frames ∧ 8 + (maxL + 11) + lo ≤ R.locals) (isC isR : List Nat) (hnC : va_nd isC = true) (hC : isC.map (fun i => W0[i]?) = w.map some) (hRr : isR.map (fun i => W0[i]?) = wr.map some) (hn1 : va_nd isR = true) (hdis : ∀ i ∈ isR, i ∉ isC) (hn : As.length = n) (hst : st = As.reverse ++ rest) (hW : (rest.map fun v => v.category).sum ≤ 8) (hf : cells + mc ≤ R.cells ∧ slots + ms ≤ R.slots) (hdg : decode cc pc = .ok (.invokestatic index, 3))
    (kk : ∀ (r : Int64) (u : S) (H1 : Heap) (locs1 : List Loc), post r u → va_P D vwCl (wr ++ wf u) H1 → va_D A (wr ++ wf u) → va_S A H0 H1 locs1 → W p l e R s m args below meth c H1 locs1 (cells + mc) (slots + ms) Q (F0 m (pc + 3) ls (.long r :: rest))) : W p l e R s m args below meth c H locs cells slots Q (F0 m pc ls st) := by
  obtain ⟨f1, f2, f3, f4, f5, f6, f7⟩ := F
  exact kwL (va_runS (As := As) (rest := rest) (nL := nL) ⟨f1, f2, f4, f5, f6⟩ (hM H.size) (va_cwS n f6 (k_gS hm hY) rfl rfl rfl hY.2.2.2 hR) ⟨kWc.blind, k_pre hE hP hD rfl isC hnC hC⟩ rfl hn hl hst (lv_room hW) hdg hf) hP hD hS hA isC isR hC hRr hn1 hdis kk
/-- calls of static methods that write and answer an int -/
theorem kwSI {S : Type} {post : Int32 → S → Prop} {wf : S → va_W} (F : kF p s m meth c cc nL ret args own) (hE : kE D T s) (hP : va_P D vwCl W0 H) (hD : va_D A W0) (hS : va_S A H0 H locs) (hA : ∀ q : Nat, H0.size ≤ q → A q) (hl : ls.size = nL) (hM : KI l y bytes maxL ret' fr lo D T As w post wf mc ms) (hm : Cond.methodLink own index y ∈ kGW) (hY : kMS y bytes maxL ret' n) (hR : fr + 1 ≤ R.frames ∧ 8 + (maxL + 11) + lo ≤ R.locals) (isC isR : List Nat) (hnC : va_nd isC = true) (hC : isC.map (fun i => W0[i]?) = w.map some) (hRr : isR.map (fun i => W0[i]?) = wr.map some) (hn1 : va_nd isR = true) (hdis : ∀ i ∈ isR, i ∉ isC) (hn : As.length = n) (hst : st = As.reverse ++ rest) (hW : (rest.map fun v => v.category).sum ≤ 8) (hf : cells + mc ≤ R.cells ∧ slots + ms ≤ R.slots) (hdg : decode cc pc = .ok (.invokestatic index, 3))
    (kk : ∀ (r : Int32) (u : S) (H1 : Heap) (locs1 : List Loc), post r u → va_P D vwCl (wr ++ wf u) H1 → va_D A (wr ++ wf u) → va_S A H0 H1 locs1 → W p l e R s m args below meth c H1 locs1 (cells + mc) (slots + ms) Q (F0 m (pc + 3) ls (.int r :: rest))) : W p l e R s m args below meth c H locs cells slots Q (F0 m pc ls st) := by
  obtain ⟨f1, f2, f3, f4, f5, f6, f7⟩ := F
  exact kwI (va_runS (As := As) (rest := rest) (nL := nL) ⟨f1, f2, f4, f5, f6⟩ (hM H.size) (va_cwS n f6 (k_gS hm hY) rfl rfl rfl hY.2.2.2 hR) ⟨kWc.blind, k_pre hE hP hD rfl isC hnC hC⟩ rfl hn hl hst (lv_room hW) hdg hf) hP hD hS hA isC isR hC hRr hn1 hdis kk
end KN
