/-! ===== this claim's own words: the tables' words that a call keeps, what every state keeps, contracts of methods that write nothing, contracts of methods that write ===== -/
def kGW : List Cond := lw_tbl.filter goodWord
theorem kin {w : Cond} (h : w ∈ lw_tbl) (g : goodWord w = true) : w ∈ kGW := List.mem_filter.mpr ⟨h, g⟩
theorem kin1 {i : Nat} {w : Cond} (h : tables_1_1[i]? = some w) (g : goodWord w = true) : w ∈ kGW := kin (List.mem_append_right _ (show w ∈ tables_1 from List.mem_append_left _ (List.mem_of_getElem? h))) g
theorem kin2 {i : Nat} {w : Cond} (h : tables_1_2[i]? = some w) (g : goodWord w = true) : w ∈ kGW := kin (List.mem_append_right _ (show w ∈ tables_1 from List.mem_append_right _ (List.mem_append_left _ (List.mem_of_getElem? h)))) g
theorem kin3 {i : Nat} {w : Cond} (h : tables_1_3[i]? = some w) (g : goodWord w = true) : w ∈ kGW := kin (List.mem_append_right _ (show w ∈ tables_1 from List.mem_append_right _ (List.mem_append_right _ (List.mem_append_left _ (List.mem_of_getElem? h))))) g
theorem kin4 {i : Nat} {w : Cond} (h : tables_1_4[i]? = some w) (g : goodWord w = true) : w ∈ kGW := kin (List.mem_append_right _ (show w ∈ tables_1 from List.mem_append_right _ (List.mem_append_right _ (List.mem_append_right _ (List.mem_append_left _ (List.mem_of_getElem? h)))))) g
theorem kin5 {i : Nat} {w : Cond} (h : tables_1_5[i]? = some w) (g : goodWord w = true) : w ∈ kGW := kin (List.mem_append_right _ (show w ∈ tables_1 from List.mem_append_right _ (List.mem_append_right _ (List.mem_append_right _ (List.mem_append_right _ (List.mem_append_left _ (List.mem_of_getElem? h))))))) g
theorem kin6 {i : Nat} {w : Cond} (h : tables_1_6[i]? = some w) (g : goodWord w = true) : w ∈ kGW := kin (List.mem_append_right _ (show w ∈ tables_1 from List.mem_append_right _ (List.mem_append_right _ (List.mem_append_right _ (List.mem_append_right _ (List.mem_append_right _ (List.mem_append_left _ (List.mem_of_getElem? h)))))))) g
theorem kin7 {i : Nat} {w : Cond} (h : tables_1_7[i]? = some w) (g : goodWord w = true) : w ∈ kGW := kin (List.mem_append_right _ (show w ∈ tables_1 from List.mem_append_right _ (List.mem_append_right _ (List.mem_append_right _ (List.mem_append_right _ (List.mem_append_right _ (List.mem_append_right _ (List.mem_of_getElem? h)))))))) g
theorem kinp {i : Nat} {q : MethodName × Nat} (h : lw_privs[i]? = some q) (g : goodWord (.selects q.1.cls q.1 q.1) = true) : Cond.selects q.1.cls q.1 q.1 ∈ kGW := kin (List.mem_append_left _ (List.mem_map.mpr ⟨q, List.mem_of_getElem? h, rfl⟩)) g
theorem kG_good : GoodIn kGW kGW := fun w h => ⟨h, good_of_word (List.mem_filter.mp h).2⟩
/-- a method's words: its code, and all that the tables say -/
abbrev kw (y : MethodName) (cc : ByteArray) (n : Nat) (ret : Option FieldType) : List Cond := .code y cc n ret :: kGW
def kMV (C : String) (y : MethodName) (bytes : ByteArray) (maxL : Nat) (ret : Option FieldType) (n : Nat) : Prop := Cond.instanceMethod y ∈ kGW ∧ Cond.selects C y y ∈ kGW ∧ Cond.initialized C ∈ kGW ∧ Cond.code y bytes maxL ret ∈ kGW ∧ (y.cls = C ∧ y.cls ≠ "java/lang/invoke/MethodHandle" ∧ y.cls ≠ "java/lang/invoke/VarHandle" ∧ (parseMethodDescriptor y.desc).map (fun d => d.parameters.length) = some n)
def kMS (y : MethodName) (bytes : ByteArray) (maxL : Nat) (ret : Option FieldType) (n : Nat) : Prop := Cond.static y ∈ kGW ∧ Cond.initialized y.cls ∈ kGW ∧ Cond.code y bytes maxL ret ∈ kGW ∧ (y.cls ≠ "java/lang/invoke/MethodHandle" ∧ y.cls ≠ "java/lang/invoke/VarHandle" ∧ (parseMethodDescriptor y.desc).map (fun d => d.parameters.length) = some n)
def kMI (y : MethodName) (bytes : ByteArray) (maxL : Nat) (n : Nat) : Prop := Cond.instanceMethod y ∈ kGW ∧ Cond.initialized y.cls ∈ kGW ∧ Cond.code y bytes maxL none ∈ kGW ∧ y.name = "<init>" ∧ (y.cls ≠ "java/lang/invoke/MethodHandle" ∧ y.cls ≠ "java/lang/invoke/VarHandle" ∧ (parseMethodDescriptor y.desc).map (fun d => d.parameters.length) = some n)
theorem k_gW {y : MethodName} {bytes : ByteArray} {maxL : Nat} {ret : Option FieldType} (h : Cond.code y bytes maxL ret ∈ kGW) : GoodIn kGW (kw y bytes maxL ret) := fun w hw => (List.mem_cons.mp hw).elim (fun e => e ▸ kG_good _ h) (fun h => kG_good w h)
theorem k_gV {own C : String} {index : Nat} {y : MethodName} {bytes : ByteArray} {maxL n : Nat} {ret : Option FieldType} (hm : Cond.methodLink own index y ∈ kGW) (h : kMV C y bytes maxL ret n) : GoodIn kGW (wsV own index C y (kw y bytes maxL ret)) := by
  intro w hw
  unfold wsV at hw
  rcases List.mem_append.mp hw with q | q
  · refine kG_good w ?_
    simp only [List.mem_cons, List.not_mem_nil, or_false] at q
    rcases q with rfl | rfl | rfl | rfl
    · exact hm
    · exact h.1
    · exact h.2.1
    · exact h.2.2.1
  · exact k_gW h.2.2.2.1 w q
theorem k_gS {own : String} {index : Nat} {y : MethodName} {bytes : ByteArray} {maxL n : Nat} {ret : Option FieldType} (hm : Cond.methodLink own index y ∈ kGW) (h : kMS y bytes maxL ret n) : GoodIn kGW (va_wsS own index y (kw y bytes maxL ret)) := by
  intro w hw
  unfold va_wsS at hw
  rcases List.mem_append.mp hw with q | q
  · refine kG_good w ?_
    simp only [List.mem_cons, List.not_mem_nil, or_false] at q
    rcases q with rfl | rfl | rfl
    · exact hm
    · exact h.1
    · exact h.2.1
  · exact k_gW h.2.2.1 w q
def kNest : List (String × Nat × MethodName × String) := [(RX11, 9, yX10_init, RX11), (RX11, 18, yX3_init, RX11), (RX3, 11, yX1_init, RX11), (RX11, 25, yX8_init, RX11), (RX11, 42, yX4_init, RX11), (RX4, 11, yX1_init, RX11), (RX4, 23, yX5_init, RX11), (RX11, 53, yX0_init, RX11), (RX11, 60, yX6_init, RX11), (RX6, 11, yX1_init, RX11), (RX11, 67, yX2_init, RX11), (RX11, 74, yX9_init, RX11), (RX3, 85, yX11_within, RX11), (RX1, 27, yX11_within, RX11), (RX9, 52, yX11_within, RX11)]
def kNN (U : State) : Prop := ∀ q ∈ kNest, va_Nw (.methodLinkNest q.1 q.2.1 q.2.2.1 q.2.2.2) U
theorem kNN.warm {s U : State} (hW : s.WarmedH U.vm) (h : kNN s) : kNN U := fun q hq => va_Nw.warmM hW (h q hq)
theorem kNN.same {s U : State} (hv : s.vm = U.vm) (h : kNN s) : kNN U := fun q hq => va_Nw.same rfl hv (h q hq)
def kE (D : va_G) (T : List (ClassId × FieldType)) (U : State) : Prop := va_K D vwCl T U ∧ kNN U ∧ va_AO "StrawButts$Moment" U ∧ va_AO "StrawButts$Rule" U ∧ va_AOA .int U
theorem kE.warm {D : va_G} {T : List (ClassId × FieldType)} {s U : State} (hW : s.WarmedH U.vm) (h : kE D T s) : kE D T U := ⟨va_K.moved hW.alike h.1, h.2.1.warm hW, va_AO.moved hW.alike h.2.2.1, va_AO.moved hW.alike h.2.2.2.1, va_AOA.moved hW.alike h.2.2.2.2⟩
theorem kE.calling {D : va_G} {T : List (ClassId × FieldType)} {U : State} {g : JFrame} {mk : MethodId} {a : Array Value} (h : kE D T U) : kE D T (U.calling g mk a) := ⟨va_K.moved (u := U) (U := U.calling g mk a) (Vm.Alike.refl U.vm) h.1, kNN.same (s := U) rfl h.2.1, va_AO.moved (u := U) (U := U.calling g mk a) (Vm.Alike.refl U.vm) h.2.2.1, va_AO.moved (u := U) (U := U.calling g mk a) (Vm.Alike.refl U.vm) h.2.2.2.1, va_AOA.moved (u := U) (U := U.calling g mk a) (Vm.Alike.refl U.vm) h.2.2.2.2⟩
/-- what holds of a method's frame all along -/
def kF (p : Program) (s : State) (m : MethodId) (meth : Method) (c : Code) (cc : ByteArray) (nL : Nat) (ret : Option FieldType) (args : Array Value) (own : String) : Prop := p.tables.exec = Jvm.exec ∧ c.code = cc ∧ meth.sig.returnType = ret ∧ c.maxLocals = nL ∧ s.vm.findClass own = some m.cls ∧ (∀ w ∈ kGW, w.before args s = true) ∧ meth.locks = false
abbrev kR (fr lo : Nat) : Room := { frames := fr, cells := 0, slots := 0, locals := lo }
abbrev kRm (fr lo mc ms : Nat) : Room := { frames := fr, cells := mc, slots := ms, locals := lo }
def kPc (D : va_G) (T : List (ClassId × FieldType)) (w : va_W) (U : State) : Prop := va_P D vwCl w U.heap ∧ kE D T U
def kQ (post : Int32 → Prop) : Array Value → State → Outcome → State → Prop := fun _ st oc t => ∃ r : Int32, oc = .returned (some (.int r)) ∧ post r ∧ t.heap = st.heap
/-- a method that writes nothing: its answer -/
def KP (l : Launch) (y : MethodName) (cc : ByteArray) (nL : Nat) (ret : Option FieldType) (fr lo : Nat) (D : va_G) (T : List (ClassId × FieldType)) (as : List Value) (w : va_W) (post : Int32 → Prop) : Prop := Met l y (kw y cc nL ret) (kR fr lo) (va_Pc as (kPc D T w)) (kQ post) 0 0 (fun _ => False)
def kWc (D : va_G) (T : List (ClassId × FieldType)) (w : va_W) (sz : Nat) (U : State) : Prop := U.heap.size = sz ∧ va_P D vwCl w U.heap ∧ kE D T U ∧ va_D (fun _ => True) w
def kBw {S : Type} (D : va_G) (A : Nat → Prop) (wf : S → va_W) (u : S) (t : State) : Prop := va_P D vwCl (wf u) t.heap ∧ va_D A (wf u)
/-- a method that writes: its answer, its cells behind it -/
def KI (l : Launch) (y : MethodName) (cc : ByteArray) (nL : Nat) (ret : Option FieldType) (fr lo : Nat) (D : va_G) (T : List (ClassId × FieldType)) (as : List Value) (w : va_W) {S : Type} (post : Int32 → S → Prop) (wf : S → va_W) (mc ms : Nat) : Prop := ∀ sz : Nat, Met l y (kw y cc nL ret) (kRm fr lo mc ms) (va_Pc as (kWc D T w sz)) (va_Qi post (kBw D (va_A w sz) wf) (va_A w sz)) mc ms (va_A w sz)
def KV (l : Launch) (y : MethodName) (cc : ByteArray) (nL : Nat) (fr lo : Nat) (D : va_G) (T : List (ClassId × FieldType)) (as : List Value) (w : va_W) {S : Type} (post : S → Prop) (wf : S → va_W) (mc ms : Nat) : Prop := ∀ sz : Nat, Met l y (kw y cc nL none) (kRm fr lo mc ms) (va_Pc as (kWc D T w sz)) (va_Qv post (kBw D (va_A w sz) wf) (va_A w sz)) mc ms (va_A w sz)
theorem kPc.blind {D : va_G} {T : List (ClassId × FieldType)} {w : va_W} {as : List Value} : FrameBlind (va_Pc as (kPc D T w)) := fun a U g mk q => ⟨q.1, q.2.1, q.2.2.calling⟩
theorem kWc.blind {D : va_G} {T : List (ClassId × FieldType)} {w : va_W} {as : List Value} {sz : Nat} : FrameBlind (va_Pc as (kWc D T w sz)) := fun a U g mk q => ⟨q.1, q.2.1, q.2.2.1, q.2.2.2.1.calling, q.2.2.2.2⟩
theorem KP.of {l : Launch} {y : MethodName} {fr lo : Nat} {D : va_G} {T : List (ClassId × FieldType)} {as : List Value} {w : va_W} {post : Int32 → Prop} {cc : ByteArray} {maxL : Nat} {ret : Option FieldType} (hy : plainName y.cls = true) (hlen : (lg_sl as).length ≤ maxL)
    (body : ∀ (p : Program) (e : Env) (s : State) (m : MethodId) (below : List Frame) (meth : Method) (c : Code) (ls : Array Slot), kF p s m meth c cc maxL ret as.toArray y.cls → kE D T s → va_P D vwCl w s.heap → lv_has ls maxL (lv_args 0 as) → W p l e (kR fr lo) s m as.toArray below meth c s.heap [] 0 0 (MQ below (kQ post) as.toArray s 0 0 (fun _ => False)) (F0 m 0 ls [])) : KP l y cc maxL ret fr lo D T as w post := by
  refine Met.ofW (cc := cc) (maxL := maxL) (ret := ret) hy rfl ?_
  intro p e s m args below meth c s₁ B hml hv
  obtain ⟨rfl, hP, hE⟩ := hv
  have hl := lv_entry as (n := maxL) hlen
  rw [lg_entry_eq]
  exact body p e s m below meth c _ ⟨B.exec, B.bytes, B.returns, hml, findClass_of_methodNamed B.named, fun w h => atoms_spec (ws := kw y cc maxL ret) B.pre w (List.mem_cons_of_mem _ h), B.notSynchronized⟩ hE hP hl
theorem KI.of {l : Launch} {y : MethodName} {fr lo mc ms : Nat} {D : va_G} {T : List (ClassId × FieldType)} {as : List Value} {w : va_W} {S : Type} {post : Int32 → S → Prop} {wf : S → va_W} {cc : ByteArray} {maxL : Nat} {ret : Option FieldType} (hy : plainName y.cls = true) (hlen : (lg_sl as).length ≤ maxL)
    (body : ∀ (p : Program) (e : Env) (s : State) (m : MethodId) (below : List Frame) (meth : Method) (c : Code) (ls : Array Slot) (A : Nat → Prop), kF p s m meth c cc maxL ret as.toArray y.cls → kE D T s → va_P D vwCl w s.heap → va_D A w → (∀ q : Nat, s.heap.size ≤ q → A q) → va_S A s.heap s.heap [] → lv_has ls maxL (lv_args 0 as) → W p l e (kRm fr lo mc ms) s m as.toArray below meth c s.heap [] 0 0 (MQ below (va_Qi post (kBw D A wf) A) as.toArray s mc ms A) (F0 m 0 ls [])) : KI l y cc maxL ret fr lo D T as w post wf mc ms := by
  intro sz
  refine Met.ofW (cc := cc) (maxL := maxL) (ret := ret) hy rfl ?_
  intro p e s m args below meth c s₁ B hml hv
  obtain ⟨rfl, rfl, hP, hE, hD0⟩ := hv
  have hl := lv_entry as (n := maxL) hlen
  rw [lg_entry_eq]
  exact body p e s m below meth c _ (va_A w s.heap.size) ⟨B.exec, B.bytes, B.returns, hml, findClass_of_methodNamed B.named, fun w h => atoms_spec (ws := kw y cc maxL ret) B.pre w (List.mem_cons_of_mem _ h), B.notSynchronized⟩ hE hP (hD0.self (sz := s.heap.size)) (fun q h => Or.inr h) va_S.rf hl
theorem KV.of {l : Launch} {y : MethodName} {fr lo mc ms : Nat} {D : va_G} {T : List (ClassId × FieldType)} {as : List Value} {w : va_W} {S : Type} {post : S → Prop} {wf : S → va_W} {cc : ByteArray} {maxL : Nat} (hy : plainName y.cls = true) (hlen : (lg_sl as).length ≤ maxL)
    (body : ∀ (p : Program) (e : Env) (s : State) (m : MethodId) (below : List Frame) (meth : Method) (c : Code) (ls : Array Slot) (A : Nat → Prop), kF p s m meth c cc maxL none as.toArray y.cls → meth.name = y.name → kE D T s → va_P D vwCl w s.heap → va_D A w → (∀ q : Nat, s.heap.size ≤ q → A q) → va_S A s.heap s.heap [] → lv_has ls maxL (lv_args 0 as) → W p l e (kRm fr lo mc ms) s m as.toArray below meth c s.heap [] 0 0 (MQ below (va_Qv post (kBw D A wf) A) as.toArray s mc ms A) (F0 m 0 ls [])) : KV l y cc maxL fr lo D T as w post wf mc ms := by
  intro sz
  refine Met.ofW (cc := cc) (maxL := maxL) (ret := none) hy rfl ?_
  intro p e s m args below meth c s₁ B hml hv
  obtain ⟨rfl, rfl, hP, hE, hD0⟩ := hv
  have hl := lv_entry as (n := maxL) hlen
  rw [lg_entry_eq]
  exact body p e s m below meth c _ (va_A w s.heap.size) ⟨B.exec, B.bytes, B.returns, hml, findClass_of_methodNamed B.named, fun w h => atoms_spec (ws := kw y cc maxL none) B.pre w (List.mem_cons_of_mem _ h), B.notSynchronized⟩ (name_of_methodNamed B.named B.method).1 hE hP (hD0.self (sz := s.heap.size)) (fun q h => Or.inr h) va_S.rf hl
section KB
variable {p : Program} {l : Launch} {e : Env} {R : Room} {s : State} {m : MethodId} {args : Array Value} {below : List Frame} {meth : Method} {c : Code} {H : Heap} {locs : List Loc} {cells slots : Nat} {Q : State → Prop}
variable {cc bytes : ByteArray} {pc nL maxL index n ci : Nat} {ls : Array Slot} {rest st As : List Value} {D : va_G} {T : List (ClassId × FieldType)} {A : Nat → Prop} {w W0 wr : va_W} {H0 : Heap} {ret ret' : Option FieldType} {b : Nat} {fs : List Value} {cq : vw_C}
variable {y : MethodName} {fr lo mc ms : Nat} {own host : String}
/-- the top is another number -/
theorem k_top {x z : Int32} (h : x = z) (k : W p l e R s m args below meth c H locs cells slots Q (F0 m pc ls (.int z :: rest))) : W p l e R s m args below meth c H locs cells slots Q (F0 m pc ls (.int x :: rest)) := h ▸ k
theorem KP.rt {post : Int32 → Prop} {v : Int32} {ty : FieldType} (F : kF p s m meth c cc nL (some ty) args own) (hn : narrow ty (.int v) = .int v) (hp : post v) (hdg : decode cc pc = .ok (.ireturn, 1)) : W p l e R s m args below meth c s.heap [] 0 0 (MQ below (kQ post) args s 0 0 (fun _ => False)) (F0 m pc ls [.int v]) :=
  W.zret F.1 F.2.1 F.2.2.1 hn (fun t ht _ => ⟨v, rfl, hp, ht⟩) (fun q h => by cases h) hdg F.2.2.2.2.2.2
theorem KI.rt {S : Type} {post : Int32 → S → Prop} {wf : S → va_W} {v : Int32} {ty : FieldType} (u : S) (F : kF p s m meth c cc nL (some ty) args own) (hn : narrow ty (.int v) = .int v) (hP : va_P D vwCl (wf u) H) (hD : va_D A (wf u)) (hS : va_S A s.heap H locs) (hp : post v u) (hc : cells ≤ mc) (hs : slots ≤ ms) (hdg : decode cc pc = .ok (.ireturn, 1)) : W p l e R s m args below meth c H locs cells slots (MQ below (va_Qi post (kBw D A wf) A) args s mc ms A) (F0 m pc ls [.int v]) :=
  W.widen hc hs (W.zret F.1 F.2.1 F.2.2.1 hn (fun t ht _ => ⟨⟨v, u, rfl, hp, by rw [ht]; exact hP, hD⟩, hS.F ht⟩) hS.2.2 hdg F.2.2.2.2.2.2)
theorem KV.rt {S : Type} {post : S → Prop} {wf : S → va_W} (u : S) (F : kF p s m meth c cc nL none args own) (hP : va_P D vwCl (wf u) H) (hD : va_D A (wf u)) (hS : va_S A s.heap H locs) (hp : post u) (hc : cells ≤ mc) (hs : slots ≤ ms) (hdg : decode cc pc = .ok (.return_, 1)) : W p l e R s m args below meth c H locs cells slots (MQ below (va_Qv post (kBw D A wf) A) args s mc ms A) (F0 m pc ls []) :=
  W.widen hc hs (W.vret F.1 F.2.1 F.2.2.1 (fun t ht _ => ⟨⟨u, rfl, hp, by rw [ht]; exact hP, hD⟩, hS.F ht⟩) hS.2.2 hdg F.2.2.2.2.2.2)
/-- behind a call that wrote nothing -/
theorem kcP {post : Int32 → Prop} {a : Array Value} (hr : va_Run p l e R s m args below meth c H locs cells slots 0 0 (F0 m pc ls st) rest (kQ post a) (fun _ => False)) (kk : ∀ r : Int32, post r → W p l e R s m args below meth c H locs cells slots Q (F0 m (pc + 3) ls (.int r :: rest))) : W p l e R s m args below meth c H locs cells slots Q (F0 m pc ls st) := by
  intro T hT X
  obtain ⟨v, st₀, t, T', L, h0, X', hL, e1, e2, ⟨r, hv, hp, hh⟩, st⟩ := hr T hT X
  cases hv
  obtain ⟨t2, a1, b1⟩ := kk r hp T' (by rw [e1, hh, h0]) (Stand.forget X' (fun q h => (hL q h).elim))
  exact ⟨t2, st t2 a1, b1⟩
/-- calls of methods that write nothing: by invokevirtual, invokestatic, and of a nest mate's -/
theorem kcV {post : Int32 → Prop} {C : String} (F : kF p s m meth c cc nL ret args own) (hE : kE D T s) (hP : va_P D vwCl W0 H) (hl : ls.size = nL) (hM : KP l y bytes maxL ret' fr lo D T (.ref b :: As) w post) (hm : Cond.methodLink own index y ∈ kGW) (hY : kMV C y bytes maxL ret' n) (hR : fr + 1 ≤ R.frames ∧ 8 + (maxL + 11) + lo ≤ R.locals) (is : List Nat) (hsub : is.filterMap (fun i => W0[i]?) = w) (hb0 : w[0]? = some (b, .inr (ci, fs))) (hci : vwCl[ci]? = some cq) (hq : cq.1 = C) (hn : As.length = n) (hst : st = As.reverse ++ .ref b :: rest) (hW : (rest.map fun v => v.category).sum ≤ 8) (hf : cells ≤ R.cells ∧ slots ≤ R.slots) (hdg : decode cc pc = .ok (.invokevirtual index, 3))
    (kk : ∀ r : Int32, post r → W p l e R s m args below meth c H locs cells slots Q (F0 m (pc + 3) ls (.int r :: rest))) : W p l e R s m args below meth c H locs cells slots Q (F0 m pc ls st) := by
  have hPc := hP.sub is hsub
  obtain ⟨f1, f2, f3, f4, f5, f6, f7⟩ := F
  subst hq
  exact kcP (va_runV (As := As) (rest := rest) (nL := nL) ⟨f1, f2, f4, f5, f6⟩ hM (cwV n f6 (k_gV hm hY) rfl rfl rfl hY.2.2.2.2 hR) ⟨kPc.blind, va_recv hE.1 hPc hci hb0, fun U hU hW => ⟨rfl, by rw [hU]; exact hPc, hE.warm hW⟩⟩ rfl hn hl hst (lv_room hW) hdg hf) kk
theorem kcS {post : Int32 → Prop} (F : kF p s m meth c cc nL ret args own) (hE : kE D T s) (hP : va_P D vwCl W0 H) (hl : ls.size = nL) (hM : KP l y bytes maxL ret' fr lo D T As w post) (hm : Cond.methodLink own index y ∈ kGW) (hY : kMS y bytes maxL ret' n) (hR : fr + 1 ≤ R.frames ∧ 8 + (maxL + 11) + lo ≤ R.locals) (is : List Nat) (hsub : is.filterMap (fun i => W0[i]?) = w) (hn : As.length = n) (hst : st = As.reverse ++ rest) (hW : (rest.map fun v => v.category).sum ≤ 8) (hf : cells ≤ R.cells ∧ slots ≤ R.slots) (hdg : decode cc pc = .ok (.invokestatic index, 3))
    (kk : ∀ r : Int32, post r → W p l e R s m args below meth c H locs cells slots Q (F0 m (pc + 3) ls (.int r :: rest))) : W p l e R s m args below meth c H locs cells slots Q (F0 m pc ls st) := by
  have hPc := hP.sub is hsub
  obtain ⟨f1, f2, f3, f4, f5, f6, f7⟩ := F
  exact kcP (va_runS (As := As) (rest := rest) (nL := nL) ⟨f1, f2, f4, f5, f6⟩ hM (va_cwS n f6 (k_gS hm hY) rfl rfl rfl hY.2.2.2 hR) ⟨kPc.blind, fun U hU hW => ⟨rfl, by rw [hU]; exact hPc, hE.warm hW⟩⟩ rfl hn hl hst (lv_room hW) hdg hf) kk
theorem kcSN {post : Int32 → Prop} (F : kF p s m meth c cc nL ret args own) (hE : kE D T s) (hP : va_P D vwCl W0 H) (hl : ls.size = nL) (hM : KP l y bytes maxL ret' fr lo D T As w post) (hY : kMS y bytes maxL ret' n) (hne : (own, index, y, host) ∈ kNest) (hR : fr + 1 ≤ R.frames ∧ 8 + (maxL + 11) + lo ≤ R.locals) (is : List Nat) (hsub : is.filterMap (fun i => W0[i]?) = w) (hn : As.length = n) (hst : st = As.reverse ++ rest) (hW : (rest.map fun v => v.category).sum ≤ 8) (hf : cells ≤ R.cells ∧ slots ≤ R.slots) (hdg : decode cc pc = .ok (.invokestatic index, 3))
    (kk : ∀ r : Int32, post r → W p l e R s m args below meth c H locs cells slots Q (F0 m (pc + 3) ls (.int r :: rest))) : W p l e R s m args below meth c H locs cells slots Q (F0 m pc ls st) := by
  have hPc := hP.sub is hsub
  obtain ⟨f1, f2, f3, f4, f5, f6, f7⟩ := F
  exact kcP (va_runSN (As := As) (rest := rest) (nL := nL) (host := host) ⟨f1, f2, f4, f5, f6⟩ hM ⟨va_cnB n f6 (k_gW hY.2.2.1) rfl rfl rfl (hE.2.1 _ hne) (f6 _ hY.2.1) hY.2.2.2 hR, f6 _ hY.1, trivial⟩ ⟨kPc.blind, fun U hU hW => ⟨rfl, by rw [hU]; exact hPc, hE.warm hW⟩⟩ rfl hn hl hst (lv_room hW) hdg hf) kk
/-- behind a call that wrote -/
theorem kwI {S : Type} {post : Int32 → S → Prop} {wf : S → va_W} {a : Array Value} (hr : va_Run p l e R s m args below meth c H locs cells slots mc ms (F0 m pc ls st) rest (va_Qi post (kBw D (va_A w H.size) wf) (va_A w H.size) a) (va_A w H.size)) (hP : va_P D vwCl W0 H) (hD : va_D A W0) (hS : va_S A H0 H locs) (hA : ∀ q : Nat, H0.size ≤ q → A q) (isC isR : List Nat) (hC : isC.map (fun i => W0[i]?) = w.map some) (hRr : isR.map (fun i => W0[i]?) = wr.map some) (hn1 : va_nd isR = true) (hdis : ∀ i ∈ isR, i ∉ isC)
    (kk : ∀ (r : Int32) (u : S) (H1 : Heap) (locs1 : List Loc), post r u → va_P D vwCl (wr ++ wf u) H1 → va_D A (wr ++ wf u) → va_S A H0 H1 locs1 → W p l e R s m args below meth c H1 locs1 (cells + mc) (slots + ms) Q (F0 m (pc + 3) ls (.int r :: rest))) : W p l e R s m args below meth c H locs cells slots Q (F0 m pc ls st) := by
  have hFc := va_free (wc := w) hD hS hA isC hC
  refine va_calli hr hS (fun q _ h => hFc q h) hFc (fun r u t H1 locs1 ht hvm hw hB hz1 hk1 hS1 => ?_)
  obtain ⟨hP1, hD1⟩ := hB
  rw [ht] at hP1
  obtain ⟨hP2, hD2⟩ := va_join (wr := wr) (w1 := wf u) hP hD isC isR hC hRr hn1 hdis hk1 hFc hP1 hD1
  exact kk r u H1 locs1 hw hP2 hD2 hS1
theorem kwV {S : Type} {post : S → Prop} {wf : S → va_W} {a : Array Value} (hr : va_Run p l e R s m args below meth c H locs cells slots mc ms (F0 m pc ls st) rest (va_Qv post (kBw D (va_A w H.size) wf) (va_A w H.size) a) (va_A w H.size)) (hP : va_P D vwCl W0 H) (hD : va_D A W0) (hS : va_S A H0 H locs) (hA : ∀ q : Nat, H0.size ≤ q → A q) (isC isR : List Nat) (hC : isC.map (fun i => W0[i]?) = w.map some) (hRr : isR.map (fun i => W0[i]?) = wr.map some) (hn1 : va_nd isR = true) (hdis : ∀ i ∈ isR, i ∉ isC)
    (kk : ∀ (u : S) (H1 : Heap) (locs1 : List Loc), post u → va_P D vwCl (wr ++ wf u) H1 → va_D A (wr ++ wf u) → va_S A H0 H1 locs1 → W p l e R s m args below meth c H1 locs1 (cells + mc) (slots + ms) Q (F0 m (pc + 3) ls rest)) : W p l e R s m args below meth c H locs cells slots Q (F0 m pc ls st) := by
  have hFc := va_free (wc := w) hD hS hA isC hC
  refine va_callv hr hS (fun q _ h => hFc q h) hFc (fun u t H1 locs1 ht hvm hw hB hz1 hk1 hS1 => ?_)
  obtain ⟨hP1, hD1⟩ := hB
  rw [ht] at hP1
  obtain ⟨hP2, hD2⟩ := va_join (wr := wr) (w1 := wf u) hP hD isC isR hC hRr hn1 hdis hk1 hFc hP1 hD1
  exact kk u H1 locs1 hw hP2 hD2 hS1
theorem k_pick {is : List Nat} (h : is.map (fun i => W0[i]?) = w.map some) : is.filterMap (fun i => W0[i]?) = w := by
  have h1 : is.filterMap (fun i => W0[i]?) = (is.map (fun i => W0[i]?)).filterMap id := by rw [List.filterMap_map]; rfl
  rw [h1, h, List.filterMap_map]
  have h2 : (id ∘ some : Nat × va_E → Option (Nat × va_E)) = some := rfl
  rw [h2, List.filterMap_some]
theorem k_pre {sz : Nat} (hE : kE D T s) (hP : va_P D vwCl W0 H) (hD : va_D A W0) (hsz : H.size = sz) (is : List Nat) (hn : va_nd is = true) (h : is.map (fun i => W0[i]?) = w.map some) : ∀ U : State, U.heap = H → s.WarmedH U.vm → va_Pc As (kWc D T w sz) As.toArray U := fun U hU hW => ⟨rfl, by rw [hU]; exact hsz, by rw [hU]; exact hP.sub is (k_pick h), hE.warm hW, (hD.sub is hn h).weaken (fun _ _ _ _ => trivial)⟩
/-- calls of methods that write, by invokevirtual (an int, nothing), of a nest mate's constructor -/
theorem kwVI {S : Type} {post : Int32 → S → Prop} {wf : S → va_W} {C : String} (F : kF p s m meth c cc nL ret args own) (hE : kE D T s) (hP : va_P D vwCl W0 H) (hD : va_D A W0) (hS : va_S A H0 H locs) (hA : ∀ q : Nat, H0.size ≤ q → A q) (hl : ls.size = nL) (hM : KI l y bytes maxL ret' fr lo D T (.ref b :: As) w post wf mc ms) (hm : Cond.methodLink own index y ∈ kGW) (hY : kMV C y bytes maxL ret' n) (hR : fr + 1 ≤ R.frames ∧ 8 + (maxL + 11) + lo ≤ R.locals) (isC isR : List Nat) (hnC : va_nd isC = true) (hC : isC.map (fun i => W0[i]?) = w.map some) (hRr : isR.map (fun i => W0[i]?) = wr.map some) (hn1 : va_nd isR = true) (hdis : ∀ i ∈ isR, i ∉ isC) (hb0 : w[0]? = some (b, .inr (ci, fs))) (hci : vwCl[ci]? = some cq) (hq : cq.1 = C) (hn : As.length = n) (hst : st = As.reverse ++ .ref b :: rest) (hW : (rest.map fun v => v.category).sum ≤ 8) (hf : cells + mc ≤ R.cells ∧ slots + ms ≤ R.slots) (hdg : decode cc pc = .ok (.invokevirtual index, 3))
    (kk : ∀ (r : Int32) (u : S) (H1 : Heap) (locs1 : List Loc), post r u → va_P D vwCl (wr ++ wf u) H1 → va_D A (wr ++ wf u) → va_S A H0 H1 locs1 → W p l e R s m args below meth c H1 locs1 (cells + mc) (slots + ms) Q (F0 m (pc + 3) ls (.int r :: rest))) : W p l e R s m args below meth c H locs cells slots Q (F0 m pc ls st) := by
  obtain ⟨f1, f2, f3, f4, f5, f6, f7⟩ := F
  subst hq
  exact kwI (va_runV (As := As) (rest := rest) (nL := nL) ⟨f1, f2, f4, f5, f6⟩ (hM H.size) (cwV n f6 (k_gV hm hY) rfl rfl rfl hY.2.2.2.2 hR) ⟨kWc.blind, va_recv hE.1 (hP.sub isC (k_pick hC)) hci hb0, k_pre hE hP hD rfl isC hnC hC⟩ rfl hn hl hst (lv_room hW) hdg hf) hP hD hS hA isC isR hC hRr hn1 hdis kk
theorem kwVV {S : Type} {post : S → Prop} {wf : S → va_W} {C : String} (F : kF p s m meth c cc nL ret args own) (hE : kE D T s) (hP : va_P D vwCl W0 H) (hD : va_D A W0) (hS : va_S A H0 H locs) (hA : ∀ q : Nat, H0.size ≤ q → A q) (hl : ls.size = nL) (hM : KV l y bytes maxL fr lo D T (.ref b :: As) w post wf mc ms) (hm : Cond.methodLink own index y ∈ kGW) (hY : kMV C y bytes maxL none n) (hR : fr + 1 ≤ R.frames ∧ 8 + (maxL + 11) + lo ≤ R.locals) (isC isR : List Nat) (hnC : va_nd isC = true) (hC : isC.map (fun i => W0[i]?) = w.map some) (hRr : isR.map (fun i => W0[i]?) = wr.map some) (hn1 : va_nd isR = true) (hdis : ∀ i ∈ isR, i ∉ isC) (hb0 : w[0]? = some (b, .inr (ci, fs))) (hci : vwCl[ci]? = some cq) (hq : cq.1 = C) (hn : As.length = n) (hst : st = As.reverse ++ .ref b :: rest) (hW : (rest.map fun v => v.category).sum ≤ 8) (hf : cells + mc ≤ R.cells ∧ slots + ms ≤ R.slots) (hdg : decode cc pc = .ok (.invokevirtual index, 3))
    (kk : ∀ (u : S) (H1 : Heap) (locs1 : List Loc), post u → va_P D vwCl (wr ++ wf u) H1 → va_D A (wr ++ wf u) → va_S A H0 H1 locs1 → W p l e R s m args below meth c H1 locs1 (cells + mc) (slots + ms) Q (F0 m (pc + 3) ls rest)) : W p l e R s m args below meth c H locs cells slots Q (F0 m pc ls st) := by
  obtain ⟨f1, f2, f3, f4, f5, f6, f7⟩ := F
  subst hq
  exact kwV (va_runV (As := As) (rest := rest) (nL := nL) ⟨f1, f2, f4, f5, f6⟩ (hM H.size) (cwV n f6 (k_gV hm hY) rfl rfl rfl hY.2.2.2.2 hR) ⟨kWc.blind, va_recv hE.1 (hP.sub isC (k_pick hC)) hci hb0, k_pre hE hP hD rfl isC hnC hC⟩ rfl hn hl hst (lv_room hW) hdg hf) hP hD hS hA isC isR hC hRr hn1 hdis kk
theorem kwIN {S : Type} {post : S → Prop} {wf : S → va_W} (F : kF p s m meth c cc nL ret args own) (hE : kE D T s) (hP : va_P D vwCl W0 H) (hD : va_D A W0) (hS : va_S A H0 H locs) (hA : ∀ q : Nat, H0.size ≤ q → A q) (hl : ls.size = nL) (hM : KV l y bytes maxL fr lo D T (.ref b :: As) w post wf mc ms) (hY : kMI y bytes maxL n) (hne : (own, index, y, host) ∈ kNest) (hR : fr + 1 ≤ R.frames ∧ 8 + (maxL + 11) + lo ≤ R.locals) (isC isR : List Nat) (hnC : va_nd isC = true) (hC : isC.map (fun i => W0[i]?) = w.map some) (hRr : isR.map (fun i => W0[i]?) = wr.map some) (hn1 : va_nd isR = true) (hdis : ∀ i ∈ isR, i ∉ isC) (hn : As.length = n) (hst : st = As.reverse ++ .ref b :: rest) (hW : (rest.map fun v => v.category).sum ≤ 8) (hf : cells + mc ≤ R.cells ∧ slots + ms ≤ R.slots) (hdg : decode cc pc = .ok (.invokespecial index, 3))
    (kk : ∀ (u : S) (H1 : Heap) (locs1 : List Loc), post u → va_P D vwCl (wr ++ wf u) H1 → va_D A (wr ++ wf u) → va_S A H0 H1 locs1 → W p l e R s m args below meth c H1 locs1 (cells + mc) (slots + ms) Q (F0 m (pc + 3) ls rest)) : W p l e R s m args below meth c H locs cells slots Q (F0 m pc ls st) := by
  obtain ⟨f1, f2, f3, f4, f5, f6, f7⟩ := F
  exact kwV (va_runIN (As := As) (rest := rest) (nL := nL) (host := host) ⟨f1, f2, f4, f5, f6⟩ (hM H.size) ⟨va_cnB n f6 (k_gW hY.2.2.1) rfl rfl rfl (hE.2.1 _ hne) (f6 _ hY.2.1) hY.2.2.2.2 hR, hY.2.2.2.1, f6 _ hY.1⟩ ⟨kWc.blind, k_pre (As := .ref b :: As) hE hP hD rfl isC hnC hC⟩ rfl hn hl hst (lv_room hW) hdg hf) hP hD hS hA isC isR hC hRr hn1 hdis kk
theorem kwII {S : Type} {post : S → Prop} {wf : S → va_W} (F : kF p s m meth c cc nL ret args own) (hE : kE D T s) (hP : va_P D vwCl W0 H) (hD : va_D A W0) (hS : va_S A H0 H locs) (hA : ∀ q : Nat, H0.size ≤ q → A q) (hl : ls.size = nL) (hM : KV l y bytes maxL fr lo D T (.ref b :: As) w post wf mc ms) (hm : Cond.methodLink own index y ∈ kGW) (hY : kMI y bytes maxL n) (hR : fr + 1 ≤ R.frames ∧ 8 + (maxL + 11) + lo ≤ R.locals) (isC isR : List Nat) (hnC : va_nd isC = true) (hC : isC.map (fun i => W0[i]?) = w.map some) (hRr : isR.map (fun i => W0[i]?) = wr.map some) (hn1 : va_nd isR = true) (hdis : ∀ i ∈ isR, i ∉ isC) (hn : As.length = n) (hst : st = As.reverse ++ .ref b :: rest) (hW : (rest.map fun v => v.category).sum ≤ 8) (hf : cells + mc ≤ R.cells ∧ slots + ms ≤ R.slots) (hdg : decode cc pc = .ok (.invokespecial index, 3))
    (kk : ∀ (u : S) (H1 : Heap) (locs1 : List Loc), post u → va_P D vwCl (wr ++ wf u) H1 → va_D A (wr ++ wf u) → va_S A H0 H1 locs1 → W p l e R s m args below meth c H1 locs1 (cells + mc) (slots + ms) Q (F0 m (pc + 3) ls rest)) : W p l e R s m args below meth c H locs cells slots Q (F0 m pc ls st) := by
  obtain ⟨f1, f2, f3, f4, f5, f6, f7⟩ := F
  exact kwV (va_runI (As := As) (rest := rest) (nL := nL) ⟨f1, f2, f4, f5, f6⟩ (hM H.size) (cwI n f6 (k_gW hY.2.2.1) rfl rfl rfl (f6 _ hY.2.1) (f6 _ hm) (f6 _ hY.1) hY.2.2.2.1 hY.2.2.2.2 hR) ⟨kWc.blind, k_pre (As := .ref b :: As) hE hP hD rfl isC hnC hC⟩ rfl hn hl hst (lv_room hW) hdg hf) hP hD hS hA isC isR hC hRr hn1 hdis kk
/-- a new array of a known class -/
theorem k_newa {atype : ArrayType} {ty : FieldType} {cA : ClassId} {t0 : Nat} {a0 : vp_A} {n : Int32} {N' : Nat} (hx : p.tables.exec = Jvm.exec) (hb : c.code = cc) (harr : (Cond.arrayClass ty).before args s = true) (hty : newarray.typeOf atype = ty) (hnar : ∀ cX : ClassId, va_RA s cX ty → s.vm.findClass ("[" ++ ty.toString) = some cX) (hE : kE D T s) (hP : va_P D vwCl W0 H) (hD : va_D A W0) (hS : va_S A H0 H locs) (hA : ∀ q : Nat, H0.size ≤ q → A q) (ht : T[t0]? = some (cA, ty)) (ha : ∀ cA : ClassId, vp_cell cA a0 = arrV cA N' (fun _ => defaultValue ty)) (hn : ¬ n < 0) (hN : n.toNatClampNeg = N') (hbytes : N' * componentBytes ty ≤ 536870912) (hcells : cells + 1 ≤ R.cells) (hslots : slots + N' ≤ R.slots) (hdg : decode cc pc = .ok (.newarray atype, 2))
    (kk : ∀ (q : Nat) (H1 : Heap), va_P D vwCl (W0 ++ [(q, .inl (cA, a0))]) H1 → va_D A (W0 ++ [(q, .inl (cA, a0))]) → va_S A H0 H1 locs → W p l e R s m args below meth c H1 locs (cells + 1) (slots + N') Q (F0 m (pc + 2) ls (.ref q :: rest))) : W p l e R s m args below meth c H locs cells slots Q (F0 m pc ls (.int n :: rest)) := by
  refine va_newa (atype := atype) hx hb (by rw [hty]; exact harr) hty hE.1 hP hD hS hA ha hn hN hbytes hcells hslots hdg (fun q cX H1 hK2 hP2 hD2 hS2 => ?_)
  have h1 := (hE.1.2 t0 _ ht).2
  have h2 := (hK2.2 T.length (cX, ty) (by rw [List.getElem?_append_right (Nat.le_refl _)]; simp)).2
  have e : cX = cA := Option.some.inj ((hnar cX h2).symm.trans (hnar cA h1))
  subst e
  exact kk q H1 hP2 hD2 hS2
theorem k_newq {C : String} {cA : ClassId} {t0 : Nat} {n : Int32} {N' : Nat} (hx : p.tables.exec = Jvm.exec) (hb : c.code = cc) (hown : s.vm.findClass own = some m.cls) (hclink : (Cond.classLink own index C).before args s = true) (hover : va_AO C s) (hE : kE D T s) (hP : va_P D vwCl W0 H) (hD : va_D A W0) (hS : va_S A H0 H locs) (hA : ∀ q : Nat, H0.size ≤ q → A q) (ht : T[t0]? = some (cA, .object C)) (hn : ¬ n < 0) (hN : n.toNatClampNeg = N') (hbytes : N' * 4 ≤ 536870912) (hcells : cells + 1 ≤ R.cells) (hslots : slots + N' ≤ R.slots) (hdg : decode cc pc = .ok (.anewarray index, 3))
    (kk : ∀ (q : Nat) (H1 : Heap), va_P D vwCl (W0 ++ [(q, .inl (cA, N', .inr (.inr (.inr (.inr (fun _ => none))))))]) H1 → va_D A (W0 ++ [(q, .inl (cA, N', .inr (.inr (.inr (.inr (fun _ => none))))))]) → va_S A H0 H1 locs → W p l e R s m args below meth c H1 locs (cells + 1) (slots + N') Q (F0 m (pc + 3) ls (.ref q :: rest))) : W p l e R s m args below meth c H locs cells slots Q (F0 m pc ls (.int n :: rest)) := by
  refine va_newq hx hb hown hclink hover hE.1 hP hD hS hA hn hN hbytes hcells hslots hdg (fun q cX H1 hK2 hP2 hD2 hS2 => ?_)
  obtain ⟨k1, c1, -, -, -, h1⟩ := (hE.1.2 t0 _ ht).2
  obtain ⟨k2, c2, -, -, -, h2⟩ := (hK2.2 T.length (cX, .object C) (by rw [List.getElem?_append_right (Nat.le_refl _)]; simp)).2
  have e : cX = cA := Option.some.inj (h2.symm.trans h1)
  subst e
  exact kk q H1 hP2 hD2 hS2
end KB
/-- the arrays' classes: of ints, longs, bytes, booleans, moments, rules, rows of ints -/
abbrev kTY (cy : Nat → ClassId) : List (ClassId × FieldType) := [(cy 0, .int), (cy 1, .long), (cy 2, .byte), (cy 3, .boolean), (cy 4, .object "StrawButts$Moment"), (cy 5, .object "StrawButts$Rule"), (cy 6, .array .int)]
