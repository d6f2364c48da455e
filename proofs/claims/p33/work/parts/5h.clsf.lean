/-! ===== beside the class's text: what holds of it stays through warming ===== -/
def zOW (Z : ((Nat → Prop) → State → Heap → Prop)) : Prop := (∀ (A : Nat → Prop) (u U : State) (H : Heap), u.WarmedH U.vm → Z A u H → Z A U H) ∧ (∀ (A : Nat → Prop) (U : State) (H H1 : Heap), (∀ a : Nat, a < H.size → ¬ A a → H1[a]? = H[a]?) → Z A U H → Z A U H1) ∧ (∀ (A B : Nat → Prop) (U : State) (H : Heap), (∀ q, B q → A q) → Z A U H → Z B U H) ∧ (∀ (A : Nat → Prop) (U : State) (H : Heap) (g : JFrame) (mk : MethodId) (a : Array Value), Z A U H → Z A (U.calling g mk a) H)
theorem jWc.blindW {D : va_G} {T : List (ClassId × FieldType)} {w : va_W} {Z : ((Nat → Prop) → State → Heap → Prop)} {as : List Value} {sz : Nat} (hz : zOW Z) : FrameBlind (va_Pc as (jWc D T w Z sz)) := fun a U g mk q => ⟨q.1, (kWc.blind (D := D) (T := T) (w := w) (as := as) (sz := sz) a U g mk ⟨q.1, q.2.1⟩).2, hz.2.2.2 _ U _ g mk a q.2.2⟩
section KX
variable {p : Program} {l : Launch} {e : Env} {R : Room} {s : State} {m : MethodId} {args : Array Value} {below : List Frame} {meth : Method} {c : Code} {H : Heap} {locs : List Loc} {cells slots : Nat} {Q : State → Prop}
variable {cc bytes : ByteArray} {pc nL maxL index n ci q0 : Nat} {ls : Array Slot} {rest st As : List Value} {D : va_G} {T : List (ClassId × FieldType)} {A : Nat → Prop} {w W0 wr TT : va_W} {ret ret' : Option FieldType} {b : Nat} {fs : List Value} {cq : vw_C}
variable {y : MethodName} {fr lo mc ms : Nat} {own host : String} {Z : ((Nat → Prop) → State → Heap → Prop)}
theorem j_atW (hz : zOW Z) (hZ : Z A s s.heap) (hS : va_S A s.heap H locs) : Z A s H := hz.2.1 A s s.heap H (fun a h1 h2 => hS.2.1 a h1 h2) hZ
theorem j_preW {sz : Nat} (hz : zOW Z) (hZ : Z A s s.heap) (hE : kE D T s) (hP : va_P D vwCl W0 H) (hD : va_D A W0) (hS : va_S A s.heap H locs) (hA : ∀ q : Nat, s.heap.size ≤ q → A q) (hsz : H.size = sz) (is : List Nat) (hn : va_nd is = true) (h : is.map (fun i => W0[i]?) = w.map some) : ∀ U : State, U.heap = H → s.WarmedH U.vm → va_Pc As (jWc D T w Z sz) As.toArray U := fun U hU hW => ⟨rfl, (k_pre (As := As) hE hP hD hsz is hn h U hU hW).2, by
  rw [hU]
  refine hz.1 _ s U H hW (hz.2.2.1 A (va_A w sz) s H (fun q hq => ?_) (j_atW hz hZ hS))
  rw [← hsz] at hq
  exact va_free (wc := w) hD hS hA is h q hq⟩
theorem jxVI {S : Type} {post : Int32 → S → Prop} {wf : S → va_W} {C : String} (F : kF p s m meth c cc nL ret args own) (hE : kE D T s) (hP : va_P D vwCl W0 H) (hD : va_D A W0) (hS : va_S A s.heap H locs) (hA : ∀ q : Nat, s.heap.size ≤ q → A q) (hl : ls.size = nL) (hz : zOW Z) (hZ : Z A s s.heap) (hM : JI l y bytes maxL ret' fr lo D T (.ref b :: As) w Z post wf mc ms) (hm : Cond.methodLink own index y ∈ kGW) (hY : kMV C y bytes maxL ret' n) (hR : fr + 1 ≤ R.frames ∧ 8 + (maxL + 11) + lo ≤ R.locals) (isC isR : List Nat) (hnC : va_nd isC = true) (hC : isC.map (fun i => W0[i]?) = w.map some) (hRr : isR.map (fun i => W0[i]?) = wr.map some) (hn1 : va_nd isR = true) (hdis : ∀ i ∈ isR, i ∉ isC) (hb0 : w[0]? = some (b, .inr (ci, fs))) (hci : vwCl[ci]? = some cq) (hq : cq.1 = C) (hn : As.length = n) (hst : st = As.reverse ++ .ref b :: rest) (hW : (rest.map fun v => v.category).sum ≤ 8) (hf : cells + mc ≤ R.cells ∧ slots + ms ≤ R.slots) (hdg : decode cc pc = .ok (.invokevirtual index, 3))
    (kk : ∀ (r : Int32) (u : S) (H1 : Heap) (locs1 : List Loc), post r u → va_P D vwCl (wr ++ wf u) H1 → va_D A (wr ++ wf u) → va_S A s.heap H1 locs1 → W p l e R s m args below meth c H1 locs1 (cells + mc) (slots + ms) Q (F0 m (pc + 3) ls (.int r :: rest))) : W p l e R s m args below meth c H locs cells slots Q (F0 m pc ls st) := by
  obtain ⟨f1, f2, f3, f4, f5, f6, f7⟩ := F
  subst hq
  exact kwI (va_runV (As := As) (rest := rest) (nL := nL) ⟨f1, f2, f4, f5, f6⟩ (hM H.size) (cwV n f6 (k_gV hm hY) rfl rfl rfl hY.2.2.2.2 hR) ⟨jWc.blindW hz, va_recv hE.1 (hP.sub isC (k_pick hC)) hci hb0, j_preW hz hZ hE hP hD hS hA rfl isC hnC hC⟩ rfl hn hl hst (lv_room hW) hdg hf) hP hD hS hA isC isR hC hRr hn1 hdis kk
theorem jxVV {S : Type} {post : S → Prop} {wf : S → va_W} {C : String} (F : kF p s m meth c cc nL ret args own) (hE : kE D T s) (hP : va_P D vwCl W0 H) (hD : va_D A W0) (hS : va_S A s.heap H locs) (hA : ∀ q : Nat, s.heap.size ≤ q → A q) (hl : ls.size = nL) (hz : zOW Z) (hZ : Z A s s.heap) (hM : JV l y bytes maxL fr lo D T (.ref b :: As) w Z post wf mc ms) (hm : Cond.methodLink own index y ∈ kGW) (hY : kMV C y bytes maxL none n) (hR : fr + 1 ≤ R.frames ∧ 8 + (maxL + 11) + lo ≤ R.locals) (isC isR : List Nat) (hnC : va_nd isC = true) (hC : isC.map (fun i => W0[i]?) = w.map some) (hRr : isR.map (fun i => W0[i]?) = wr.map some) (hn1 : va_nd isR = true) (hdis : ∀ i ∈ isR, i ∉ isC) (hb0 : w[0]? = some (b, .inr (ci, fs))) (hci : vwCl[ci]? = some cq) (hq : cq.1 = C) (hn : As.length = n) (hst : st = As.reverse ++ .ref b :: rest) (hW : (rest.map fun v => v.category).sum ≤ 8) (hf : cells + mc ≤ R.cells ∧ slots + ms ≤ R.slots) (hdg : decode cc pc = .ok (.invokevirtual index, 3))
    (kk : ∀ (u : S) (H1 : Heap) (locs1 : List Loc), post u → va_P D vwCl (wr ++ wf u) H1 → va_D A (wr ++ wf u) → va_S A s.heap H1 locs1 → W p l e R s m args below meth c H1 locs1 (cells + mc) (slots + ms) Q (F0 m (pc + 3) ls rest)) : W p l e R s m args below meth c H locs cells slots Q (F0 m pc ls st) := by
  obtain ⟨f1, f2, f3, f4, f5, f6, f7⟩ := F
  subst hq
  exact kwV (va_runV (As := As) (rest := rest) (nL := nL) ⟨f1, f2, f4, f5, f6⟩ (hM H.size) (cwV n f6 (k_gV hm hY) rfl rfl rfl hY.2.2.2.2 hR) ⟨jWc.blindW hz, va_recv hE.1 (hP.sub isC (k_pick hC)) hci hb0, j_preW hz hZ hE hP hD hS hA rfl isC hnC hC⟩ rfl hn hl hst (lv_room hW) hdg hf) hP hD hS hA isC isR hC hRr hn1 hdis kk
theorem jxSI {S : Type} {post : Int32 → S → Prop} {wf : S → va_W} (F : kF p s m meth c cc nL ret args own) (hE : kE D T s) (hP : va_P D vwCl W0 H) (hD : va_D A W0) (hS : va_S A s.heap H locs) (hA : ∀ q : Nat, s.heap.size ≤ q → A q) (hl : ls.size = nL) (hz : zOW Z) (hZ : Z A s s.heap) (hM : JI l y bytes maxL ret' fr lo D T As w Z post wf mc ms) (hm : Cond.methodLink own index y ∈ kGW) (hY : kMS y bytes maxL ret' n) (hR : fr + 1 ≤ R.frames ∧ 8 + (maxL + 11) + lo ≤ R.locals) (isC isR : List Nat) (hnC : va_nd isC = true) (hC : isC.map (fun i => W0[i]?) = w.map some) (hRr : isR.map (fun i => W0[i]?) = wr.map some) (hn1 : va_nd isR = true) (hdis : ∀ i ∈ isR, i ∉ isC) (hn : As.length = n) (hst : st = As.reverse ++ rest) (hW : (rest.map fun v => v.category).sum ≤ 8) (hf : cells + mc ≤ R.cells ∧ slots + ms ≤ R.slots) (hdg : decode cc pc = .ok (.invokestatic index, 3))
    (kk : ∀ (r : Int32) (u : S) (H1 : Heap) (locs1 : List Loc), post r u → va_P D vwCl (wr ++ wf u) H1 → va_D A (wr ++ wf u) → va_S A s.heap H1 locs1 → W p l e R s m args below meth c H1 locs1 (cells + mc) (slots + ms) Q (F0 m (pc + 3) ls (.int r :: rest))) : W p l e R s m args below meth c H locs cells slots Q (F0 m pc ls st) := by
  obtain ⟨f1, f2, f3, f4, f5, f6, f7⟩ := F
  exact kwI (va_runS (As := As) (rest := rest) (nL := nL) ⟨f1, f2, f4, f5, f6⟩ (hM H.size) (va_cwS n f6 (k_gS hm hY) rfl rfl rfl hY.2.2.2 hR) ⟨jWc.blindW hz, j_preW hz hZ hE hP hD hS hA rfl isC hnC hC⟩ rfl hn hl hst (lv_room hW) hdg hf) hP hD hS hA isC isR hC hRr hn1 hdis kk
theorem jxSV {S : Type} {post : S → Prop} {wf : S → va_W} (F : kF p s m meth c cc nL ret args own) (hE : kE D T s) (hP : va_P D vwCl W0 H) (hD : va_D A W0) (hS : va_S A s.heap H locs) (hA : ∀ q : Nat, s.heap.size ≤ q → A q) (hl : ls.size = nL) (hz : zOW Z) (hZ : Z A s s.heap) (hM : JV l y bytes maxL fr lo D T As w Z post wf mc ms) (hm : Cond.methodLink own index y ∈ kGW) (hY : kMS y bytes maxL none n) (hR : fr + 1 ≤ R.frames ∧ 8 + (maxL + 11) + lo ≤ R.locals) (isC isR : List Nat) (hnC : va_nd isC = true) (hC : isC.map (fun i => W0[i]?) = w.map some) (hRr : isR.map (fun i => W0[i]?) = wr.map some) (hn1 : va_nd isR = true) (hdis : ∀ i ∈ isR, i ∉ isC) (hn : As.length = n) (hst : st = As.reverse ++ rest) (hW : (rest.map fun v => v.category).sum ≤ 8) (hf : cells + mc ≤ R.cells ∧ slots + ms ≤ R.slots) (hdg : decode cc pc = .ok (.invokestatic index, 3))
    (kk : ∀ (u : S) (H1 : Heap) (locs1 : List Loc), post u → va_P D vwCl (wr ++ wf u) H1 → va_D A (wr ++ wf u) → va_S A s.heap H1 locs1 → W p l e R s m args below meth c H1 locs1 (cells + mc) (slots + ms) Q (F0 m (pc + 3) ls rest)) : W p l e R s m args below meth c H locs cells slots Q (F0 m pc ls st) := by
  obtain ⟨f1, f2, f3, f4, f5, f6, f7⟩ := F
  exact kwV (va_runS (As := As) (rest := rest) (nL := nL) ⟨f1, f2, f4, f5, f6⟩ (hM H.size) (va_cwS n f6 (k_gS hm hY) rfl rfl rfl hY.2.2.2 hR) ⟨jWc.blindW hz, j_preW hz hZ hE hP hD hS hA rfl isC hnC hC⟩ rfl hn hl hst (lv_room hW) hdg hf) hP hD hS hA isC isR hC hRr hn1 hdis kk
/-- the receiver lies elsewhere -/
theorem jxRI {S : Type} {post : Int32 → S → Prop} {wf : S → va_W} {C : String} (F : kF p s m meth c cc nL ret args own) (hE : kE D T s) (hP : va_P D vwCl W0 H) (hD : va_D A W0) (hS : va_S A s.heap H locs) (hA : ∀ q : Nat, s.heap.size ≤ q → A q) (hl : ls.size = nL) (hz : zOW Z) (hZ : Z A s s.heap) (hM : JI l y bytes maxL ret' fr lo D T (.ref b :: As) w Z post wf mc ms) (hm : Cond.methodLink own index y ∈ kGW) (hY : kMV C y bytes maxL ret' n) (hR : fr + 1 ≤ R.frames ∧ 8 + (maxL + 11) + lo ≤ R.locals) (isC isR : List Nat) (hnC : va_nd isC = true) (hC : isC.map (fun i => W0[i]?) = w.map some) (hRr : isR.map (fun i => W0[i]?) = wr.map some) (hn1 : va_nd isR = true) (hdis : ∀ i ∈ isR, i ∉ isC) (hrc : ∃ cell : Cell, H[b]? = some cell ∧ cell.vm.isStatics = false ∧ s.vm.findClass C = some cell.cls) (hn : As.length = n) (hst : st = As.reverse ++ .ref b :: rest) (hW : (rest.map fun v => v.category).sum ≤ 8) (hf : cells + mc ≤ R.cells ∧ slots + ms ≤ R.slots) (hdg : decode cc pc = .ok (.invokevirtual index, 3))
    (kk : ∀ (r : Int32) (u : S) (H1 : Heap) (locs1 : List Loc), post r u → va_P D vwCl (wr ++ wf u) H1 → va_D A (wr ++ wf u) → va_S A s.heap H1 locs1 → W p l e R s m args below meth c H1 locs1 (cells + mc) (slots + ms) Q (F0 m (pc + 3) ls (.int r :: rest))) : W p l e R s m args below meth c H locs cells slots Q (F0 m pc ls st) := by
  obtain ⟨f1, f2, f3, f4, f5, f6, f7⟩ := F
  exact kwI (va_runV (As := As) (rest := rest) (nL := nL) ⟨f1, f2, f4, f5, f6⟩ (hM H.size) (cwV n f6 (k_gV hm hY) rfl rfl rfl hY.2.2.2.2 hR) ⟨jWc.blindW hz, hrc, j_preW hz hZ hE hP hD hS hA rfl isC hnC hC⟩ rfl hn hl hst (lv_room hW) hdg hf) hP hD hS hA isC isR hC hRr hn1 hdis kk
end KX
/-- the class's text at kt, its bytes at vt; what String's own methods read -/
def ZT (kt vt : Nat) (A : Nat → Prop) (U : State) (H : Heap) : Prop := (∃ tx : String, vk_R RX10 81 tx kt U) ∧ va_O "java/lang/String" kt A U H ∧ va_OF "java/lang/String" "coder" "B" (.int 0) kt A U H ∧ va_OF "java/lang/String" "value" "[B" (.ref vt) kt A U H ∧ (∃ bf : Nat → Int32, va_T .byte vt 96 (fun j => .int (bf j)) A U H) ∧ va_Z "java/lang/String" "COMPACT_STRINGS" "Z" (.int 1) A U H ∧ va_Zq "jdk/internal/util/Preconditions" "SIOOBE_FORMATTER" "Ljava/util/function/BiFunction;" A U H ∧ va_Nw (.castable "[I" "java/lang/Cloneable") U
theorem ZT_ok {kt vt : Nat} : zOW (ZT kt vt) := by
  refine ⟨fun A u U H hW h => ?_, fun A U H H1 hq h => ?_, fun A B U H hAB h => ?_, fun A U H g mk a h => ?_⟩
  · obtain ⟨⟨tx, h1⟩, h2, h3, h4, ⟨bf, h5⟩, h6, h7, h8⟩ := h
    exact ⟨⟨tx, h1.warm hW⟩, va_O.moved hW.alike h2, va_OF.moved hW.alike h3, va_OF.moved hW.alike h4, ⟨bf, va_T.moved hW.alike h5⟩, va_Z.moved hW.alike h6, va_Zq.moved hW.alike h7, h8.warmC hW⟩
  · obtain ⟨⟨tx, h1⟩, h2, h3, h4, ⟨bf, h5⟩, h6, h7, h8⟩ := h
    exact ⟨⟨tx, h1⟩, h2.kept hq, h3.kept hq, h4.kept hq, ⟨bf, h5.kept hq⟩, h6.kept hq, h7.kept hq, h8⟩
  · obtain ⟨⟨tx, h1⟩, h2, h3, h4, ⟨bf, h5⟩, h6, h7, h8⟩ := h
    exact ⟨⟨tx, h1⟩, h2.narrow hAB, h3.narrow hAB, h4.narrow hAB, ⟨bf, h5.narrow hAB⟩, h6.narrow hAB, h7.narrow hAB, h8⟩
  · obtain ⟨⟨tx, h1⟩, h2, h3, h4, ⟨bf, h5⟩, h6, h7, h8⟩ := h
    have q : U.vm.Alike (U.calling g mk a).vm := Vm.Alike.refl U.vm
    exact ⟨⟨tx, h1.same (U := U.calling g mk a) rfl⟩, va_O.moved q h2, va_OF.moved q h3, va_OF.moved q h4, ⟨bf, va_T.moved q h5⟩, va_Z.moved q h6, va_Zq.moved q h7, va_Nw.same (u := U) rfl rfl h8⟩
theorem ZT.recv {kt vt : Nat} {A : Nat → Prop} {s : State} {H : Heap} {locs : List Loc} (h : ZT kt vt A s s.heap) (hS : va_S A s.heap H locs) : ∃ cell : Cell, H[kt]? = some cell ∧ cell.vm.isStatics = false ∧ s.vm.findClass RJ0 = some cell.cls := by
  obtain ⟨cell, h1, h2, h3, -⟩ := h.2.1.kept hS.2.1
  exact ⟨cell, h1, h2, h3⟩

set_option maxHeartbeats 4000000 in
set_option maxRecDepth 100000 in
theorem cc_J3_checkIndexN (l : Launch) (D : va_G) (cy : Nat → ClassId) (x0 : Int32) (x1 : Int32) (p0 : 0 ≤ x0.toInt) (p1 : x0.toInt < x1.toInt) : KP l yJ3_checkIndex_8e157 cJ3_checkIndex_8e157 3 (some .int) 0 0 D (kTY cy) [.int x0, .int x1, .null] [] (fun r => True) := by
  refine KP.of (by decide) (Nat.le_of_ble_eq_true rfl) (fun p e s m below meth c ls F hE hP hl => ?_)
  have F : kF p s m meth c cJ3_checkIndex_8e157 3 (some .int) _ RJ3 := F
  obtain ⟨hx, hb, hr, hml, hown, hG, hlk⟩ := id F
  have hl : lv_has ls 3 [(0, .int x0), (1, .int x1), (2, .null)] := hl
  refine lv_iload_n hx hb dJ3_checkIndex_8e157_0 rfl (lv_at hl 0 rfl) ?_
  refine lv_if_lt (tgt := 9) hx hb dJ3_checkIndex_8e157_1 (by decide) (fun c_1 => ?_) (fun c_1 => ?_)
  · have ic_1 : x0.toInt < 0 := k_lt c_1 rfl (by decide)
    exact absurd p1 (by omega)
  · have ic_1 : 0 ≤ x0.toInt := k_nlt c_1 rfl (by decide)
    refine lv_iload_n hx hb dJ3_checkIndex_8e157_4 rfl (lv_at hl 0 rfl) ?_
    refine lv_iload_n hx hb dJ3_checkIndex_8e157_5 rfl (lv_at hl 1 rfl) ?_
    refine lv_icmp_lt (tgt := 16) hx hb dJ3_checkIndex_8e157_6 (by decide) (fun c_2 => ?_) (fun c_2 => ?_)
    · have ic_2 : x0.toInt < x1.toInt := k_lt c_2 rfl rfl
      refine lv_iload_n hx hb dJ3_checkIndex_8e157_16 rfl (lv_at hl 0 rfl) ?_
      exact KP.rt F rfl trivial dJ3_checkIndex_8e157_17
    · have ic_2 : x1.toInt ≤ x0.toInt := k_nlt c_2 rfl rfl
      exact absurd p1 (by omega)

set_option maxHeartbeats 4000000 in
set_option maxRecDepth 100000 in
theorem cc_J3_checkIndexR (l : Launch) (D : va_G) (cy : Nat → ClassId) (fm : Nat) (x0 : Int32) (x1 : Int32) (p0 : 0 ≤ x0.toInt) (p1 : x0.toInt < x1.toInt) : KP l yJ3_checkIndex_8e157 cJ3_checkIndex_8e157 3 (some .int) 0 0 D (kTY cy) [.int x0, .int x1, .ref fm] [] (fun r => True) := by
  refine KP.of (by decide) (Nat.le_of_ble_eq_true rfl) (fun p e s m below meth c ls F hE hP hl => ?_)
  have F : kF p s m meth c cJ3_checkIndex_8e157 3 (some .int) _ RJ3 := F
  obtain ⟨hx, hb, hr, hml, hown, hG, hlk⟩ := id F
  have hl : lv_has ls 3 [(0, .int x0), (1, .int x1), (2, .ref fm)] := hl
  refine lv_iload_n hx hb dJ3_checkIndex_8e157_0 rfl (lv_at hl 0 rfl) ?_
  refine lv_if_lt (tgt := 9) hx hb dJ3_checkIndex_8e157_1 (by decide) (fun c_1 => ?_) (fun c_1 => ?_)
  · have ic_1 : x0.toInt < 0 := k_lt c_1 rfl (by decide)
    exact absurd p1 (by omega)
  · have ic_1 : 0 ≤ x0.toInt := k_nlt c_1 rfl (by decide)
    refine lv_iload_n hx hb dJ3_checkIndex_8e157_4 rfl (lv_at hl 0 rfl) ?_
    refine lv_iload_n hx hb dJ3_checkIndex_8e157_5 rfl (lv_at hl 1 rfl) ?_
    refine lv_icmp_lt (tgt := 16) hx hb dJ3_checkIndex_8e157_6 (by decide) (fun c_2 => ?_) (fun c_2 => ?_)
    · have ic_2 : x0.toInt < x1.toInt := k_lt c_2 rfl rfl
      refine lv_iload_n hx hb dJ3_checkIndex_8e157_16 rfl (lv_at hl 0 rfl) ?_
      exact KP.rt F rfl trivial dJ3_checkIndex_8e157_17
    · have ic_2 : x1.toInt ≤ x0.toInt := k_nlt c_2 rfl rfl
      exact absurd p1 (by omega)

set_option maxHeartbeats 4000000 in
set_option maxRecDepth 100000 in
theorem cc_J0_checkIndex_df160 (l : Launch) (D : va_G) (cy : Nat → ClassId) (kt : Nat) (vt : Nat) (x0 : Int32) (x1 : Int32) (p0 : 0 ≤ x0.toInt) (p1 : x0.toInt < x1.toInt) : JV l yJ0_checkIndex_df160 cJ0_checkIndex_df160 2 1 22 D (kTY cy) [.int x0, .int x1] [] (ZT kt vt) (S := Unit) (fun u => True) (fun _ => []) 0 0 := by
  refine JV.of (by decide) (Nat.le_of_ble_eq_true rfl) (fun p e s m below meth c ls A F hin hE hP hD hA hS hl hZ => ?_)
  have F : kF p s m meth c cJ0_checkIndex_df160 2 none _ RJ0 := F
  obtain ⟨hx, hb, hr, hml, hown, hG, hlk⟩ := id F
  have hl : lv_has ls 2 [(0, .int x0), (1, .int x1)] := hl
  refine lv_iload_n hx hb dJ0_checkIndex_df160_0 rfl (lv_at hl 0 rfl) ?_
  refine lv_iload_n hx hb dJ0_checkIndex_df160_1 rfl (lv_at hl 1 rfl) ?_
  rcases hZ.2.2.2.2.2.2.1 with hfm | ⟨fm, hfm⟩
  · refine va_gets hx hb hfm hS hown (hG _ q_f_J0_1053) (fun _ h9 => h9) dJ0_checkIndex_df160_2 ?_
    refine kcS (As := [.int x0, .int x1, .null]) (rest := []) F hE hP hl.1 (cc_J3_checkIndexN l D cy (x0 := x0) (x1 := x1) (p0 := (by first | omega | assumption)) (p1 := (by first | omega | assumption))) q_m_J0_1059 ms_J3_checkIndex_8e157 ⟨(Nat.le_of_ble_eq_true rfl), (Nat.le_of_ble_eq_true rfl)⟩ [] rfl rfl rfl (Nat.le_of_ble_eq_true rfl) ⟨(Nat.le_of_ble_eq_true rfl), (Nat.le_of_ble_eq_true rfl)⟩ dJ0_checkIndex_df160_5 (fun r_1 er_1 => ?_)
    refine lv_pop hx hb dJ0_checkIndex_df160_8 rfl ?_
    exact KV.rt () F (hP.sub [] rfl) (hD.sub [] (by decide) rfl) hS trivial (Nat.le_of_ble_eq_true rfl) (Nat.le_of_ble_eq_true rfl) dJ0_checkIndex_df160_9
  · refine va_gets hx hb hfm hS hown (hG _ q_f_J0_1053) (fun _ h9 => h9) dJ0_checkIndex_df160_2 ?_
    refine kcS (As := [.int x0, .int x1, .ref fm]) (rest := []) F hE hP hl.1 (cc_J3_checkIndexR l D cy (x0 := x0) (x1 := x1) (fm := fm) (p0 := (by first | omega | assumption)) (p1 := (by first | omega | assumption))) q_m_J0_1059 ms_J3_checkIndex_8e157 ⟨(Nat.le_of_ble_eq_true rfl), (Nat.le_of_ble_eq_true rfl)⟩ [] rfl rfl rfl (Nat.le_of_ble_eq_true rfl) ⟨(Nat.le_of_ble_eq_true rfl), (Nat.le_of_ble_eq_true rfl)⟩ dJ0_checkIndex_df160_5 (fun r_2 er_2 => ?_)
    refine lv_pop hx hb dJ0_checkIndex_df160_8 rfl ?_
    exact KV.rt () F (hP.sub [] rfl) (hD.sub [] (by decide) rfl) hS trivial (Nat.le_of_ble_eq_true rfl) (Nat.le_of_ble_eq_true rfl) dJ0_checkIndex_df160_9

set_option maxHeartbeats 4000000 in
set_option maxRecDepth 100000 in
theorem cc_J1_charAt_3b067 (l : Launch) (D : va_G) (cy : Nat → ClassId) (kt : Nat) (vt : Nat) (x0 : Int32) (p0 : 0 ≤ x0.toInt) (p1 : x0.toInt < 96) : JI l yJ1_charAt_3b067 cJ1_charAt_3b067 2 (some .char) 2 43 D (kTY cy) [.ref vt, .int x0] [] (ZT kt vt) (S := Unit) (fun r u => (narrow .char (.int r) = .int r)) (fun _ => []) 0 0 := by
  refine JI.of (by decide) (Nat.le_of_ble_eq_true rfl) (fun p e s m below meth c ls A F hE hP hD hA hS hl hZ => ?_)
  have F : kF p s m meth c cJ1_charAt_3b067 2 (some .char) _ RJ1 := F
  obtain ⟨hx, hb, hr, hml, hown, hG, hlk⟩ := id F
  have hl : lv_has ls 2 [(0, .ref vt), (1, .int x0)] := hl
  refine lv_iload_n hx hb dJ1_charAt_3b067_0 rfl (lv_at hl 1 rfl) ?_
  refine lv_aload_n hx hb dJ1_charAt_3b067_1 rfl (lv_at hl 0 rfl) ?_
  obtain ⟨bl, hbl⟩ := hZ.2.2.2.2.1
  refine va_tlen (v := 96) hx hb hbl hS (by decide) dJ1_charAt_3b067_2 ?_
  have lt32_0 : (96 : Int32).toInt = 96 := by decide
  refine jxSV (wr := []) (As := [.int x0, .int 96]) (rest := []) F hE hP hD hS hA hl.1 ZT_ok hZ (cc_J0_checkIndex_df160 l D cy (x0 := x0) (x1 := 96) (kt := kt) (vt := vt) (p0 := (by first | omega | assumption)) (p1 := (by first | omega | assumption))) q_m_J1_9 ms_J0_checkIndex_df160 ⟨(Nat.le_of_ble_eq_true rfl), (Nat.le_of_ble_eq_true rfl)⟩ [] [] (by decide) rfl rfl (by decide) (by decide) rfl rfl (Nat.le_of_ble_eq_true rfl) ⟨(Nat.le_of_ble_eq_true rfl), (Nat.le_of_ble_eq_true rfl)⟩ dJ1_charAt_3b067_3 (fun u_2 H locs eu_2 hP hD hS => ?_)
  have hP : va_P D vwCl [] H := hP
  have hD : va_D A [] := hD
  refine lv_aload_n hx hb dJ1_charAt_3b067_6 rfl (lv_at hl 0 rfl) ?_
  refine lv_iload_n hx hb dJ1_charAt_3b067_7 rfl (lv_at hl 1 rfl) ?_
  obtain ⟨bf, hbf⟩ := hZ.2.2.2.2.1
  refine va_tb hx hb hbf hS (k_in (by omega)) rfl dJ1_charAt_3b067_8 ?_
  refine lv_topi (fun z_3 ez_3 => ?_)
  refine lv_sipush (v := 255) hx hb dJ1_charAt_3b067_9 (by decide) ?_
  refine lv_iand hx hb dJ1_charAt_3b067_12 ?_
  refine lv_topi (fun z_4 ez_4 => ?_)
  refine lv_i2c hx hb dJ1_charAt_3b067_13 rfl ?_
  refine lv_topi (fun z_5 ez_5 => ?_)
  have ncz_5 : narrow .char (.int z_5) = .int z_5 := by rw [ez_5]; exact pk_nc _
  exact KI.rt () F (by assumption) (hP.sub [] rfl) (hD.sub [] (by decide) rfl) hS (show (narrow .char (.int z_5) = .int z_5) from (by assumption)) (Nat.le_of_ble_eq_true rfl) (Nat.le_of_ble_eq_true rfl) dJ1_charAt_3b067_14

set_option maxHeartbeats 4000000 in
set_option maxRecDepth 100000 in
theorem cc_J0_coder_7d493 (l : Launch) (D : va_G) (cy : Nat → ClassId) (kt : Nat) (vt : Nat)  : JI l yJ0_coder_7d493 cJ0_coder_7d493 1 (some .byte) 0 0 D (kTY cy) [.ref kt] [] (ZT kt vt) (S := Unit) (fun r u => (r = 0)) (fun _ => []) 0 0 := by
  refine JI.of (by decide) (Nat.le_of_ble_eq_true rfl) (fun p e s m below meth c ls A F hE hP hD hA hS hl hZ => ?_)
  have F : kF p s m meth c cJ0_coder_7d493 1 (some .byte) _ RJ0 := F
  obtain ⟨hx, hb, hr, hml, hown, hG, hlk⟩ := id F
  have hl : lv_has ls 1 [(0, .ref kt)] := hl
  refine va_gets hx hb hZ.2.2.2.2.2.1 hS hown (hG _ q_f_J0_38) (fun _ h9 => h9) dJ0_coder_7d493_0 ?_
  refine lv_if_eq (tgt := 13) hx hb dJ0_coder_7d493_3 (by decide) (fun q => absurd q (by decide)) (fun _ => ?_)
  refine lv_aload_n hx hb dJ0_coder_7d493_6 rfl (lv_at hl 0 rfl) ?_
  refine vk_getf hx hb hZ.2.2.1 hS hown (hG _ q_f_J0_15) (fun _ h9 => h9) dJ0_coder_7d493_7 ?_
  refine lv_goto (tgt := 14) hx hb dJ0_coder_7d493_10 (by decide) ?_
  have lit0 : (0 : Int32).toInt = 0 := by decide
  exact KI.rt () F rfl (hP.sub [] rfl) (hD.sub [] (by decide) rfl) hS (show (0 = 0) from rfl) (Nat.le_of_ble_eq_true rfl) (Nat.le_of_ble_eq_true rfl) dJ0_coder_7d493_14

set_option maxHeartbeats 4000000 in
set_option maxRecDepth 100000 in
theorem cc_J0_isLatin1_aae02 (l : Launch) (D : va_G) (cy : Nat → ClassId) (kt : Nat) (vt : Nat)  : JI l yJ0_isLatin1_aae02 cJ0_isLatin1_aae02 1 (some .boolean) 0 0 D (kTY cy) [.ref kt] [] (ZT kt vt) (S := Unit) (fun r u => (r = 1) ∧ (r.toInt = 0 ∨ r.toInt = 1)) (fun _ => []) 0 0 := by
  refine JI.of (by decide) (Nat.le_of_ble_eq_true rfl) (fun p e s m below meth c ls A F hE hP hD hA hS hl hZ => ?_)
  have F : kF p s m meth c cJ0_isLatin1_aae02 1 (some .boolean) _ RJ0 := F
  obtain ⟨hx, hb, hr, hml, hown, hG, hlk⟩ := id F
  have hl : lv_has ls 1 [(0, .ref kt)] := hl
  refine va_gets hx hb hZ.2.2.2.2.2.1 hS hown (hG _ q_f_J0_38) (fun _ h9 => h9) dJ0_isLatin1_aae02_0 ?_
  refine lv_if_eq (tgt := 17) hx hb dJ0_isLatin1_aae02_3 (by decide) (fun q => absurd q (by decide)) (fun _ => ?_)
  refine lv_aload_n hx hb dJ0_isLatin1_aae02_6 rfl (lv_at hl 0 rfl) ?_
  refine vk_getf hx hb hZ.2.2.1 hS hown (hG _ q_f_J0_15) (fun _ h9 => h9) dJ0_isLatin1_aae02_7 ?_
  refine lv_if_ne (tgt := 17) hx hb dJ0_isLatin1_aae02_10 (by decide) (fun q => absurd q (by decide)) (fun _ => ?_)
  refine lv_iconst (v := 1) hx hb dJ0_isLatin1_aae02_13 (by decide) ?_
  refine lv_goto (tgt := 18) hx hb dJ0_isLatin1_aae02_14 (by decide) ?_
  have lit0 : (1 : Int32).toInt = 1 := by decide
  exact KI.rt () F rfl (hP.sub [] rfl) (hD.sub [] (by decide) rfl) hS (show (1 = 1) ∧ ((1 : Int32).toInt = 0 ∨ (1 : Int32).toInt = 1) from ⟨rfl, (by first | omega | assumption)⟩) (Nat.le_of_ble_eq_true rfl) (Nat.le_of_ble_eq_true rfl) dJ0_isLatin1_aae02_18

set_option maxHeartbeats 4000000 in
set_option maxRecDepth 100000 in
theorem cc_J0_length_8abf5 (l : Launch) (D : va_G) (cy : Nat → ClassId) (kt : Nat) (vt : Nat)  : JI l yJ0_length_8abf5 cJ0_length_8abf5 1 (some .int) 1 20 D (kTY cy) [.ref kt] [] (ZT kt vt) (S := Unit) (fun r u => (r.toInt = 96)) (fun _ => []) 0 0 := by
  refine JI.of (by decide) (Nat.le_of_ble_eq_true rfl) (fun p e s m below meth c ls A F hE hP hD hA hS hl hZ => ?_)
  have F : kF p s m meth c cJ0_length_8abf5 1 (some .int) _ RJ0 := F
  obtain ⟨hx, hb, hr, hml, hown, hG, hlk⟩ := id F
  have hl : lv_has ls 1 [(0, .ref kt)] := hl
  refine lv_aload_n hx hb dJ0_length_8abf5_0 rfl (lv_at hl 0 rfl) ?_
  refine vk_getf hx hb hZ.2.2.2.1 hS hown (hG _ q_f_J0_9) (fun _ h9 => h9) dJ0_length_8abf5_1 ?_
  obtain ⟨bl, hbl⟩ := hZ.2.2.2.2.1
  refine va_tlen (v := 96) hx hb hbl hS (by decide) dJ0_length_8abf5_4 ?_
  refine lv_aload_n hx hb dJ0_length_8abf5_5 rfl (lv_at hl 0 rfl) ?_
  refine jxRI (wr := []) (As := []) (rest := [.int 96]) F hE hP hD hS hA hl.1 ZT_ok hZ (cc_J0_coder_7d493 l D cy (kt := kt) (vt := vt)) q_m_J0_335 mv_J0_coder_7d493 ⟨(Nat.le_of_ble_eq_true rfl), (Nat.le_of_ble_eq_true rfl)⟩ [] [] (by decide) rfl rfl (by decide) (by decide) (ZT.recv hZ hS) rfl rfl (Nat.le_of_ble_eq_true rfl) ⟨(Nat.le_of_ble_eq_true rfl), (Nat.le_of_ble_eq_true rfl)⟩ dJ0_length_8abf5_6 (fun r_2 u_1 H locs eu_1 hP hD hS => ?_)
  have eu_1 : (r_2 = 0) := eu_1
  have hP : va_P D vwCl [] H := hP
  have hD : va_D A [] := hD
  subst eu_1
  refine lv_ishr hx hb dJ0_length_8abf5_9 ?_
  refine k_top (z := 96) (by decide) ?_
  have lit0 : (96 : Int32).toInt = 96 := by decide
  exact KI.rt () F rfl (hP.sub [] rfl) (hD.sub [] (by decide) rfl) hS (show ((96 : Int32).toInt = 96) from (by first | omega | assumption)) (Nat.le_of_ble_eq_true rfl) (Nat.le_of_ble_eq_true rfl) dJ0_length_8abf5_10

set_option maxHeartbeats 4000000 in
set_option maxRecDepth 100000 in
theorem cc_J0_charAt_5068e (l : Launch) (D : va_G) (cy : Nat → ClassId) (kt : Nat) (vt : Nat) (x0 : Int32) (p0 : 0 ≤ x0.toInt) (p1 : x0.toInt < 96) : JI l yJ0_charAt_5068e cJ0_charAt_5068e 2 (some .char) 3 64 D (kTY cy) [.ref kt, .int x0] [] (ZT kt vt) (S := Unit) (fun r u => True) (fun _ => []) 0 0 := by
  refine JI.of (by decide) (Nat.le_of_ble_eq_true rfl) (fun p e s m below meth c ls A F hE hP hD hA hS hl hZ => ?_)
  have F : kF p s m meth c cJ0_charAt_5068e 2 (some .char) _ RJ0 := F
  obtain ⟨hx, hb, hr, hml, hown, hG, hlk⟩ := id F
  have hl : lv_has ls 2 [(0, .ref kt), (1, .int x0)] := hl
  refine lv_aload_n hx hb dJ0_charAt_5068e_0 rfl (lv_at hl 0 rfl) ?_
  refine jxRI (wr := []) (As := []) (rest := []) F hE hP hD hS hA hl.1 ZT_ok hZ (cc_J0_isLatin1_aae02 l D cy (kt := kt) (vt := vt)) q_m_J0_492 mv_J0_isLatin1_aae02 ⟨(Nat.le_of_ble_eq_true rfl), (Nat.le_of_ble_eq_true rfl)⟩ [] [] (by decide) rfl rfl (by decide) (by decide) (ZT.recv hZ hS) rfl rfl (Nat.le_of_ble_eq_true rfl) ⟨(Nat.le_of_ble_eq_true rfl), (Nat.le_of_ble_eq_true rfl)⟩ dJ0_charAt_5068e_1 (fun r_2 u_1 H locs eu_1 hP hD hS => ?_)
  have eu_1 : (r_2 = 1) ∧ (r_2.toInt = 0 ∨ r_2.toInt = 1) := eu_1
  obtain ⟨eu_1a, eu_1b⟩ := eu_1
  have hP : va_P D vwCl [] H := hP
  have hD : va_D A [] := hD
  subst eu_1a
  refine lv_if_eq (tgt := 16) hx hb dJ0_charAt_5068e_4 (by decide) (fun q => absurd q (by decide)) (fun _ => ?_)
  refine lv_aload_n hx hb dJ0_charAt_5068e_7 rfl (lv_at hl 0 rfl) ?_
  refine vk_getf hx hb hZ.2.2.2.1 hS hown (hG _ q_f_J0_9) (fun _ h9 => h9) dJ0_charAt_5068e_8 ?_
  refine lv_iload_n hx hb dJ0_charAt_5068e_11 rfl (lv_at hl 1 rfl) ?_
  refine jxSI (wr := []) (As := [.ref vt, .int x0]) (rest := []) F hE hP hD hS hA hl.1 ZT_ok hZ (cc_J1_charAt_3b067 l D cy (vt := vt) (x0 := x0) (kt := kt) (p0 := (by first | omega | assumption)) (p1 := (by first | omega | assumption))) q_m_J0_495 ms_J1_charAt_3b067 ⟨(Nat.le_of_ble_eq_true rfl), (Nat.le_of_ble_eq_true rfl)⟩ [] [] (by decide) rfl rfl (by decide) (by decide) rfl rfl (Nat.le_of_ble_eq_true rfl) ⟨(Nat.le_of_ble_eq_true rfl), (Nat.le_of_ble_eq_true rfl)⟩ dJ0_charAt_5068e_12 (fun r_4 u_3 H locs eu_3 hP hD hS => ?_)
  have eu_3 : (narrow .char (.int r_4) = .int r_4) := eu_3
  have hP : va_P D vwCl [] H := hP
  have hD : va_D A [] := hD
  exact KI.rt () F (by assumption) (hP.sub [] rfl) (hD.sub [] (by decide) rfl) hS trivial (Nat.le_of_ble_eq_true rfl) (Nat.le_of_ble_eq_true rfl) dJ0_charAt_5068e_15
