/-! ===== blocks: lists of cells in any order ===== -/
theorem perm_of {l1 l2 : va_W} (h : ∀ c : va_W → Nat, (∀ a b, c (a ++ b) = c a + c b) → c [] = 0 → c l1 = c l2) : l1.Perm l2 := by
  haveI : DecidableEq (Nat × va_E) := fun a b => Classical.propDecidable (a = b)
  rw [List.perm_iff_count]
  intro a
  exact h (fun l => l.count a) (fun x y => List.count_append) rfl
theorem va_P.perm {D : va_G} {cl : List vw_C} {ws ws' : va_W} {H : Heap} (h : va_P D cl ws H) (hp : ws.Perm ws') : va_P D cl ws' H := fun k q hq => by
  obtain ⟨i, hi⟩ := List.mem_iff_getElem?.mp (hp.mem_iff.mpr (List.mem_of_getElem? hq))
  exact h i q hi
theorem va_ndp {ws : va_W} : (∀ (i j : Nat) (p q : Nat × va_E), ws[i]? = some p → ws[j]? = some q → p.1 = q.1 → i = j) ↔ (ws.map Prod.fst).Nodup := by
  constructor
  · intro h
    rw [List.Nodup, List.pairwise_iff_getElem]
    intro i j hi hj hij e
    have hi' : i < ws.length := by simpa using hi
    have hj' : j < ws.length := by simpa using hj
    rw [List.getElem_map, List.getElem_map] at e
    have := h i j ws[i] ws[j] (List.getElem?_eq_getElem hi') (List.getElem?_eq_getElem hj') e
    omega
  · intro h i j p q hi hj e
    rw [List.Nodup, List.pairwise_iff_getElem] at h
    obtain ⟨hi', rfl⟩ := List.getElem?_eq_some_iff.mp hi
    obtain ⟨hj', rfl⟩ := List.getElem?_eq_some_iff.mp hj
    rcases Nat.lt_trichotomy i j with c | c | c
    · have := h i j (by simpa using hi') (by simpa using hj') c
      rw [List.getElem_map, List.getElem_map] at this
      exact absurd e this
    · exact c
    · have := h j i (by simpa using hj') (by simpa using hi') c
      rw [List.getElem_map, List.getElem_map] at this
      exact absurd e.symm this
theorem va_D.perm {A : Nat → Prop} {ws ws' : va_W} (h : va_D A ws) (hp : ws.Perm ws') : va_D A ws' := ⟨va_ndp.mpr ((hp.map Prod.fst).nodup_iff.mp (va_ndp.mp h.1)), fun k q hq => by
  obtain ⟨i, hi⟩ := List.mem_iff_getElem?.mp (hp.mem_iff.mpr (List.mem_of_getElem? hq))
  exact h.2 i q hi⟩
theorem k_rngC (w wr : va_W) : (List.range w.length).map (fun i => (w ++ wr)[i]?) = w.map some := by
  refine List.ext_getElem (by simp) (fun i h1 h2 => ?_)
  have hi : i < w.length := by simpa using h1
  rw [List.getElem_map, List.getElem_range, List.getElem_map, List.getElem?_append_left hi, List.getElem?_eq_getElem hi]
theorem k_rngR (w wr : va_W) : ((List.range wr.length).map (fun i => w.length + i)).map (fun i => (w ++ wr)[i]?) = wr.map some := by
  refine List.ext_getElem (by simp) (fun i h1 h2 => ?_)
  have hi : i < wr.length := by simpa using h1
  rw [List.getElem_map, List.getElem_map, List.getElem_range, List.getElem_map, List.getElem?_append_right (by omega), Nat.add_sub_cancel_left, List.getElem?_eq_getElem hi]
theorem va_nd_of : ∀ {l : List Nat}, l.Nodup → va_nd l = true
  | [], _ => rfl
  | a :: l, h => by
    rw [List.nodup_cons] at h
    simp only [va_nd, Bool.and_eq_true, decide_eq_true_eq]
    exact ⟨h.1, va_nd_of h.2⟩
theorem k_ndR (n k : Nat) : va_nd ((List.range k).map (fun i => n + i)) = true := by
  refine va_nd_of ?_
  rw [List.Nodup, List.pairwise_iff_getElem]
  intro i j hi hj hij e
  rw [List.getElem_map, List.getElem_map, List.getElem_range, List.getElem_range] at e
  omega
theorem k_ndC (n : Nat) : va_nd (List.range n) = true := by
  refine va_nd_of ?_
  rw [List.Nodup, List.pairwise_iff_getElem]
  intro i j hi hj hij e
  rw [List.getElem_range, List.getElem_range] at e
  omega
theorem k_disR (n k : Nat) : ∀ i ∈ (List.range k).map (fun i => n + i), i ∉ List.range n := by
  intro i hi hj
  obtain ⟨j, hj1, rfl⟩ := List.mem_map.mp hi
  rw [List.mem_range] at hj
  omega
theorem va_joinA {A0 : Nat → Prop} {D : va_G} {cl : List vw_C} {w wr w1 : va_W} {H H1 : Heap} (hP : va_P D cl (w ++ wr) H) (hD : va_D A0 (w ++ wr)) (hk : ∀ q : Nat, q < H.size → ¬ va_A w H.size q → H1[q]? = H[q]?) (hF : ∀ q, va_A w H.size q → A0 q) (hP1 : va_P D cl w1 H1) (hD1 : va_D (va_A w H.size) w1) : va_P D cl (w1 ++ wr) H1 ∧ va_D A0 (w1 ++ wr) := by
  obtain ⟨j1, j2⟩ := va_join hP hD (List.range w.length) ((List.range wr.length).map (fun i => w.length + i)) (k_rngC w wr) (k_rngR w wr) (k_ndR _ _) (k_disR _ _) hk hF hP1 hD1
  exact ⟨j1.perm List.perm_append_comm, j2.perm List.perm_append_comm⟩
theorem JI.ofK {l : Launch} {y : MethodName} {cc : ByteArray} {nL : Nat} {ret : Option FieldType} {fr lo : Nat} {D : va_G} {T : List (ClassId × FieldType)} {as : List Value} {w : va_W} {Z : ((Nat → Prop) → State → Heap → Prop)} {S : Type} {post : Int32 → S → Prop} {wf : S → va_W} {mc ms : Nat} (h : KI l y cc nL ret fr lo D T as w post wf mc ms) : JI l y cc nL ret fr lo D T as w Z post wf mc ms := fun sz p e ha hc hk s m args below hf happ hPc hK => h sz p e ha hc hk s m args below hf happ ⟨hPc.1, hPc.2.1⟩ hK
theorem JI.ofP {l : Launch} {y : MethodName} {cc : ByteArray} {nL : Nat} {ret : Option FieldType} {fr lo : Nat} {D : va_G} {T : List (ClassId × FieldType)} {as : List Value} {w : va_W} {Z : ((Nat → Prop) → State → Heap → Prop)} {post : Int32 → Prop} (h : KP l y cc nL ret fr lo D T as w post) : JI l y cc nL ret fr lo D T as w Z (S := va_W) (fun r u => post r ∧ u = w) (fun u => u) 0 0 := by
  intro sz p e ha hc hk s m args below hf happ hPc hK
  obtain ⟨rfl, ⟨hsz, hP, hE, hD⟩, hZ⟩ := hPc
  obtain ⟨k, o, h1, h2, h3, ⟨r, e1, e2, e3⟩, L, hL, hfr⟩ := h p e ha hc hk s m _ below hf happ ⟨rfl, hP, hE⟩ hK
  exact ⟨k, o, h1, h2, h3, ⟨⟨r, w, e1, ⟨e2, rfl⟩, by rw [e3]; exact hP, hD.self⟩, by rw [e3]; exact Nat.le_refl _, fun q _ _ => by rw [e3]⟩, L, hL, fun q hq => (hfr q hq).elim⟩
/-- a method's contract beside more cells, in any order -/
theorem JI.lift {l : Launch} {y : MethodName} {cc : ByteArray} {nL : Nat} {ret : Option FieldType} {fr lo : Nat} {D : va_G} {T : List (ClassId × FieldType)} {as : List Value} {w : va_W} {Z1 : ((Nat → Prop) → State → Heap → Prop)} {S : Type} {post : Int32 → S → Prop} {wf : S → va_W} {mc ms : Nat} (h : JI l y cc nL ret fr lo D T as w Z1 post wf mc ms) {Z : ((Nat → Prop) → State → Heap → Prop)} (hz : zOW Z) (hZ : ∀ (A : Nat → Prop) (U : State) (H : Heap), Z A U H → Z1 A U H) {W wr : va_W} (hp : W.Perm (w ++ wr)) {Φ : Int32 → va_W → Prop} (hΦ : ∀ (r : Int32) (u : S), post r u → ∃ u' : va_W, Φ r u' ∧ u'.Perm (wf u ++ wr)) : JI l y cc nL ret fr lo D T as W Z (S := va_W) Φ (fun u => u) mc ms := by
  intro sz p e ha hc hk s m args below hf happ hPc hK
  obtain ⟨rfl, ⟨hsz, hP, hE, hD⟩, hZs⟩ := hPc
  have hP' := hP.perm hp
  have hD' := hD.perm hp
  have hsub : ∀ q, va_A w sz q → va_A W sz q := fun q hq => by
    rcases hq with ⟨k, e9, hk9⟩ | hq
    · obtain ⟨i, hi⟩ := List.mem_iff_getElem?.mp (hp.mem_iff.mpr (List.mem_append_left wr (List.mem_of_getElem? hk9)))
      exact Or.inl ⟨i, e9, hi⟩
    · exact Or.inr hq
  obtain ⟨k, o, h1, h2, h3, ⟨⟨r, u, e1, e2, e3, e3'⟩, e4, e4'⟩, L, hL, hfr⟩ := h sz p e ha hc hk s m _ below hf happ ⟨rfl, ⟨hsz, k_Pl hP', hE, k_Dl hD'⟩, hZ _ _ _ (hz.2.2.1 _ _ _ _ hsub hZs)⟩ hK
  obtain ⟨u', f1, f2⟩ := hΦ r u e2
  subst hsz
  obtain ⟨j1, j2⟩ := va_joinA (A0 := va_A W s.heap.size) hP' ((hD.self (sz := s.heap.size)).perm hp) e4' hsub e3 e3'
  exact ⟨k, o, h1, h2, h3, ⟨⟨r, u', e1, f1, j1.perm f2.symm, j2.perm f2.symm⟩, e4, fun q hq hA => e4' q hq (fun x => hA (hsub q x))⟩, L, hL, fun q hq => hsub _ (hfr q hq)⟩
/-- rules that were told: frozen -/
def ZFz (D : va_G) (T : va_W) (A : Nat → Prop) (_ : State) (H : Heap) : Prop := va_P D vwCl T H ∧ ∀ (k : Nat) (q : Nat × va_E), T[k]? = some q → ¬ A q.1
theorem ZFz_ok {D : va_G} {T : va_W} : zOK (ZFz D T) := ⟨fun _ _ _ _ _ h => h, fun A U H H1 hq h => ⟨fun k q hk => (h.1 k q hk).kept (hq q.1 (h.1 k q hk).lt (h.2 k q hk)), h.2⟩, fun A B U H hAB h => ⟨h.1, fun k q hk x => h.2 k q hk (hAB _ x)⟩⟩
def ZA (D : va_G) (T : va_W) (kt vt : Nat) (A : Nat → Prop) (U : State) (H : Heap) : Prop := ZFz D T A U H ∧ ZT kt vt A U H
theorem ZA_ok {D : va_G} {T : va_W} {kt vt : Nat} : zOW (ZA D T kt vt) := ⟨fun A u U H hW h => ⟨ZFz_ok.1 A u U H hW.alike h.1, ZT_ok.1 A u U H hW h.2⟩, fun A U H H1 hq h => ⟨ZFz_ok.2.1 A U H H1 hq h.1, ZT_ok.2.1 A U H H1 hq h.2⟩, fun A B U H hAB h => ⟨ZFz_ok.2.2 A B U H hAB h.1, ZT_ok.2.2.1 A B U H hAB h.2⟩, fun A U H g mk a h => ⟨h.1, ZT_ok.2.2.2 A U H g mk a h.2⟩⟩
theorem FV4.mono {g : Nat → Int32} {r r' : Int} (h : FV4 g r) (e : r ≤ r') : FV4 g r' := fun j hj => by
  have := h j hj
  omega

def BTa (cy : Nat → ClassId) (a : Nat) (w : va_W) : Prop := ∃ (a_by : Nat) (a_ki : Nat) (a_va : Nat) (a_pl : Nat) (a_len : Int32) (a_tok : Int32) (a_at : Int32) (a_kind : Int32) (a_value : Int32) (a_place : Int32) (a_fault : Int32) (g_aby : Nat → Int32) (g_aki : Nat → Int32) (g_ava : Nat → Int32) (g_apl : Nat → Int32), w = [(a, .inr (10, [.ref a_by, .int a_len, .ref a_ki, .ref a_va, .ref a_pl, .int a_tok, .int a_at, .int a_kind, .int a_value, .int a_place, .int a_fault])), (a_by, .inl (cy 0, 400, .inl g_aby)), (a_ki, .inl (cy 0, 401, .inl g_aki)), (a_va, .inl (cy 0, 401, .inl g_ava)), (a_pl, .inl (cy 0, 401, .inl g_apl))] ∧ (0 ≤ a_len.toInt) ∧ (a_len.toInt ≤ 400) ∧ (a_kind.toInt = 1 ∨ a_kind.toInt = 3 → 0 ≤ a_value.toInt ∧ a_value.toInt ≤ 99999) ∧ (0 ≤ a_place.toInt) ∧ (a_place.toInt ≤ 400) ∧ (-1 ≤ a_at.toInt) ∧ (a_at.toInt ≤ 400)

def BGr (cy : Nat → ClassId) (a : Nat) (w : va_W) : Prop := ∃ (ad : Nat) (ad_c : Nat) (g_ad : Nat → Int32), w = [(a, .inr (3, [.ref ad])), (ad, .inr (1, [.ref ad_c])), (ad_c, .inl (cy 0, 63, .inl g_ad))] ∧ (DV g_ad)

def BRr (cy : Nat → ClassId) (a : Nat) (w : va_W) : Prop := ∃ (a_st : Nat) (a_size : Int32) (a_parts : Int32) (g_ast : Nat → Int32), w = [(a, .inr (8, [.ref a_st, .int a_size, .int a_parts])), (a_st, .inl (cy 0, 412, .inl g_ast))]

def BRu (cy : Nat → ClassId) (T : va_W) (a : Nat) (w : va_W) : Prop := ∃ (g_a : Nat → Option Nat), w = [(a, .inl (cy 5, 6, .inr (.inr (.inr (.inr g_a)))))] ∧ (RAll T (cy 0) g_a)

def BMo (cy : Nat → ClassId) (a : Nat) (a_x : Int32) (a_made : Int32) (w : va_W) : Prop := ∃ (af : Nat) (af_c : Nat) (g_af : Nat → Int32) (ab : Nat) (ab_c : Nat) (g_ab : Nat → Int32) (an : Nat) (an_r : Nat) (an_a : Nat) (an_p : Nat) (an_size : Int32) (g_anr : Nat → Int32) (g_ana : Nat → Int32) (g_anp : Nat → Int32) (a_force : Int32), w = [(a, .inr (4, [.ref af, .ref ab, .ref an, .int a_force, .int a_x, .int a_made])), (af, .inr (1, [.ref af_c])), (af_c, .inl (cy 0, 63, .inl g_af)), (ab, .inr (1, [.ref ab_c])), (ab_c, .inl (cy 0, 63, .inl g_ab)), (an, .inr (5, [.ref an_r, .ref an_a, .ref an_p, .int an_size])), (an_r, .inl (cy 0, 10, .inl g_anr)), (an_a, .inl (cy 0, 10, .inl g_ana)), (an_p, .inl (cy 0, 10, .inl g_anp))] ∧ (FV g_af) ∧ (FV g_ab) ∧ (NRV g_anr) ∧ (NV g_ana) ∧ (0 ≤ an_size.toInt) ∧ (an_size.toInt ≤ 10)

def BIm (cy : Nat → ClassId) (k0 k1 k2 k3 : Nat) (a : Nat) (w : va_W) : Prop := ∃ (a_w : Nat → Option Nat), w = [(a, .inl (cy 4, 4, .inr (.inr (.inr (.inr a_w)))))] ∧ (a_w 0 = some k0) ∧ (a_w 1 = some k1) ∧ (a_w 2 = some k2) ∧ (a_w 3 = some k3)

def BAc (cy : Nat → ClassId) (a : Nat) (w : va_W) : Prop := ∃ (a_aw : Nat) (a_next : Int32) (a_size : Int32) (a_rw : Nat → Option Nat) (a_r0 : Nat) (a_r1 : Nat) (a_r2 : Nat) (a_r3 : Nat) (a_r4 : Nat) (a_r5 : Nat) (a_r6 : Nat) (a_r7 : Nat) (a_r8 : Nat) (a_r9 : Nat) (a_r10 : Nat) (a_r11 : Nat) (a_r12 : Nat) (a_r13 : Nat) (a_r14 : Nat) (a_r15 : Nat) (a_r16 : Nat) (a_r17 : Nat) (a_r18 : Nat) (a_r19 : Nat) (g_a_r0 : Nat → Int32) (g_a_r1 : Nat → Int32) (g_a_r2 : Nat → Int32) (g_a_r3 : Nat → Int32) (g_a_r4 : Nat → Int32) (g_a_r5 : Nat → Int32) (g_a_r6 : Nat → Int32) (g_a_r7 : Nat → Int32) (g_a_r8 : Nat → Int32) (g_a_r9 : Nat → Int32) (g_a_r10 : Nat → Int32) (g_a_r11 : Nat → Int32) (g_a_r12 : Nat → Int32) (g_a_r13 : Nat → Int32) (g_a_r14 : Nat → Int32) (g_a_r15 : Nat → Int32) (g_a_r16 : Nat → Int32) (g_a_r17 : Nat → Int32) (g_a_r18 : Nat → Int32) (g_a_r19 : Nat → Int32), w = [(a, .inr (0, [.ref a_aw, .int a_next, .int a_size])), (a_aw, .inl (cy 6, 20, .inr (.inr (.inr (.inr a_rw))))), (a_r0, .inl (cy 0, 63, .inl g_a_r0)), (a_r1, .inl (cy 0, 63, .inl g_a_r1)), (a_r2, .inl (cy 0, 63, .inl g_a_r2)), (a_r3, .inl (cy 0, 63, .inl g_a_r3)), (a_r4, .inl (cy 0, 63, .inl g_a_r4)), (a_r5, .inl (cy 0, 63, .inl g_a_r5)), (a_r6, .inl (cy 0, 63, .inl g_a_r6)), (a_r7, .inl (cy 0, 63, .inl g_a_r7)), (a_r8, .inl (cy 0, 63, .inl g_a_r8)), (a_r9, .inl (cy 0, 63, .inl g_a_r9)), (a_r10, .inl (cy 0, 63, .inl g_a_r10)), (a_r11, .inl (cy 0, 63, .inl g_a_r11)), (a_r12, .inl (cy 0, 63, .inl g_a_r12)), (a_r13, .inl (cy 0, 63, .inl g_a_r13)), (a_r14, .inl (cy 0, 63, .inl g_a_r14)), (a_r15, .inl (cy 0, 63, .inl g_a_r15)), (a_r16, .inl (cy 0, 63, .inl g_a_r16)), (a_r17, .inl (cy 0, 63, .inl g_a_r17)), (a_r18, .inl (cy 0, 63, .inl g_a_r18)), (a_r19, .inl (cy 0, 63, .inl g_a_r19))] ∧ (FV g_a_r0) ∧ (FV g_a_r1) ∧ (FV g_a_r2) ∧ (FV g_a_r3) ∧ (FV g_a_r4) ∧ (FV g_a_r5) ∧ (FV g_a_r6) ∧ (FV g_a_r7) ∧ (FV g_a_r8) ∧ (FV g_a_r9) ∧ (FV g_a_r10) ∧ (FV g_a_r11) ∧ (FV g_a_r12) ∧ (FV g_a_r13) ∧ (FV g_a_r14) ∧ (FV g_a_r15) ∧ (FV g_a_r16) ∧ (FV g_a_r17) ∧ (FV g_a_r18) ∧ (FV g_a_r19) ∧ (0 ≤ a_next.toInt) ∧ (a_next.toInt ≤ 19) ∧ (0 ≤ a_size.toInt) ∧ (a_size.toInt ≤ 20) ∧ (a_rw 0 = some a_r0) ∧ (a_rw 1 = some a_r1) ∧ (a_rw 2 = some a_r2) ∧ (a_rw 3 = some a_r3) ∧ (a_rw 4 = some a_r4) ∧ (a_rw 5 = some a_r5) ∧ (a_rw 6 = some a_r6) ∧ (a_rw 7 = some a_r7) ∧ (a_rw 8 = some a_r8) ∧ (a_rw 9 = some a_r9) ∧ (a_rw 10 = some a_r10) ∧ (a_rw 11 = some a_r11) ∧ (a_rw 12 = some a_r12) ∧ (a_rw 13 = some a_r13) ∧ (a_rw 14 = some a_r14) ∧ (a_rw 15 = some a_r15) ∧ (a_rw 16 = some a_r16) ∧ (a_rw 17 = some a_r17) ∧ (a_rw 18 = some a_r18) ∧ (a_rw 19 = some a_r19)

def BPl (cy : Nat → ClassId) (a : Nat) (w : va_W) : Prop := ∃ (af : Nat) (af_c : Nat) (g_af : Nat → Int32) (a_ca : Nat) (a_bo : Nat) (a_wd : Nat) (a_sk : Nat) (a_gust : Int32) (a_still : Int32) (a_rv : Value) (g_aca : Nat → Int32) (g_abo : Nat → Int32) (g_awd : Nat → Int64) (g_ask : Nat → Int64), w = [(a, .inr (6, [.ref af, .ref a_ca, .ref a_bo, .int a_gust, .int a_still, a_rv, .ref a_wd, .ref a_sk])), (af, .inr (1, [.ref af_c])), (af_c, .inl (cy 0, 63, .inl g_af)), (a_ca, .inl (cy 0, 5, .inl g_aca)), (a_bo, .inl (cy 0, 5, .inl g_abo)), (a_wd, .inl (cy 1, 13, .inr (.inl g_awd))), (a_sk, .inl (cy 1, 64, .inr (.inl g_ask)))] ∧ (FV g_af) ∧ (PLV g_abo)

def BFc (cy : Nat → ClassId) (a : Nat) (w : va_W) : Prop := ∃ (a_one : Nat) (a_oth : Nat) (a_which : Int32) (a_much : Int32) (a_drawn : Int32) (g_aone : Nat → Int32) (g_aoth : Nat → Int32), w = [(a, .inr (2, [.int a_which, .int a_much, .int a_drawn, .ref a_one, .ref a_oth])), (a_one, .inl (cy 0, 36, .inl g_aone)), (a_oth, .inl (cy 0, 36, .inl g_aoth))]

def BSd (cy : Nat → ClassId) (a : Nat) (w : va_W) : Prop := ∃ (a_cm : Nat) (a_fit : Int32) (a_first : Int32) (a_rw : Nat → Option Nat) (a_r0 : Nat) (a_r1 : Nat) (a_r2 : Nat) (a_r3 : Nat) (a_r4 : Nat) (a_r5 : Nat) (a_r6 : Nat) (g_a_r0 : Nat → Int32) (g_a_r1 : Nat → Int32) (g_a_r2 : Nat → Int32) (g_a_r3 : Nat → Int32) (g_a_r4 : Nat → Int32) (g_a_r5 : Nat → Int32) (g_a_r6 : Nat → Int32), w = [(a, .inr (9, [.int a_fit, .int a_first, .ref a_cm])), (a_cm, .inl (cy 6, 7, .inr (.inr (.inr (.inr a_rw))))), (a_r0, .inl (cy 0, 5, .inl g_a_r0)), (a_r1, .inl (cy 0, 5, .inl g_a_r1)), (a_r2, .inl (cy 0, 5, .inl g_a_r2)), (a_r3, .inl (cy 0, 5, .inl g_a_r3)), (a_r4, .inl (cy 0, 5, .inl g_a_r4)), (a_r5, .inl (cy 0, 5, .inl g_a_r5)), (a_r6, .inl (cy 0, 5, .inl g_a_r6))] ∧ (a_rw 0 = some a_r0) ∧ (a_rw 1 = some a_r1) ∧ (a_rw 2 = some a_r2) ∧ (a_rw 3 = some a_r3) ∧ (a_rw 4 = some a_r4) ∧ (a_rw 5 = some a_r5) ∧ (a_rw 6 = some a_r6)

/-- the class: its rules T, its x, its images -/
def LCB (cy : Nat → ClassId) (T : va_W) (o : Nat) (x : Int32) (ix md : Nat → Int32) (w : va_W) : Prop := ∃ (ta gr rr ru nw im ac pl fc sd k0 k1 k2 k3 : Nat) (o_rc nmd : Int32) (wta wgr wrr wru wnw wim wm0 wm1 wm2 wm3 wac wpl wfc wsd : va_W), w = [(o, .inr (11, [.ref ta, .ref gr, .ref rr, .ref ru, .int o_rc, .ref nw, .ref im, .ref ac, .ref pl, .ref fc, .ref sd]))] ++ (wta ++ (wgr ++ (wrr ++ (wru ++ (wnw ++ (wim ++ (wm0 ++ (wm1 ++ (wm2 ++ (wm3 ++ (wac ++ (wpl ++ (wfc ++ wsd))))))))))))) ∧ 0 ≤ o_rc.toInt ∧ o_rc.toInt ≤ 6 ∧ BTa cy ta wta ∧ BGr cy gr wgr ∧ BRr cy rr wrr ∧ BRu cy T ru wru ∧ BMo cy nw x nmd wnw ∧ BIm cy k0 k1 k2 k3 im wim ∧ BMo cy k0 (ix 0) (md 0) wm0 ∧ BMo cy k1 (ix 1) (md 1) wm1 ∧ BMo cy k2 (ix 2) (md 2) wm2 ∧ BMo cy k3 (ix 3) (md 3) wm3 ∧ BAc cy ac wac ∧ BPl cy pl wpl ∧ BFc cy fc wfc ∧ BSd cy sd wsd

theorem LCB.recv {cy : Nat → ClassId} {T : va_W} {o : Nat} {x : Int32} {ix md : Nat → Int32} {w : va_W} (h : LCB cy T o x ix md w) : ∃ fs : List Value, w[0]? = some (o, .inr (11, fs)) := by
  obtain ⟨ta, gr, rr, ru, nw, im, ac, pl, fc, sd, k0, k1, k2, k3, o_rc, nmd, wta, wgr, wrr, wru, wnw, wim, wm0, wm1, wm2, wm3, wac, wpl, wfc, wsd, rfl, -⟩ := h
  exact ⟨_, rfl⟩
