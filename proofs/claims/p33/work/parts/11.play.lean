/-! ===== what else the reference's plays keep ===== -/
theorem KV.mono {l : Launch} {y : MethodName} {cc : ByteArray} {nL : Nat} {fr lo : Nat} {D : va_G} {T : List (ClassId × FieldType)} {as : List Value} {w : va_W} {S : Type} {post post' : S → Prop} {wf : S → va_W} {mc ms : Nat} (h : ∀ u, post u → post' u) (hM : KV l y cc nL fr lo D T as w post wf mc ms) : KV l y cc nL fr lo D T as w post' wf mc ms := by
  intro sz p e ha hc hk s m args below hf happ hP hK
  obtain ⟨k, o, h1, h2, h3, ⟨⟨u, e1, e2, e3⟩, e4⟩, h5⟩ := hM sz p e ha hc hk s m args below hf happ hP hK
  exact ⟨k, o, h1, h2, h3, ⟨⟨u, e1, h u e2, e3⟩, e4⟩, h5⟩
/-- aims that are bound: a ring or none -/
def PLV (g : Nat → Int32) : Prop := ∀ j : Nat, j < 5 → -1 ≤ (g j).toInt ∧ (g j).toInt ≤ 5
theorem PLV.at {g : Nat → Int32} (h : PLV g) (z : Int32) (hz : 0 ≤ z.toInt ∧ z.toInt < 5) : -1 ≤ (g z.toNatClampNeg).toInt ∧ (g z.toNatClampNeg).toInt ≤ 5 := h _ (by rw [k_cl]; omega)
theorem PLV.put {g : Nat → Int32} (h : PLV g) (k : Nat) (v : Int32) (hv : -1 ≤ v.toInt ∧ v.toInt ≤ 5) : PLV (upd g k v) := fun j hj => by
  by_cases e : j = k
  · rw [e, k_upd_eq]; exact hv
  · rw [k_upd_ne e]; exact h j hj
/-- the text's numbers and the notes are as they were -/
def NB (g g' : Nat → Int32) : Prop := ∀ i : Nat, i < 10 ∨ 40 ≤ i → g' i = g i
theorem NB.refl {g : Nat → Int32} (_ : SV g) : NB g g := fun _ _ => rfl
theorem NB.put {g0 g : Nat → Int32} (h : NB g0 g) (z v : Int32) (h1 : 10 ≤ z.toInt ∧ z.toInt < 40) : NB g0 (upd g z.toNatClampNeg v) := fun i q => by
  rw [k_upd_ne (by rw [k_cl]; omega)]; exact h i q
theorem NB.e5 {a b : Nat → Int32} (h : NB a b) : (b 5).toInt = (a 5).toInt := by rw [h 5 (by omega)]
theorem NB.told {a b : Nat → Int32} (h : NB a b) (hs : SV a) (z : Int32) (k : Int) (h1 : z.toInt = 74 + 2 * k ∧ 0 ≤ k ∧ k < (a 5).toInt) : 1 ≤ (b z.toNatClampNeg).toInt := by
  rw [h _ (by rw [k_cl]; omega)]; exact hs.told z k h1
/-- the first k archers have some skill -/
def SK (g : Nat → Int32) (k : Int) : Prop := ∀ a : Nat, (a : Int) < k → 1 ≤ (g (25 + 3 * a)).toInt
theorem SK.zero {g : Nat → Int32} {k : Int} (h : k ≤ 0) : SK g k := fun a q => by omega
theorem SK.of {g : Nat → Int32} {k k' : Int} (h : SK g k) (e : k' ≤ k) : SK g k' := fun a q => h a (by omega)
theorem SK.put {g : Nat → Int32} {k : Int} (h : SK g k) (z v : Int32) (hz : z.toInt = 25 + 3 * k ∧ 0 ≤ k) (hv : 1 ≤ v.toInt) : SK (upd g z.toNatClampNeg v) (k + 1) := fun a q => by
  by_cases e : 25 + 3 * a = z.toNatClampNeg
  · rw [e, k_upd_eq]; exact hv
  · rw [k_upd_ne e]; exact h a (by rw [k_cl] at e; omega)
theorem SK.skip {g : Nat → Int32} {k : Int} (h : SK g k) (z v : Int32) (hz : (z.toInt - 25) % 3 ≠ 0 ∧ 0 ≤ z.toInt) : SK (upd g z.toNatClampNeg v) k := fun a q => by
  rw [k_upd_ne (by rw [k_cl]; omega)]; exact h a q
theorem NB.pr {g0 g : Nat → Int32} (h0 : SV g0) (h : NB g0 g) (hk : SK g (g0 5).toInt) : PR g0 g := by
  refine ⟨?_, h⟩
  obtain ⟨a1, a2, a3, a4, a5, a6, a7, a8⟩ := h0
  refine ⟨?_, ?_, ?_, ?_, ?_, ?_, ?_, ?_⟩
  · rw [h 3 (by omega)]; exact a1
  · rw [h 4 (by omega)]; exact a2
  · rw [h 5 (by omega)]; exact a3
  · intro a ha; rw [h _ (by omega)]; exact a4 a ha
  · intro a ha; rw [h 5 (by omega)] at ha; exact hk a ha
  · intro a ha; rw [h 5 (by omega)] at ha; rw [h _ (by omega)]; exact a6 a ha
  · rw [h 114 (by omega)]; exact a7
  · intro j hj; rw [h 114 (by omega)] at hj; rw [h _ (by omega)]; exact a8 j hj
/-- a copy of what is played with, as far as it is -/
def CP (g s : Nat → Int32) (b k : Int) : Prop := ∀ i : Nat, (i : Int) < k → g (b.toNat + i) = s (10 + i)
theorem CP.zero {g s : Nat → Int32} {b k : Int} (h : k ≤ 0) : CP g s b k := fun i q => by omega
theorem CP.of {g s : Nat → Int32} {b k k' : Int} (h : CP g s b k) (e : k' ≤ k) : CP g s b k' := fun i q => h i (by omega)
theorem CP.put {g s : Nat → Int32} {b k : Int} (h : CP g s b k) (z w : Int32) (hb : 0 ≤ b ∧ 0 ≤ k) (hz : z.toInt = b + k) (hw : w.toInt = 10 + k) : CP (upd g z.toNatClampNeg (s w.toNatClampNeg)) s b (k + 1) := fun i q => by
  by_cases e : b.toNat + i = z.toNatClampNeg
  · rw [e, k_upd_eq]; congr 1; rw [k_cl] at e ⊢; omega
  · rw [k_upd_ne e]; exact h i (by rw [k_cl] at e; omega)
theorem CP.kpt {g s : Nat → Int32} (h : CP g s 0 30) (hs : SV s) : KPT g (s 5).toInt := fun a q => by
  have q5 := hs.2.2.1
  have e := h (15 + 3 * a) (by omega)
  rw [show (0 : Int).toNat + (15 + 3 * a) = 15 + 3 * a by omega, show 10 + (15 + 3 * a) = 25 + 3 * a by omega] at e
  rw [e]; exact hs.2.2.2.2.1 a q
/-- the rows of acts that can be undone are good for n archers -/
def UV (g : Nat → Int32) (u n : Int) : Prop := ∀ j a : Nat, (j : Int) < u → (a : Int) < n → 1 ≤ (g (30 * j + 15 + 3 * a)).toInt
theorem UV.zero {g : Nat → Int32} {u n : Int} (h : u ≤ 0) : UV g u n := fun j a q => by omega
theorem UV.at {g : Nat → Int32} {u n : Int} (h : UV g u n) (j k z : Int32) (hj : 0 ≤ j.toInt ∧ j.toInt < u) (hk : 0 ≤ k.toInt ∧ k.toInt < 30) (hn : n ≤ 5) (hz : z.toInt = 30 * j.toInt + k.toInt) : k.toInt < 15 ∨ (k.toInt - 15) % 3 ≠ 0 ∨ 15 + 3 * n ≤ k.toInt ∨ 1 ≤ (g z.toNatClampNeg).toInt := by
  by_cases c1 : k.toInt < 15
  · exact Or.inl c1
  by_cases c2 : (k.toInt - 15) % 3 ≠ 0
  · exact Or.inr (Or.inl c2)
  by_cases c3 : 15 + 3 * n ≤ k.toInt
  · exact Or.inr (Or.inr (Or.inl c3))
  refine Or.inr (Or.inr (Or.inr ?_))
  have q := h j.toInt.toNat ((k.toInt.toNat - 15) / 3) (by omega) (by omega)
  have e : 30 * j.toInt.toNat + 15 + 3 * ((k.toInt.toNat - 15) / 3) = z.toNatClampNeg := by rw [k_cl]; omega
  rwa [e] at q
theorem UV.of {g : Nat → Int32} {u u' n n' : Int} (h : UV g u n) (e : u' ≤ u) (e2 : n' ≤ n) : UV g u' n' := fun j a q1 q2 => h j a (by omega) (by omega)
/-- all rows one on -/
def SH (g0 g : Nat → Int32) (k : Int) : Prop := ∀ i : Nat, g i = if (i : Int) + 30 < k then g0 (i + 30) else g0 i
theorem SH.zero {g : Nat → Int32} {k : Int} (h : k ≤ 30) : SH g g k := fun i => by rw [if_neg (by omega)]
theorem SH.put {g0 g : Nat → Int32} {k : Int} (h : SH g0 g k) (z w : Int32) (hk : 30 ≤ k) (hz : z.toInt = k - 30) (hw : w.toInt = k) : SH g0 (upd g z.toNatClampNeg (g w.toNatClampNeg)) (k + 1) := fun i => by
  by_cases e : i = z.toNatClampNeg
  · rw [e, k_upd_eq, h, if_neg (by rw [k_cl]; omega), if_pos (by rw [k_cl]; omega)]
    congr 1; rw [k_cl, k_cl]; omega
  · rw [k_upd_ne e, h]
    by_cases c : (i : Int) + 30 < k
    · rw [if_pos c, if_pos (by omega)]
    · rw [if_neg c, if_neg (by rw [k_cl] at e; omega)]
theorem SH.uv {g0 g : Nat → Int32} {n : Int} (h : SH g0 g 600) (hu : UV g0 20 n) (hn : n ≤ 5) : UV g 19 n := fun j a q1 q2 => by
  rw [h, if_pos (by omega), show 30 * j + 15 + 3 * a + 30 = 30 * (j + 1) + 15 + 3 * a by omega]
  exact hu (j + 1) a (by omega) q2
theorem UV.skip {g : Nat → Int32} {u n : Int} (h : UV g u n) (hn : n ≤ 5) (z v : Int32) (hz : 30 * u ≤ z.toInt) : UV (upd g z.toNatClampNeg v) u n := fun j a q1 q2 => by
  rw [k_upd_ne (by rw [k_cl]; omega)]; exact h j a q1 q2
theorem UV.more {g s : Nat → Int32} {u : Int} (h : UV g u (s 5).toInt) (h0 : 0 ≤ u) (hc : CP g s (30 * u) 30) (hs : SV s) : UV g (u + 1) (s 5).toInt := fun j a q1 q2 => by
  by_cases c : (j : Int) < u
  · exact h j a c q2
  · have q5 := hs.2.2.1
    have e := hc (15 + 3 * a) (by omega)
    rw [show (30 * u).toNat + (15 + 3 * a) = 30 * j + 15 + 3 * a by omega, show 10 + (15 + 3 * a) = 25 + 3 * a by omega] at e
    rw [e]; exact hs.2.2.2.2.1 a q2
theorem RKI.bd {g : Nat → Int32} {b e k t : Int} (hs : CS g b e 1 60) (h : RKI g b k t) (hk : b + k ≤ e) : 0 ≤ t ∧ t ≤ 60 := by
  obtain ⟨s1, s2, s3, s4, s5, s6⟩ := hs
  obtain ⟨r1, r2, r3, r4⟩ := h
  have p1 := cRun_push r4
  have p2 := cPush_mono (g := g) (b := b.toNat) (show k.toNat ≤ (e - b).toNat by omega)
  omega
