/-! ===== what the class's rows keep ===== -/
def FV (g : Nat → Int32) : Prop := (0 ≤ (g 2).toInt ∧ (g 2).toInt ≤ 12) ∧ (0 ≤ (g 3).toInt ∧ (g 3).toInt ≤ 6) ∧ (0 ≤ (g 4).toInt ∧ (g 4).toInt ≤ 5) ∧ (∀ a : Nat, a < 5 → 0 ≤ (g (38 + a)).toInt ∧ (g (38 + a)).toInt ≤ 5)
theorem FV.bounds {g : Nat → Int32} (h : FV g) : (0 ≤ (g 2).toInt ∧ (g 2).toInt ≤ 12) ∧ (0 ≤ (g 3).toInt ∧ (g 3).toInt ≤ 6) ∧ (0 ≤ (g 4).toInt ∧ (g 4).toInt ≤ 5) := ⟨h.1, h.2.1, h.2.2.1⟩
theorem FV.own {g : Nat → Int32} (h : FV g) (z : Int32) (h1 : 38 ≤ z.toInt ∧ z.toInt ≤ 42) : 0 ≤ (g z.toNatClampNeg).toInt ∧ (g z.toNatClampNeg).toInt ≤ 5 := by
  have q := h.2.2.2 (z.toInt.toNat - 38) (by omega)
  have e : 38 + (z.toInt.toNat - 38) = z.toNatClampNeg := by rw [k_cl]; omega
  rwa [e] at q
theorem FV.put {g : Nat → Int32} (h : FV g) (z v : Int32) (h0 : 0 ≤ z.toInt) (h2 : z.toInt = 2 → 0 ≤ v.toInt ∧ v.toInt ≤ 12) (h3 : z.toInt = 3 → 0 ≤ v.toInt ∧ v.toInt ≤ 6) (h4 : z.toInt = 4 → 0 ≤ v.toInt ∧ v.toInt ≤ 5) (h5 : 38 ≤ z.toInt ∧ z.toInt ≤ 42 → 0 ≤ v.toInt ∧ v.toInt ≤ 5) : FV (upd g z.toNatClampNeg v) := by
  obtain ⟨k, hk⟩ : ∃ k : Nat, z.toNatClampNeg = k := ⟨_, rfl⟩
  have ek : (k : Int) = z.toInt := by rw [← hk, k_cl]; omega
  rw [hk]
  obtain ⟨a1, a2, a3, a4⟩ := h
  refine ⟨?_, ?_, ?_, fun a ha => ?_⟩
  · by_cases e : 2 = k
    · rw [← e, k_upd_eq]; exact h2 (by omega)
    · rw [k_upd_ne e]; exact a1
  · by_cases e : 3 = k
    · rw [← e, k_upd_eq]; exact h3 (by omega)
    · rw [k_upd_ne e]; exact a2
  · by_cases e : 4 = k
    · rw [← e, k_upd_eq]; exact h4 (by omega)
    · rw [k_upd_ne e]; exact a3
  · by_cases e : 38 + a = k
    · rw [e, k_upd_eq]; exact h5 (by omega)
    · rw [k_upd_ne e]; exact a4 a ha
theorem FV.cong {g g' : Nat → Int32} (h : FV g) (e : ∀ i : Nat, i < 63 → g' i = g i) : FV g' := by
  obtain ⟨a1, a2, a3, a4⟩ := h
  refine ⟨?_, ?_, ?_, fun a ha => ?_⟩
  · rw [e _ (by omega)]; exact a1
  · rw [e _ (by omega)]; exact a2
  · rw [e _ (by omega)]; exact a3
  · rw [e _ (by omega)]; exact a4 a ha
theorem FV.zero {g : Nat → Int32} (h : ∀ i : Nat, i < 63 → g i = 0) : FV g := by
  have z : (0 : Int32).toInt = 0 := by decide
  refine ⟨?_, ?_, ?_, fun a ha => ?_⟩
  · rw [h _ (by omega), z]; omega
  · rw [h _ (by omega), z]; omega
  · rw [h _ (by omega), z]; omega
  · rw [h _ (by omega), z]; omega
/-- archers of notes -/
def NV (g : Nat → Int32) : Prop := ∀ j : Nat, j < 10 → 0 ≤ (g j).toInt ∧ (g j).toInt ≤ 4
theorem NV.at {g : Nat → Int32} (h : NV g) (z : Int32) (hz : 0 ≤ z.toInt ∧ z.toInt < 10) : 0 ≤ (g z.toNatClampNeg).toInt ∧ (g z.toNatClampNeg).toInt ≤ 4 := h _ (by rw [k_cl]; omega)
theorem NV.put {g : Nat → Int32} (h : NV g) (k : Nat) (v : Int32) (hv : 0 ≤ v.toInt ∧ v.toInt ≤ 4) : NV (upd g k v) := fun j hj => by
  by_cases e : j = k
  · rw [e, k_upd_eq]; exact hv
  · rw [k_upd_ne e]; exact h j hj
theorem NV.cong {g g' : Nat → Int32} (h : NV g) (e : ∀ i : Nat, i < 10 → g' i = g i) : NV g' := fun j hj => by rw [e j hj]; exact h j hj
theorem k_cpy {f g : Nat → Int32} {n i : Nat} (h : i < n) : va_cpy f g 0 0 n i = f i := by
  unfold va_cpy
  rw [if_pos (by omega), show 0 + (i - 0) = i by omega]
theorem k_remN {x y z : Int32} (ez : z = x - x / y * y) (h : 0 < y.toInt) (hx : 0 ≤ x.toInt) : 0 ≤ z.toInt := by
  rw [(k_remI ez rfl h).2.2 hx]; exact Int.emod_nonneg _ (by omega)
theorem k_mulB {x y z : Int32} {a b : Int} (ez : z = x * y) (hx : 0 ≤ x.toInt ∧ x.toInt ≤ a) (hy : 0 ≤ y.toInt ∧ y.toInt ≤ b) (hab : a * b ≤ 2147483647) : z.toInt = x.toInt * y.toInt ∧ 0 ≤ z.toInt ∧ z.toInt ≤ a * b := by
  have h1 : 0 ≤ x.toInt * y.toInt := Int.mul_nonneg hx.1 hy.1
  have h2 : x.toInt * y.toInt ≤ a * b := Int.mul_le_mul hx.2 hy.2 hy.1 (by omega)
  have e := k_mulI ez rfl rfl (by omega)
  omega
/-- a pair of two below r -/
theorem k_pair {p r z q m : Int32} (ez : z = r * r) (hr : 0 ≤ r.toInt ∧ r.toInt ≤ 6) (hp : 0 ≤ p.toInt ∧ p.toInt < z.toInt) (eq : q = p / r) (em : m = p - p / r * r) : 1 ≤ r.toInt ∧ z.toInt ≤ 36 ∧ 0 ≤ q.toInt ∧ q.toInt ≤ 5 ∧ 0 ≤ m.toInt ∧ m.toInt ≤ 5 := by
  obtain ⟨e1, e2, e3⟩ := k_mulB (a := 6) (b := 6) ez hr hr (by decide)
  have hr1 : 1 ≤ r.toInt := by
    rcases Int.lt_or_le r.toInt 1 with c | c
    · rw [show r.toInt = 0 by omega] at e1; omega
    · exact c
  have hq := k_divI eq rfl rfl hp.1 (by omega)
  obtain ⟨m1, m2, m3⟩ := k_remI em rfl (show 0 < r.toInt by omega)
  have m4 := k_remN em (by omega) hp.1
  have q1 : 0 ≤ p.toInt / r.toInt := Int.ediv_nonneg hp.1 (by omega)
  have q2 : p.toInt / r.toInt < r.toInt := Int.ediv_lt_of_lt_mul (by omega) (by omega)
  omega
theorem k_maxI {x y z : Int32} {a b : Int} (ez : z = if x < y then y else x) (ha : x.toInt = a) (hb : y.toInt = b) : (z.toInt = a ∨ z.toInt = b) ∧ a ≤ z.toInt ∧ b ≤ z.toInt := by
  by_cases h : x < y
  · rw [if_pos h] at ez
    have := k_lt h ha hb
    rw [ez]; omega
  · rw [if_neg h] at ez
    have := k_nlt h ha hb
    rw [ez]; omega
theorem k_minI {x y z : Int32} {a b : Int} (ez : z = if x < y then x else y) (ha : x.toInt = a) (hb : y.toInt = b) : (z.toInt = a ∨ z.toInt = b) ∧ z.toInt ≤ a ∧ z.toInt ≤ b := by
  by_cases h : x < y
  · rw [if_pos h] at ez
    have := k_lt h ha hb
    rw [ez]; omega
  · rw [if_neg h] at ez
    have := k_nlt h ha hb
    rw [ez]; omega
def NRV (g : Nat → Int32) : Prop := ∀ j : Nat, j < 10 → (g j).toInt ≤ 40
theorem NRV.at {g : Nat → Int32} (h : NRV g) (z : Int32) (hz : 0 ≤ z.toInt ∧ z.toInt < 10) : (g z.toNatClampNeg).toInt ≤ 40 := h _ (by rw [k_cl]; omega)
theorem NRV.put {g : Nat → Int32} (h : NRV g) (k : Nat) (v : Int32) (hv : v.toInt ≤ 40) : NRV (upd g k v) := fun j hj => by
  by_cases e : j = k
  · rw [e, k_upd_eq]; exact hv
  · rw [k_upd_ne e]; exact h j hj
theorem NRV.cong {g g' : Nat → Int32} (h : NRV g) (e : ∀ i : Nat, i < 10 → g' i = g i) : NRV g' := fun j hj => by rw [e j hj]; exact h j hj
