/-! ===== what the reference's row of numbers keeps ===== -/
def SV (g : Nat → Int32) : Prop := (0 ≤ (g 3).toInt ∧ (g 3).toInt ≤ 12) ∧ (0 ≤ (g 4).toInt ∧ (g 4).toInt ≤ 6) ∧ (0 ≤ (g 5).toInt ∧ (g 5).toInt ≤ 5) ∧ (∀ a : Nat, a < 5 → 0 ≤ (g (46 + a)).toInt ∧ (g (46 + a)).toInt ≤ 5) ∧ (∀ a : Nat, (a : Int) < (g 5).toInt → 1 ≤ (g (25 + 3 * a)).toInt) ∧ (∀ a : Nat, (a : Int) < (g 5).toInt → 1 ≤ (g (74 + 2 * a)).toInt) ∧ (0 ≤ (g 114).toInt ∧ (g 114).toInt ≤ 10) ∧ (∀ j : Nat, (j : Int) < (g 114).toInt → 0 ≤ (g (85 + 3 * j)).toInt ∧ (g (85 + 3 * j)).toInt ≤ 4)
theorem SV.own {g : Nat → Int32} (h : SV g) (z : Int32) (h1 : 46 ≤ z.toInt ∧ z.toInt ≤ 50) : 0 ≤ (g z.toNatClampNeg).toInt ∧ (g z.toNatClampNeg).toInt ≤ 5 := by
  have q := h.2.2.2.1 (z.toInt.toNat - 46) (by omega)
  have e : 46 + (z.toInt.toNat - 46) = z.toNatClampNeg := by rw [k_cl]; omega
  rwa [e] at q
theorem SV.skill {g : Nat → Int32} (h : SV g) (z : Int32) (a : Int) (h1 : z.toInt = 25 + 3 * a ∧ 0 ≤ a ∧ a < (g 5).toInt) : 1 ≤ (g z.toNatClampNeg).toInt := by
  have q := h.2.2.2.2.1 a.toNat (by omega)
  have e : 25 + 3 * a.toNat = z.toNatClampNeg := by rw [k_cl]; omega
  rwa [e] at q
theorem SV.told {g : Nat → Int32} (h : SV g) (z : Int32) (a : Int) (h1 : z.toInt = 74 + 2 * a ∧ 0 ≤ a ∧ a < (g 5).toInt) : 1 ≤ (g z.toNatClampNeg).toInt := by
  have q := h.2.2.2.2.2.1 a.toNat (by omega)
  have e : 74 + 2 * a.toNat = z.toNatClampNeg := by rw [k_cl]; omega
  rwa [e] at q
theorem SV.noted {g : Nat → Int32} (h : SV g) (z : Int32) (j : Int) (h1 : z.toInt = 85 + 3 * j ∧ 0 ≤ j ∧ j < (g 114).toInt) : 0 ≤ (g z.toNatClampNeg).toInt ∧ (g z.toNatClampNeg).toInt ≤ 4 := by
  have q := h.2.2.2.2.2.2.2 j.toNat (by omega)
  have e : 85 + 3 * j.toNat = z.toNatClampNeg := by rw [k_cl]; omega
  rwa [e] at q
theorem SV.bounds {g : Nat → Int32} (h : SV g) : (0 ≤ (g 3).toInt ∧ (g 3).toInt ≤ 12) ∧ (0 ≤ (g 4).toInt ∧ (g 4).toInt ≤ 6) ∧ (0 ≤ (g 5).toInt ∧ (g 5).toInt ≤ 5) ∧ (0 ≤ (g 114).toInt ∧ (g 114).toInt ≤ 10) := ⟨h.1, h.2.1, h.2.2.1, h.2.2.2.2.2.2.1⟩
theorem k_upd_ne {g : Nat → Int32} {k j : Nat} {v : Int32} (h : j ≠ k) : upd g k v j = g j := by simp [upd, h]
theorem k_upd_eq {g : Nat → Int32} {k : Nat} {v : Int32} : upd g k v k = v := by simp [upd]
/-- only what is played with has changed -/
def PR (g g' : Nat → Int32) : Prop := SV g' ∧ ∀ i : Nat, i < 10 ∨ 40 ≤ i → g' i = g i
theorem PR.refl {g : Nat → Int32} (h : SV g) : PR g g := ⟨h, fun _ _ => rfl⟩
theorem PR.sv {g g' : Nat → Int32} (h : PR g g') : SV g' := h.1
theorem PR.trans {a b c : Nat → Int32} (h : PR a b) (h2 : PR b c) : PR a c := ⟨h2.1, fun i q => (h2.2 i q).trans (h.2 i q)⟩
theorem PR.e5 {a b : Nat → Int32} (h : PR a b) : (b 5).toInt = (a 5).toInt := by rw [h.2 5 (by omega)]
theorem PR.e4 {a b : Nat → Int32} (h : PR a b) : (b 4).toInt = (a 4).toInt := by rw [h.2 4 (by omega)]
theorem PR.e114 {a b : Nat → Int32} (h : PR a b) : (b 114).toInt = (a 114).toInt := by rw [h.2 114 (by omega)]
theorem SV.put {g : Nat → Int32} (h : SV g) (k : Nat) (v : Int32) (h1 : 10 ≤ k ∧ k < 40) (h2 : k < 25 ∨ (k - 25) % 3 ≠ 0 ∨ 25 + 3 * (g 5).toInt ≤ k ∨ 1 ≤ v.toInt) : SV (upd g k v) := by
  obtain ⟨a1, a2, a3, a4, a5, a6, a7, a8⟩ := h
  refine ⟨?_, ?_, ?_, ?_, ?_, ?_, ?_, ?_⟩
  · rw [k_upd_ne (by omega)]; exact a1
  · rw [k_upd_ne (by omega)]; exact a2
  · rw [k_upd_ne (by omega)]; exact a3
  · intro a ha; rw [k_upd_ne (by omega)]; exact a4 a ha
  · intro a ha
    rw [k_upd_ne (j := 5) (by omega)] at ha
    by_cases e : 25 + 3 * a = k
    · rw [e, k_upd_eq]; omega
    · rw [k_upd_ne e]; exact a5 a ha
  · intro a ha
    rw [k_upd_ne (j := 5) (by omega)] at ha
    rw [k_upd_ne (by omega)]; exact a6 a ha
  · rw [k_upd_ne (by omega)]; exact a7
  · intro j hj
    rw [k_upd_ne (j := 114) (by omega)] at hj
    rw [k_upd_ne (by omega)]; exact a8 j hj
theorem PR.put {g0 g : Nat → Int32} (h : PR g0 g) (z v : Int32) (h1 : 10 ≤ z.toInt ∧ z.toInt < 40) (h2 : z.toInt < 25 ∨ (z.toInt - 25) % 3 ≠ 0 ∨ 25 + 3 * (g 5).toInt ≤ z.toInt ∨ 1 ≤ v.toInt) : PR g0 (upd g z.toNatClampNeg v) := by
  refine ⟨h.1.put _ v ?_ ?_, fun i q => ?_⟩
  · rw [k_cl]; omega
  · rw [k_cl]; omega
  · rw [k_upd_ne (by rw [k_cl]; omega)]; exact h.2 i q
/-- what is kept of what is played with is good for n archers -/
def KPT (k : Nat → Int32) (n : Int) : Prop := ∀ a : Nat, (a : Int) < n → 1 ≤ (k (15 + 3 * a)).toInt
theorem KPT.at {k : Nat → Int32} {n : Int} (h : KPT k n) (z : Int32) (hz : 0 ≤ z.toInt ∧ z.toInt < 30) (hn : n ≤ 5) : z.toInt < 15 ∨ (z.toInt - 15) % 3 ≠ 0 ∨ 15 + 3 * n ≤ z.toInt ∨ 1 ≤ (k z.toNatClampNeg).toInt := by
  by_cases c1 : z.toInt < 15
  · exact Or.inl c1
  by_cases c2 : (z.toInt - 15) % 3 ≠ 0
  · exact Or.inr (Or.inl c2)
  by_cases c3 : 15 + 3 * n ≤ z.toInt
  · exact Or.inr (Or.inr (Or.inl c3))
  refine Or.inr (Or.inr (Or.inr ?_))
  have q := h ((z.toInt.toNat - 15) / 3) (by omega)
  have e : 15 + 3 * ((z.toInt.toNat - 15) / 3) = z.toNatClampNeg := by rw [k_cl]; omega
  rwa [e] at q
