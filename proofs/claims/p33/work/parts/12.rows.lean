/-! ===== rows of aims, notes, images, a cell tried ===== -/
def rVal (g : Nat → Int32) : Int := 2401 * ((g 0).toInt + 1) + 343 * ((g 1).toInt + 1) + 49 * ((g 2).toInt + 1) + 7 * ((g 3).toInt + 1) + ((g 4).toInt + 1)
def RNV (g : Nat → Int32) (R : Int) : Prop := ∀ j : Nat, j < 5 → -1 ≤ (g j).toInt ∧ (g j).toInt ≤ R - 1
theorem RNV.at {g : Nat → Int32} {R : Int} (h : RNV g R) (z : Int32) (hz : 0 ≤ z.toInt ∧ z.toInt < 5) : -1 ≤ (g z.toNatClampNeg).toInt ∧ (g z.toNatClampNeg).toInt ≤ R - 1 := h _ (by rw [k_cl]; omega)
theorem RNV.of {g : Nat → Int32} {R R' : Int} (h : RNV g R) (e : R ≤ R') : RNV g R' := fun j hj => by have := h j hj; omega
theorem RNV.val {g : Nat → Int32} {R : Int} (h : RNV g R) (hR : R ≤ 6) : 0 ≤ rVal g ∧ rVal g ≤ 16806 := by
  have h0 := h 0 (by omega); have h1 := h 1 (by omega); have h2 := h 2 (by omega); have h3 := h 3 (by omega); have h4 := h 4 (by omega)
  unfold rVal; omega
/-- the first k are none -/
def RN0 (g : Nat → Int32) (k : Int) : Prop := ∀ j : Nat, (j : Int) < k → (g j).toInt = -1
theorem RN0.zero {g : Nat → Int32} {k : Int} (h : k ≤ 0) : RN0 g k := fun j q => by omega
theorem RN0.of {g : Nat → Int32} {k k' : Int} (h : RN0 g k) (e : k' ≤ k) : RN0 g k' := fun j q => h j (by omega)
theorem RN0.put {g : Nat → Int32} {k : Int} (h : RN0 g k) (z v : Int32) (hz : z.toInt = k ∧ 0 ≤ k) (hv : v.toInt = -1) : RN0 (upd g z.toNatClampNeg v) (k + 1) := fun j q => by
  by_cases e : j = z.toNatClampNeg
  · rw [e, k_upd_eq]; exact hv
  · rw [k_upd_ne e]; exact h j (by rw [k_cl] at e; omega)
theorem RN0.rnv {g : Nat → Int32} {R : Int} (h : RN0 g 5) (hR : 0 ≤ R) : RNV g R := fun j hj => by have := h j (by omega); omega
def RW (g g' : Nat → Int32) (k n R : Int) : Prop := ∀ j : Nat, j < 5 → ((j : Int) ≤ k ∨ n ≤ (j : Int) → g' j = g j) ∧ (k < (j : Int) ∧ (j : Int) < n → (g j).toInt = R - 1 ∧ (g' j).toInt = -1)
theorem RW.zero {g : Nat → Int32} {k n R : Int} (h : k = n - 1) : RW g g k n R := fun j _ => ⟨fun _ => rfl, fun q => by omega⟩
theorem RW.of {g g' : Nat → Int32} {k k' n R : Int} (h : RW g g' k n R) (e : k = k') : RW g g' k' n R := e ▸ h
theorem RW.put {g g' : Nat → Int32} {k n R : Int} (h : RW g g' k n R) (z v : Int32) (hz : z.toInt = k ∧ 0 ≤ k ∧ k < n ∧ n ≤ 5) (hv : v.toInt = -1) (hg : (g' z.toNatClampNeg).toInt = R - 1) : RW g (upd g' z.toNatClampNeg v) (k - 1) n R := fun j hj => by
  have hj' := h j hj
  by_cases e : j = z.toNatClampNeg
  · have e2 : (j : Int) = k := by rw [e, k_cl]; omega
    refine ⟨fun q => by omega, fun _ => ?_⟩
    rw [← e] at hg ⊢
    rw [k_upd_eq]
    refine ⟨?_, hv⟩
    rw [← hj'.1 (by omega)]; exact hg
  · rw [k_upd_ne e]
    rw [k_cl] at e
    exact ⟨fun q => hj'.1 (by omega), fun q => hj'.2 (by omega)⟩
theorem RW.rnv {g g' : Nat → Int32} {k n R : Int} (h : RW g g' k n R) (hg : RNV g R) (hR : 0 ≤ R) : RNV g' R := fun j hj => by
  have h1 := h j hj; have h2 := hg j hj
  by_cases c : (j : Int) ≤ k ∨ n ≤ (j : Int)
  · rw [h1.1 c]; exact h2
  · have := h1.2 (by omega); omega
theorem RW.fin {g g' : Nat → Int32} {k n R : Int} (h : RW g g' k n R) (hg : RNV g R) (hR : 0 ≤ R ∧ R ≤ 6) (z v : Int32) (hz : z.toInt = k ∧ 0 ≤ k ∧ k < n ∧ n ≤ 5) (hn : (g' z.toNatClampNeg).toInt ≠ R - 1) (hv : v.toInt = (g' z.toNatClampNeg).toInt + 1) : RNV (upd g' z.toNatClampNeg v) R ∧ rVal g < rVal (upd g' z.toNatClampNeg v) := by
  have hn' := h.rnv hg hR.1
  constructor
  · intro j hj
    by_cases e : j = z.toNatClampNeg
    · have := hn' j hj
      rw [e, k_upd_eq]; rw [e] at this; omega
    · rw [k_upd_ne e]; exact hn' j hj
  · obtain ⟨m, hm⟩ : ∃ m : Nat, z.toNatClampNeg = m := ⟨_, rfl⟩
    have hm5 : (m : Int) = k := by rw [← hm, k_cl]; omega
    rw [hm] at hn hv ⊢
    have a0 := h 0 (by omega); have a1 := h 1 (by omega); have a2 := h 2 (by omega); have a3 := h 3 (by omega); have a4 := h 4 (by omega)
    have b0 := hg 0 (by omega); have b1 := hg 1 (by omega); have b2 := hg 2 (by omega); have b3 := hg 3 (by omega); have b4 := hg 4 (by omega)
    have eT : ∀ j : Nat, j < 5 → ((j : Int) ≤ k ∨ n ≤ (j : Int) → (g' j).toInt = (g j).toInt) := fun j hj q => by rw [(h j hj).1 q]
    have c0 := eT 0 (by omega); have c1 := eT 1 (by omega); have c2 := eT 2 (by omega); have c3 := eT 3 (by omega); have c4 := eT 4 (by omega)
    have d0 := a0.2; have d1 := a1.2; have d2 := a2.2; have d3 := a3.2; have d4 := a4.2
    clear a0 a1 a2 a3 a4 eT
    unfold rVal
    rcases (show m = 0 ∨ m = 1 ∨ m = 2 ∨ m = 3 ∨ m = 4 by omega) with rfl | rfl | rfl | rfl | rfl
    · rw [k_upd_eq, k_upd_ne (j := 1) (by decide), k_upd_ne (j := 2) (by decide), k_upd_ne (j := 3) (by decide), k_upd_ne (j := 4) (by decide)]; omega
    · rw [k_upd_eq, k_upd_ne (j := 0) (by decide), k_upd_ne (j := 2) (by decide), k_upd_ne (j := 3) (by decide), k_upd_ne (j := 4) (by decide)]; omega
    · rw [k_upd_eq, k_upd_ne (j := 0) (by decide), k_upd_ne (j := 1) (by decide), k_upd_ne (j := 3) (by decide), k_upd_ne (j := 4) (by decide)]; omega
    · rw [k_upd_eq, k_upd_ne (j := 0) (by decide), k_upd_ne (j := 1) (by decide), k_upd_ne (j := 2) (by decide), k_upd_ne (j := 4) (by decide)]; omega
    · rw [k_upd_eq, k_upd_ne (j := 0) (by decide), k_upd_ne (j := 1) (by decide), k_upd_ne (j := 2) (by decide), k_upd_ne (j := 3) (by decide)]; omega
/-- but for one cell, which is tried, and what is played with, all is as it was -/
def CB (c : Int32) (g0 g : Nat → Int32) : Prop := SV g ∧ ∀ i : Nat, i ≠ c.toNatClampNeg → i < 10 ∨ 40 ≤ i → g i = g0 i
theorem CB.refl {c : Int32} {g : Nat → Int32} (h : SV g) : CB c g g := ⟨h, fun _ _ _ => rfl⟩
theorem CB.pr {c : Int32} {a b d : Nat → Int32} (h : CB c a b) (h2 : PR b d) : CB c a d := ⟨h2.1, fun i q1 q2 => (h2.2 i q2).trans (h.2 i q1 q2)⟩
theorem CB.e5 {c : Int32} {a b : Nat → Int32} (h : CB c a b) (hc : 46 ≤ c.toInt ∧ c.toInt ≤ 83) : (b 5).toInt = (a 5).toInt := by rw [h.2 5 (by rw [k_cl]; omega) (by omega)]
theorem SV.cell {g : Nat → Int32} (h : SV g) (c v : Int32) (hc : (46 ≤ c.toInt ∧ c.toInt ≤ 50 ∧ 0 ≤ v.toInt ∧ v.toInt ≤ 5) ∨ (74 ≤ c.toInt ∧ c.toInt ≤ 82 ∧ 1 ≤ v.toInt)) : SV (upd g c.toNatClampNeg v) := by
  obtain ⟨k, hk⟩ : ∃ k : Nat, c.toNatClampNeg = k := ⟨_, rfl⟩
  have hc' : (46 ≤ k ∧ k ≤ 50 ∧ 0 ≤ v.toInt ∧ v.toInt ≤ 5) ∨ (74 ≤ k ∧ k ≤ 82 ∧ 1 ≤ v.toInt) := by rw [← hk, k_cl]; omega
  rw [hk]
  obtain ⟨a1, a2, a3, a4, a5, a6, a7, a8⟩ := h
  refine ⟨?_, ?_, ?_, ?_, ?_, ?_, ?_, ?_⟩
  · rw [k_upd_ne (by omega)]; exact a1
  · rw [k_upd_ne (by omega)]; exact a2
  · rw [k_upd_ne (by omega)]; exact a3
  · intro a ha
    by_cases e : 46 + a = k
    · rw [e, k_upd_eq]; omega
    · rw [k_upd_ne e]; exact a4 a ha
  · intro a ha
    rw [k_upd_ne (j := 5) (by omega)] at ha
    rw [k_upd_ne (by omega)]; exact a5 a ha
  · intro a ha
    rw [k_upd_ne (j := 5) (by omega)] at ha
    by_cases e : 74 + 2 * a = k
    · rw [e, k_upd_eq]; omega
    · rw [k_upd_ne e]; exact a6 a ha
  · rw [k_upd_ne (by omega)]; exact a7
  · intro j hj
    rw [k_upd_ne (j := 114) (by omega)] at hj
    rw [k_upd_ne (by omega)]; exact a8 j hj
theorem CB.cell {c : Int32} {g0 g : Nat → Int32} (h : CB c g0 g) (v : Int32) (hc : (46 ≤ c.toInt ∧ c.toInt ≤ 50 ∧ 0 ≤ v.toInt ∧ v.toInt ≤ 5) ∨ (74 ≤ c.toInt ∧ c.toInt ≤ 82 ∧ 1 ≤ v.toInt)) : CB c g0 (upd g c.toNatClampNeg v) := ⟨h.1.cell c v hc, fun i q1 q2 => by rw [k_upd_ne q1]; exact h.2 i q1 q2⟩
theorem CB.fin {c : Int32} {g0 g : Nat → Int32} (h0 : SV g0) (h : CB c g0 g) (hc : 46 ≤ c.toInt ∧ c.toInt ≤ 83) : PR g0 (upd g c.toNatClampNeg (g0 c.toNatClampNeg)) := by
  have e : ∀ i : Nat, i < 10 ∨ 40 ≤ i → upd g c.toNatClampNeg (g0 c.toNatClampNeg) i = g0 i := fun i q => by
    by_cases x : i = c.toNatClampNeg
    · rw [x, k_upd_eq]
    · rw [k_upd_ne x]; exact h.2 i x q
  refine NB.pr h0 e (fun a q => ?_)
  have q5 := h0.2.2.1
  rw [k_upd_ne (by rw [k_cl]; omega)]
  exact h.1.2.2.2.2.1 a (by rw [h.2 5 (by rw [k_cl]; omega) (by omega)]; exact q)
/-- a note more, no note -/
theorem SV.note {g : Nat → Int32} (h : SV g) (z0 z1 z2 n a p v : Int32) (hm : (g 114).toInt < 10) (h0 : z0.toInt = 84 + 3 * (g 114).toInt) (h1 : z1.toInt = z0.toInt + 1) (h2 : z2.toInt = z0.toInt + 2) (ha : 0 ≤ a.toInt ∧ a.toInt ≤ 4) (hv : v.toInt = (upd (upd (upd g z0.toNatClampNeg n) z1.toNatClampNeg a) z2.toNatClampNeg p 114).toInt + 1) : SV (upd (upd (upd (upd g z0.toNatClampNeg n) z1.toNatClampNeg a) z2.toNatClampNeg p) 114 v) := by
  have m0 := h.2.2.2.2.2.2.1
  obtain ⟨k, hk⟩ : ∃ k : Nat, z0.toNatClampNeg = k := ⟨_, rfl⟩
  have ek : (k : Int) = 84 + 3 * (g 114).toInt := by rw [← hk, k_cl]; omega
  have e1 : z1.toNatClampNeg = k + 1 := by rw [k_cl]; omega
  have e2 : z2.toNatClampNeg = k + 2 := by rw [k_cl]; omega
  rw [hk, e1, e2] at hv ⊢
  have lo : ∀ i : Nat, i < k → upd (upd (upd g k n) (k + 1) a) (k + 2) p i = g i := fun i q => by
    rw [k_upd_ne (by omega), k_upd_ne (by omega), k_upd_ne (by omega)]
  have hi : upd (upd (upd g k n) (k + 1) a) (k + 2) p 114 = g 114 := by
    rw [k_upd_ne (by omega), k_upd_ne (by omega), k_upd_ne (by omega)]
  have mi : upd (upd (upd g k n) (k + 1) a) (k + 2) p (k + 1) = a := by
    rw [k_upd_ne (by omega), k_upd_eq]
  rw [hi] at hv
  obtain ⟨a1, a2, a3, a4, a5, a6, a7, a8⟩ := h
  refine ⟨?_, ?_, ?_, ?_, ?_, ?_, ?_, ?_⟩
  · rw [k_upd_ne (by omega), lo _ (by omega)]; exact a1
  · rw [k_upd_ne (by omega), lo _ (by omega)]; exact a2
  · rw [k_upd_ne (by omega), lo _ (by omega)]; exact a3
  · intro a ha; rw [k_upd_ne (by omega), lo _ (by omega)]; exact a4 a ha
  · intro a ha
    rw [k_upd_ne (j := 5) (by omega), lo _ (by omega)] at ha
    rw [k_upd_ne (by omega), lo _ (by omega)]; exact a5 a ha
  · intro a ha
    rw [k_upd_ne (j := 5) (by omega), lo _ (by omega)] at ha
    rw [k_upd_ne (by omega), lo _ (by omega)]; exact a6 a ha
  · rw [k_upd_eq]; omega
  · intro j hj
    rw [k_upd_eq] at hj
    by_cases c : (j : Int) = (g 114).toInt
    · rw [k_upd_ne (by omega), show 85 + 3 * j = k + 1 by omega, mi]; exact ha
    · rw [k_upd_ne (by omega), lo _ (by omega)]; exact a8 j (by omega)
theorem SV.noNote {g : Nat → Int32} (h : SV g) (v : Int32) (hv : v.toInt = 0) : SV (upd g 114 v) := by
  obtain ⟨a1, a2, a3, a4, a5, a6, a7, a8⟩ := h
  refine ⟨?_, ?_, ?_, ?_, ?_, ?_, ?_, ?_⟩
  · rw [k_upd_ne (by omega)]; exact a1
  · rw [k_upd_ne (by omega)]; exact a2
  · rw [k_upd_ne (by omega)]; exact a3
  · intro a ha; rw [k_upd_ne (by omega)]; exact a4 a ha
  · intro a ha
    rw [k_upd_ne (j := 5) (by omega)] at ha
    rw [k_upd_ne (by omega)]; exact a5 a ha
  · intro a ha
    rw [k_upd_ne (j := 5) (by omega)] at ha
    rw [k_upd_ne (by omega)]; exact a6 a ha
  · rw [k_upd_eq]; omega
  · intro j hj
    rw [k_upd_eq] at hj; omega
/-- images -/
def IV (g : Nat → Int32) : Prop := ∀ k : Nat, k < 4 → SV (fun i => g (115 * k + i))
def CI (g s : Nat → Int32) (b k : Int) : Prop := ∀ i : Nat, (i : Int) < k → g (b.toNat + i) = s i
theorem CI.zero {g s : Nat → Int32} {b k : Int} (h : k ≤ 0) : CI g s b k := fun i q => by omega
theorem CI.of {g s : Nat → Int32} {b k k' : Int} (h : CI g s b k) (e : k' ≤ k) : CI g s b k' := fun i q => h i (by omega)
theorem CI.put {g s : Nat → Int32} {b k : Int} (h : CI g s b k) (z w : Int32) (hb : 0 ≤ b ∧ 0 ≤ k) (hz : z.toInt = b + k) (hw : w.toInt = k) : CI (upd g z.toNatClampNeg (s w.toNatClampNeg)) s b (k + 1) := fun i q => by
  by_cases e : b.toNat + i = z.toNatClampNeg
  · rw [e, k_upd_eq]; congr 1; rw [k_cl] at e ⊢; omega
  · rw [k_upd_ne e]; exact h i (by rw [k_cl] at e; omega)
def OI (g0 g : Nat → Int32) (b : Int) : Prop := ∀ i : Nat, (i : Int) < b ∨ b + 115 ≤ (i : Int) → g i = g0 i
theorem OI.refl {g : Nat → Int32} {b : Int} : OI g g b := fun _ _ => rfl
theorem OI.put {g0 g : Nat → Int32} {b : Int} (h : OI g0 g b) (z v : Int32) (hz : b ≤ z.toInt ∧ z.toInt < b + 115 ∧ 0 ≤ b) : OI g0 (upd g z.toNatClampNeg v) b := fun i q => by
  rw [k_upd_ne (by rw [k_cl]; omega)]; exact h i q
theorem SV.cong {g g' : Nat → Int32} (h : SV g) (e : ∀ i : Nat, i < 115 → g' i = g i) : SV g' := by
  obtain ⟨a1, a2, a3, a4, a5, a6, a7, a8⟩ := h
  refine ⟨?_, ?_, ?_, ?_, ?_, ?_, ?_, ?_⟩
  · rw [e _ (by omega)]; exact a1
  · rw [e _ (by omega)]; exact a2
  · rw [e _ (by omega)]; exact a3
  · intro a ha; rw [e _ (by omega)]; exact a4 a ha
  · intro a ha; rw [e _ (by omega)] at ha; rw [e _ (by omega)]; exact a5 a ha
  · intro a ha; rw [e _ (by omega)] at ha; rw [e _ (by omega)]; exact a6 a ha
  · rw [e _ (by omega)]; exact a7
  · intro j hj; rw [e _ (by omega)] at hj; rw [e _ (by omega)]; exact a8 j hj
theorem IV.put {g0 g s : Nat → Int32} {k : Int} (h : IV g0) (ho : OI g0 g (115 * k)) (hc : CI g s (115 * k) 115) (hs : SV s) (hk : 0 ≤ k ∧ k < 4) : IV g := fun j hj => by
  by_cases e : (j : Int) = k
  · refine hs.cong (fun i hi => ?_)
    have := hc i (by omega)
    rw [show (115 * k).toNat = 115 * j by omega] at this
    exact this
  · refine (h j hj).cong (fun i hi => ho _ (by omega))
theorem IV.back {g s : Nat → Int32} {k : Int} (h : IV g) (hk : 0 ≤ k ∧ k < 4) (hc : ∀ i : Nat, i < 115 → s i = g ((115 * k).toNat + i)) : SV s := by
  refine (h k.toNat (by omega)).cong (fun i hi => ?_)
  rw [hc i hi]
  congr 1; omega
/-- a copy of an image's row -/
def CK (s g : Nat → Int32) (b k : Int) : Prop := ∀ i : Nat, (i : Int) < k → s i = g (b.toNat + i)
theorem CK.zero {g s : Nat → Int32} {b k : Int} (h : k ≤ 0) : CK s g b k := fun i q => by omega
theorem CK.of {g s : Nat → Int32} {b k k' : Int} (h : CK s g b k) (e : k' ≤ k) : CK s g b k' := fun i q => h i (by omega)
theorem CK.put {g s : Nat → Int32} {b k : Int} (h : CK s g b k) (z w : Int32) (hb : 0 ≤ b ∧ 0 ≤ k) (hz : z.toInt = k) (hw : w.toInt = b + k) : CK (upd s z.toNatClampNeg (g w.toNatClampNeg)) g b (k + 1) := fun i q => by
  by_cases e : i = z.toNatClampNeg
  · rw [e, k_upd_eq]; congr 1; rw [k_cl, k_cl]; omega
  · rw [k_upd_ne e]; exact h i (by rw [k_cl] at e; omega)
/-- forces of images -/
def FV4 (g : Nat → Int32) (r : Int) : Prop := ∀ j : Nat, j < 4 → -1 ≤ (g j).toInt ∧ (g j).toInt < r
theorem FV4.at {g : Nat → Int32} {r : Int} (h : FV4 g r) (z : Int32) (hz : 0 ≤ z.toInt ∧ z.toInt < 4) : -1 ≤ (g z.toNatClampNeg).toInt ∧ (g z.toNatClampNeg).toInt < r := h _ (by rw [k_cl]; omega)
theorem FV4.put {g : Nat → Int32} {r : Int} (h : FV4 g r) (k : Nat) (v : Int32) (hv : -1 ≤ v.toInt ∧ v.toInt < r) : FV4 (upd g k v) r := fun j hj => by
  by_cases e : j = k
  · rw [e, k_upd_eq]; exact hv
  · rw [k_upd_ne e]; exact h j hj
theorem SH.cast {g0 g : Nat → Int32} {k k' : Int} (h : SH g0 g k) (e : k = k') : SH g0 g k' := e ▸ h
abbrev RNV6 (g : Nat → Int32) : Prop := RNV g 6
