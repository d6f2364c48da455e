/-! ===== rows of signs that are reckoned out on a stack ===== -/
def cEff (w : Int32) (d : Nat) : Option Nat := if w.toInt % 16 ≤ 1 then some (d + 1) else if w.toInt % 16 = 11 then (if 1 ≤ d then some d else none) else if 2 ≤ d then some (d - 1) else none
def cOk (w : Int32) : Prop := 0 ≤ w.toInt ∧ (w.toInt % 16 = 1 → w.toInt / 16 ≤ 12)
def cRun (g : Nat → Int32) (b : Nat) : Nat → Option Nat
  | 0 => some 0
  | n + 1 => (cRun g b n).bind (cEff (g (b + n)))
def cPush (g : Nat → Int32) (b : Nat) : Nat → Nat
  | 0 => 0
  | n + 1 => cPush g b n + (if (g (b + n)).toInt % 16 ≤ 1 then 1 else 0)
theorem cPush_mono {g : Nat → Int32} {b n m : Nat} (h : n ≤ m) : cPush g b n ≤ cPush g b m := by
  induction m with
  | zero => rw [show n = 0 by omega]; exact Nat.le_refl _
  | succ m ih =>
    by_cases e : n = m + 1
    · rw [e]; exact Nat.le_refl _
    · exact Nat.le_trans (ih (by omega)) (Nat.le_add_right _ _)
theorem cRun_push {g : Nat → Int32} {b : Nat} : ∀ {n d : Nat}, cRun g b n = some d → d ≤ cPush g b n := by
  intro n
  induction n with
  | zero => intro d h; rw [cRun] at h; cases h; exact Nat.zero_le _
  | succ n ih =>
    intro d h
    rw [cRun] at h
    obtain ⟨d0, h0, h1⟩ := Option.bind_eq_some_iff.mp h
    have q := ih h0
    rw [cPush]
    unfold cEff at h1
    split at h1
    · cases h1; rw [if_pos (by assumption)]; omega
    · split at h1
      · split at h1
        · cases h1; omega
        · cases h1
      · split at h1
        · cases h1; omega
        · cases h1
theorem cRun_pre {g : Nat → Int32} {b n m e : Nat} (hm : cRun g b m = some e) (h : n ≤ m) : ∃ d, cRun g b n = some d := by
  induction m generalizing e with
  | zero => rw [show n = 0 by omega]; exact ⟨0, rfl⟩
  | succ m ih =>
    by_cases c : n = m + 1
    · rw [c]; exact ⟨e, hm⟩
    · rw [cRun] at hm
      obtain ⟨d0, h0, -⟩ := Option.bind_eq_some_iff.mp hm
      exact ih h0 (by omega)
theorem cRun_cong {g g' : Nat → Int32} {b : Nat} : ∀ {n : Nat}, (∀ i, b ≤ i → i < b + n → g' i = g i) → cRun g' b n = cRun g b n := by
  intro n
  induction n with
  | zero => intro _; rfl
  | succ n ih => intro h; rw [cRun, cRun, ih (fun i h1 h2 => h i h1 (by omega)), h (b + n) (by omega) (by omega)]
theorem cPush_cong {g g' : Nat → Int32} {b : Nat} : ∀ {n : Nat}, (∀ i, b ≤ i → i < b + n → g' i = g i) → cPush g' b n = cPush g b n := by
  intro n
  induction n with
  | zero => intro _; rfl
  | succ n ih => intro h; rw [cPush, cPush, ih (fun i h1 h2 => h i h1 (by omega)), h (b + n) (by omega) (by omega)]
/-- from b to e the signs lay d numbers down, never take one that isn't there, and lay down md at most in all -/
def CS (g : Nat → Int32) (b e d md : Int) : Prop := 0 ≤ b ∧ b ≤ e ∧ 0 ≤ d ∧ cRun g b.toNat (e - b).toNat = some d.toNat ∧ (∀ i : Nat, b ≤ (i : Int) → (i : Int) < e → cOk (g i)) ∧ (cPush g b.toNat (e - b).toNat : Int) ≤ md
theorem CS.nil {g : Nat → Int32} {b md : Int} (h : 0 ≤ b) (hm : 0 ≤ md) : CS g b b 0 md := ⟨h, Int.le_refl _, Int.le_refl _, by rw [Int.sub_self]; rfl, fun i h1 h2 => by omega, by rw [Int.sub_self]; exact hm⟩
theorem CS.of {g : Nat → Int32} {b e d md e' d' md' : Int} (h : CS g b e d md) (he : e = e') (hd : d = d') (hm : md ≤ md') : CS g b e' d' md' := by
  subst he; subst hd
  exact ⟨h.1, h.2.1, h.2.2.1, h.2.2.2.1, h.2.2.2.2.1, Int.le_trans h.2.2.2.2.2 hm⟩
theorem CS.cong {g g' : Nat → Int32} {b e d md : Int} (h : CS g b e d md) (hg : ∀ i : Nat, b ≤ (i : Int) → (i : Int) < e → g' i = g i) : CS g' b e d md := by
  obtain ⟨h1, h2, h3, h4, h5, h6⟩ := h
  refine ⟨h1, h2, h3, ?_, fun i a c => by rw [hg i a c]; exact h5 i a c, ?_⟩
  · rw [cRun_cong (fun i a c => hg i (by omega) (by omega))]; exact h4
  · rw [cPush_cong (fun i a c => hg i (by omega) (by omega))]; exact h6
theorem CS.step {g : Nat → Int32} {b e d md : Int} (h : CS g b e d md) (k : Nat) (w : Int32) (hk : (k : Int) = e) (hw : cOk w) (d' md' : Int) (hd : 0 ≤ d') (he : cEff w d.toNat = some d'.toNat) (hm : md + (if w.toInt % 16 ≤ 1 then 1 else 0) ≤ md') : CS (upd g k w) b (e + 1) d' md' := by
  have hc : CS (upd g k w) b e d md := h.cong (fun i _ c => k_upd_ne (by omega))
  obtain ⟨h1, h2, h3, h4, h5, h6⟩ := hc
  have e1 : (e + 1 - b).toNat = (e - b).toNat + 1 := by omega
  have e2 : b.toNat + (e - b).toNat = k := by omega
  refine ⟨h1, by omega, hd, ?_, fun i a c => ?_, ?_⟩
  · rw [e1, cRun, h4, e2, k_upd_eq]; exact he
  · by_cases q : i = k
    · rw [q, k_upd_eq]; exact hw
    · exact h5 i a (by omega)
  · rw [e1, cPush, e2, k_upd_eq]
    split at hm <;> rename_i q
    · rw [if_pos q]; omega
    · rw [if_neg q]; omega
/-- a number or word is laid down -/
theorem CS.push {g : Nat → Int32} {b e d md : Int} (h : CS g b e d md) (k : Nat) (w : Int32) (hk : (k : Int) = e) (hw : 0 ≤ w.toInt ∧ w.toInt % 16 ≤ 1 ∧ (w.toInt % 16 = 1 → w.toInt / 16 ≤ 12)) : CS (upd g k w) b (e + 1) (d + 1) (md + 1) :=
  h.step k w hk ⟨hw.1, hw.2.2⟩ (d + 1) (md + 1) (by have := h.2.2.1; omega) (by
    have := h.2.2.1
    rw [cEff, if_pos hw.2.1]; congr 1; omega) (by rw [if_pos hw.2.1]; omega)
/-- two are taken for one -/
theorem CS.op {g : Nat → Int32} {b e d md : Int} (h : CS g b e d md) (k : Nat) (w : Int32) (hk : (k : Int) = e) (hw : 2 ≤ w.toInt ∧ w.toInt < 16 ∧ w.toInt ≠ 11) (hd : 2 ≤ d) : CS (upd g k w) b (e + 1) (d - 1) md :=
  h.step k w hk ⟨by omega, fun q => by omega⟩ (d - 1) md (by omega) (by
    rw [cEff, if_neg (by omega), if_neg (by omega), if_pos (by omega)]; congr 1; omega) (by rw [if_neg (by omega)]; omega)
theorem CS.no {g : Nat → Int32} {b e d md : Int} (h : CS g b e d md) (k : Nat) (w : Int32) (hk : (k : Int) = e) (hw : w.toInt = 11) (hd : 1 ≤ d) : CS (upd g k w) b (e + 1) d md :=
  h.step k w hk ⟨by omega, fun q => by omega⟩ d md (by omega) (by
    rw [cEff, if_neg (by omega), if_pos (by omega), if_pos (by omega)]) (by rw [if_neg (by omega)]; omega)
/-- how far the reckoning is -/
def RKI (g : Nat → Int32) (b k t : Int) : Prop := 0 ≤ b ∧ 0 ≤ k ∧ 0 ≤ t ∧ cRun g b.toNat k.toNat = some t.toNat
theorem RKI.zero {g : Nat → Int32} {b k t : Int} (h : 0 ≤ b) (hk : k = 0) (ht : t = 0) : RKI g b k t := by
  subst hk; subst ht
  exact ⟨h, Int.le_refl _, Int.le_refl _, rfl⟩
theorem RKI.of {g : Nat → Int32} {b k t k' t' : Int} (h : RKI g b k t) (hk : k = k') (ht : t = t') : RKI g b k' t' := by subst hk; subst ht; exact h
theorem RKI.step {g : Nat → Int32} {b e k t : Int} (hs : CS g b e 1 60) (h : RKI g b k t) (hk : b + k < e) (z : Int32) (hz : z.toInt = b + k) : cOk (g z.toNatClampNeg) ∧ ((g z.toNatClampNeg).toInt % 16 ≤ 1 → t ≤ 59 ∧ RKI g b (k + 1) (t + 1)) ∧ ((g z.toNatClampNeg).toInt % 16 = 11 → 1 ≤ t ∧ RKI g b (k + 1) t) ∧ ((g z.toNatClampNeg).toInt % 16 ≠ 0 ∧ (g z.toNatClampNeg).toInt % 16 ≠ 1 ∧ (g z.toNatClampNeg).toInt % 16 ≠ 11 → 2 ≤ t ∧ RKI g b (k + 1) (t - 1)) := by
  obtain ⟨s1, s2, s3, s4, s5, s6⟩ := hs
  obtain ⟨r1, r2, r3, r4⟩ := h
  have ez : z.toNatClampNeg = b.toNat + k.toNat := by rw [k_cl]; omega
  obtain ⟨d', hd'⟩ := cRun_pre (n := k.toNat + 1) s4 (by omega)
  have q := hd'
  rw [cRun, r4] at q
  have q : cEff (g (b.toNat + k.toNat)) t.toNat = some d' := q
  have e1 : (k + 1).toNat = k.toNat + 1 := by omega
  rw [ez]
  refine ⟨s5 _ (by omega) (by omega), fun c => ?_, fun c => ?_, fun c => ?_⟩
  · rw [cEff, if_pos c] at q
    cases q
    have p1 := cRun_push hd'
    have p2 := cPush_mono (g := g) (b := b.toNat) (show k.toNat + 1 ≤ (e - b).toNat by omega)
    refine ⟨by omega, r1, by omega, by omega, ?_⟩
    rw [e1, hd']; congr 1; omega
  · rw [cEff, if_neg (by omega), if_pos c] at q
    split at q
    · cases q
      refine ⟨by omega, r1, by omega, by omega, ?_⟩
      rw [e1, hd']
    · cases q
  · rw [cEff, if_neg (by omega), if_neg (by omega)] at q
    split at q
    · cases q
      refine ⟨by omega, r1, by omega, by omega, ?_⟩
      rw [e1, hd']; congr 1; omega
    · cases q
theorem RKI.end {g : Nat → Int32} {b e k t : Int} (hs : CS g b e 1 60) (h : RKI g b k t) (hk : b + k = e) : t = 1 := by
  obtain ⟨s1, s2, s3, s4, s5, s6⟩ := hs
  obtain ⟨r1, r2, r3, r4⟩ := h
  rw [show (e - b).toNat = k.toNat by omega, r4] at s4
  have := Option.some.inj s4
  omega
/-- the rules -/
def SG (g : Nat → Int32) (t : Nat) (x y : Int32) : Prop := 0 ≤ x.toInt ∧ x.toInt ≤ y.toInt ∧ y.toInt ≤ 400 ∧ CS g (400 * t + x.toInt) (400 * t + y.toInt) 1 60
def RC (g cl : Nat → Int32) (t c : Nat) : Prop := SG g t (cl (48 * t + 4 * c)) (cl (48 * t + 4 * c + 1)) ∧ ((cl (48 * t + 4 * c + 2)).toInt < 0 ∨ SG g t (cl (48 * t + 4 * c + 2)) (cl (48 * t + 4 * c + 3)))
def RV (g cl cn : Nat → Int32) (r : Int) : Prop := r ≤ 6 ∧ ∀ t : Nat, (t : Int) < r → 0 ≤ (cn t).toInt ∧ (cn t).toInt ≤ 12 ∧ ∀ c : Nat, (c : Int) < (cn t).toInt → RC g cl t c
theorem RV.many {g cl cn : Nat → Int32} {r : Int} (h : RV g cl cn r) (z : Int32) (hz : 0 ≤ z.toInt ∧ z.toInt < r) : 0 ≤ (cn z.toNatClampNeg).toInt ∧ (cn z.toNatClampNeg).toInt ≤ 12 := by
  have q := h.2 z.toInt.toNat (by omega)
  exact ⟨q.1, q.2.1⟩
theorem RV.seg {g cl cn : Nat → Int32} {r : Int} (h : RV g cl cn r) (z c : Int32) (hz : 0 ≤ z.toInt ∧ z.toInt < r) (hc : 0 ≤ c.toInt ∧ c.toInt < (cn z.toNatClampNeg).toInt) (a0 a1 a2 a3 : Int32) (h0 : a0.toInt = 48 * z.toInt + 4 * c.toInt) (h1 : a1.toInt = 48 * z.toInt + 4 * c.toInt + 1) (h2 : a2.toInt = 48 * z.toInt + 4 * c.toInt + 2) (h3 : a3.toInt = 48 * z.toInt + 4 * c.toInt + 3) : (0 ≤ (cl a0.toNatClampNeg).toInt ∧ (cl a0.toNatClampNeg).toInt ≤ (cl a1.toNatClampNeg).toInt ∧ (cl a1.toNatClampNeg).toInt ≤ 400 ∧ CS g (400 * z.toInt + (cl a0.toNatClampNeg).toInt) (400 * z.toInt + (cl a1.toNatClampNeg).toInt) 1 60) ∧ ((cl a2.toNatClampNeg).toInt < 0 ∨ (0 ≤ (cl a2.toNatClampNeg).toInt ∧ (cl a2.toNatClampNeg).toInt ≤ (cl a3.toNatClampNeg).toInt ∧ (cl a3.toNatClampNeg).toInt ≤ 400 ∧ CS g (400 * z.toInt + (cl a2.toNatClampNeg).toInt) (400 * z.toInt + (cl a3.toNatClampNeg).toInt) 1 60)) := by
  obtain ⟨-, -, q⟩ := h.2 z.toInt.toNat (by omega)
  have q := q c.toInt.toNat (by rw [k_cl] at hc; omega)
  have e0 : a0.toNatClampNeg = 48 * z.toInt.toNat + 4 * c.toInt.toNat := by rw [k_cl]; omega
  have e1 : a1.toNatClampNeg = 48 * z.toInt.toNat + 4 * c.toInt.toNat + 1 := by rw [k_cl]; omega
  have e2 : a2.toNatClampNeg = 48 * z.toInt.toNat + 4 * c.toInt.toNat + 2 := by rw [k_cl]; omega
  have e3 : a3.toNatClampNeg = 48 * z.toInt.toNat + 4 * c.toInt.toNat + 3 := by rw [k_cl]; omega
  have ez : ((z.toInt.toNat : Nat) : Int) = z.toInt := by omega
  rw [e0, e1, e2, e3]
  unfold RC SG at q
  rw [ez] at q
  exact q
/-- a small number's low four bits, and the rest -/
theorem k_and15 {x z : Int32} (ez : z = x &&& 15) (h : 0 ≤ x.toInt) : z.toInt = x.toInt % 16 := by
  obtain ⟨j, hj, rfl⟩ := nI_of (x := x) (fun q => by have := k_lt (b := 0) q rfl (by decide); omega)
  have e : nI j &&& 15 = nI (j % 16) := by
    rw [show (15 : Int32) = nI (2 ^ 4 - 1) from rfl]
    have q : ∀ a b : Nat, nI a &&& nI b = nI (a &&& b) := fun a b => by
      apply Int32.toBitVec_inj.mp
      rw [Int32.toBitVec_and]
      simp only [nI, Int32.toBitVec_ofNat']
      rw [BitVec.ofNat_and]
    rw [q, Nat.and_two_pow_sub_one_eq_mod]
  rw [ez, e, nI_toInt (by omega), nI_toInt hj]; omega
theorem k_shr4 {x z : Int32} (ez : z = x >>> ((4 : Int32) &&& 31)) (h : 0 ≤ x.toInt) : z.toInt = x.toInt / 16 := by
  obtain ⟨j, hj, rfl⟩ := nI_of (x := x) (fun q => by have := k_lt (b := 0) q rfl (by decide); omega)
  rw [ez, pk_shrN hj _ 4 (by decide), nI_toInt (by omega), nI_toInt hj]; omega
