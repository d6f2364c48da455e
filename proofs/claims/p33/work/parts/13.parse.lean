/-! ===== reading texts: the reference's words ===== -/
def UN (g g' : Nat → Int32) (e : Int) : Prop := ∀ i : Nat, (i : Int) < e → g' i = g i
theorem UN.refl {g : Nat → Int32} {e : Int} : UN g g e := fun _ _ => rfl
theorem UN.of {a b : Nat → Int32} {e e' : Int} (h : UN a b e) (q : e' ≤ e) : UN a b e' := fun i hi => h i (by omega)
theorem UN.trans {a b c : Nat → Int32} {e e' : Int} (h : UN a b e) (h2 : UN b c e') (q : e ≤ e') : UN a c e := fun i hi => (h2 i (by omega)).trans (h i hi)
theorem UN.put {a b : Nat → Int32} {e : Int} (h : UN a b e) (z w : Int32) (q : e ≤ z.toInt) (q0 : 0 ≤ z.toInt) : UN a (upd b z.toNatClampNeg w) e := fun i hi => by
  rw [k_upd_ne (by rw [k_cl]; omega)]; exact h i hi
theorem UN.cs {g g' : Nat → Int32} {b e e' d md : Int} (h : UN g g' e') (hc : CS g b e d md) (q : e ≤ e') : CS g' b e d md := hc.cong (fun i _ h2 => h i (by omega))
/-- what puts does -/
def PT (g g' : Nat → Int32) (e v : Int) : Prop := ∃ z w : Int32, g' = upd g z.toNatClampNeg w ∧ z.toInt = e ∧ w.toInt = v
theorem PT.un {g g' : Nat → Int32} {e v : Int} (h : PT g g' e v) (h0 : 0 ≤ e) : UN g g' e := by
  obtain ⟨z, w, rfl, h1, h2⟩ := h
  exact UN.refl.put z w (by omega) (by omega)
theorem PT.push {g g' : Nat → Int32} {b e v d md md' : Int} (h : PT g g' e v) (hc : CS g b e d md) (hv : 0 ≤ v ∧ v % 16 ≤ 1 ∧ (v % 16 = 1 → v / 16 ≤ 12)) (hm : md + 1 ≤ md') : CS g' b (e + 1) (d + 1) md' := by
  obtain ⟨z, w, rfl, h1, h2⟩ := h
  have h0 := hc.1; have h3 := hc.2.1
  exact (hc.push _ w (by rw [k_cl]; omega) (by rw [h2]; exact hv)).of rfl rfl hm
theorem PT.op {g g' : Nat → Int32} {b e v d md : Int} (h : PT g g' e v) (hc : CS g b e d md) (hv : 2 ≤ v ∧ v < 16 ∧ v ≠ 11) (hd : 2 ≤ d) : CS g' b (e + 1) (d - 1) md := by
  obtain ⟨z, w, rfl, h1, h2⟩ := h
  have h0 := hc.1; have h3 := hc.2.1
  exact hc.op _ w (by rw [k_cl]; omega) (by rw [h2]; exact hv) hd
theorem PT.no {g g' : Nat → Int32} {b e v d md : Int} (h : PT g g' e v) (hc : CS g b e d md) (hv : v = 11) (hd : 1 ≤ d) : CS g' b (e + 1) d md := by
  obtain ⟨z, w, rfl, h1, h2⟩ := h
  have h0 := hc.1; have h3 := hc.2.1
  exact hc.no _ w (by rw [k_cl]; omega) (by rw [h2]; exact hv) hd
/-- how many of 'and', 'or' wait -/
def opn (o : Nat → Int32) : Nat → Nat
  | 0 => 0
  | n + 1 => opn o n + (if (o n).toInt = 12 ∨ (o n).toInt = 13 then 1 else 0)
theorem opn_cong {o o' : Nat → Int32} : ∀ {n : Nat}, (∀ i, i < n → o' i = o i) → opn o' n = opn o n := by
  intro n
  induction n with
  | zero => intro _; rfl
  | succ n ih => intro h; rw [opn, opn, ih (fun i q => h i (by omega)), h n (by omega)]
def OPN (o : Nat → Int32) (n : Int) : Int := (opn o n.toNat : Int)
theorem OPN.nn (o : Nat → Int32) (n : Int) : 0 ≤ OPN o n := Int.natCast_nonneg _
theorem OPN.zero {o : Nat → Int32} {n : Int} (h : n ≤ 0) : OPN o n = 0 := by
  unfold OPN
  rw [show n.toNat = 0 by omega]; rfl
theorem OPN.pop {o : Nat → Int32} {n : Int} (z : Int32) (hz : z.toInt = n - 1) (hn : 1 ≤ n) : ((o z.toNatClampNeg).toInt = 12 ∨ (o z.toNatClampNeg).toInt = 13 → OPN o n = OPN o (n - 1) + 1) ∧ ((o z.toNatClampNeg).toInt ≠ 12 ∧ (o z.toNatClampNeg).toInt ≠ 13 → OPN o n = OPN o (n - 1)) := by
  unfold OPN
  have e1 : n.toNat = (n - 1).toNat + 1 := by omega
  have e2 : z.toNatClampNeg = (n - 1).toNat := by rw [k_cl]; omega
  rw [e1, opn, e2]
  constructor
  · intro q; rw [if_pos q]; rfl
  · intro q; rw [if_neg (by omega)]; rfl
theorem OPN.push {o : Nat → Int32} {n : Int} (z v : Int32) (hz : z.toInt = n) (hn : 0 ≤ n) : (v.toInt = 12 ∨ v.toInt = 13 → OPN (upd o z.toNatClampNeg v) (n + 1) = OPN o n + 1) ∧ (v.toInt ≠ 12 ∧ v.toInt ≠ 13 → OPN (upd o z.toNatClampNeg v) (n + 1) = OPN o n) := by
  unfold OPN
  have e1 : (n + 1).toNat = n.toNat + 1 := by omega
  have e2 : z.toNatClampNeg = n.toNat := by rw [k_cl]; omega
  have e3 : opn (upd o n.toNat v) n.toNat = opn o n.toNat := opn_cong (fun i q => k_upd_ne (by omega))
  rw [e1, opn, e2, k_upd_eq, e3]
  constructor
  · intro q; rw [if_pos q]; rfl
  · intro q; rw [if_neg (by omega)]; rfl
def OPV (o : Nat → Int32) (n : Int) : Prop := ∀ k : Nat, (k : Int) < n → (o k).toInt = 11 ∨ (o k).toInt = 12 ∨ (o k).toInt = 13 ∨ (o k).toInt = 91
theorem OPV.zero {o : Nat → Int32} {n : Int} (h : n ≤ 0) : OPV o n := fun k q => by omega
theorem OPV.of {o : Nat → Int32} {n n' : Int} (h : OPV o n) (e : n' ≤ n) : OPV o n' := fun k q => h k (by omega)
theorem OPV.at {o : Nat → Int32} {n : Int} (h : OPV o n) (z : Int32) (hz : 0 ≤ z.toInt ∧ z.toInt < n) : (o z.toNatClampNeg).toInt = 11 ∨ (o z.toNatClampNeg).toInt = 12 ∨ (o z.toNatClampNeg).toInt = 13 ∨ (o z.toNatClampNeg).toInt = 91 := h _ (by rw [k_cl]; omega)
theorem OPV.push {o : Nat → Int32} {n : Int} (h : OPV o n) (z v : Int32) (hz : z.toInt = n) (hv : v.toInt = 11 ∨ v.toInt = 12 ∨ v.toInt = 13 ∨ v.toInt = 91) : OPV (upd o z.toNatClampNeg v) (n + 1) := fun k q => by
  by_cases e : k = z.toNatClampNeg
  · rw [e, k_upd_eq]; exact hv
  · rw [k_upd_ne e]; exact h k (by rw [k_cl] at e; omega)
def INS (o : Nat → Int32) (n : Int) : Prop := ∃ k : Nat, (k : Int) < n ∧ (o k).toInt = 91
theorem INS.pos {o : Nat → Int32} {n : Int} (h : INS o n) : 1 ≤ n := by obtain ⟨k, q, -⟩ := h; omega
theorem INS.pop {o : Nat → Int32} {n : Int} (h : INS o n) (z : Int32) (hz : z.toInt = n - 1) (hv : (o z.toNatClampNeg).toInt ≠ 91) : INS o (n - 1) := by
  obtain ⟨k, q1, q2⟩ := h
  refine ⟨k, ?_, q2⟩
  by_cases e : k = z.toNatClampNeg
  · rw [e] at q2; exact absurd q2 hv
  · rw [k_cl] at e; omega
def NTP (o : Nat → Int32) (n : Int) : Prop := 0 < n → (o (n - 1).toNat).toInt ≠ 11 ∧ (o (n - 1).toNat).toInt ≠ 12 ∧ (o (n - 1).toNat).toInt ≠ 13
theorem NTP.at {o : Nat → Int32} {n : Int} (h : NTP o n) (hn : 1 ≤ n) : OPN o (n - 1) = OPN o n := by
  have q := h (by omega)
  unfold OPN
  rw [show n.toNat = (n - 1).toNat + 1 by omega, opn, if_neg (by omega)]; rfl
theorem NTP.end {o : Nat → Int32} {n : Int} (h : NTP o n) (hv : OPV o n) (hi : ¬ INS o n) : n ≤ 0 := by
  by_cases c : 0 < n
  · have q := h c
    have q2 := hv (n - 1).toNat (by omega)
    exact absurd ⟨(n - 1).toNat, by omega, by omega⟩ hi
  · omega
/-- the clauses of a rule that is being told -/
def RCL (g cl : Nat → Int32) (t c : Nat) (len : Int) : Prop := RC g cl t c ∧ (cl (48 * t + 4 * c + 1)).toInt ≤ len ∧ ((cl (48 * t + 4 * c + 2)).toInt < 0 ∨ (cl (48 * t + 4 * c + 3)).toInt ≤ len)
def PRV (g cl : Nat → Int32) (t m len : Int) : Prop := 0 ≤ m ∧ m ≤ 12 ∧ ∀ c : Nat, (c : Int) < m → RCL g cl t.toNat c len
theorem PRV.zero {g cl : Nat → Int32} {t m len : Int} (h : m = 0) : PRV g cl t m len := ⟨by omega, by omega, fun c q => by omega⟩
theorem SG.un {g g' : Nat → Int32} {t : Nat} {x y : Int32} {e : Int} (h : SG g t x y) (hu : UN g g' e) (q : 400 * t + y.toInt ≤ e) : SG g' t x y := ⟨h.1, h.2.1, h.2.2.1, hu.cs h.2.2.2 q⟩
theorem RCL.un {g g' cl cl' : Nat → Int32} {t c : Nat} {len e : Int} (h : RCL g cl t c len) (hu : UN g g' e) (q : 400 * t + len ≤ e) (h0 : ∀ i : Nat, i < 48 * t + 4 * c + 4 → cl' i = cl i) (len' : Int) (hl : len ≤ len') : RCL g' cl' t c len' := by
  obtain ⟨⟨a, b⟩, l1, l2⟩ := h
  unfold RCL RC
  rw [h0 _ (by omega), h0 _ (by omega), h0 _ (by omega), h0 _ (by omega)]
  refine ⟨⟨a.un hu (by omega), ?_⟩, by omega, by omega⟩
  rcases b with b | b
  · exact Or.inl b
  · rcases l2 with l2 | l2
    · exact Or.inl l2
    · exact Or.inr (b.un hu (by omega))
theorem PRV.un {g g' cl cl' : Nat → Int32} {t m len len' e : Int} (h : PRV g cl t m len) (hu : UN g g' e) (q : 400 * t + len ≤ e) (ht : 0 ≤ t) (h0 : UN cl cl' (48 * t + 4 * m)) (hl : len ≤ len') : PRV g' cl' t m len' := ⟨h.1, h.2.1, fun c hc => RCL.un (h.2.2 c hc) hu (by omega) (fun i hi => h0 i (by omega)) len' hl⟩
theorem RV.un {g g' cl cl' cn cn' : Nat → Int32} {r : Int} (h : RV g cl cn r) (hu : UN g g' (400 * r)) (hc : UN cl cl' (48 * r)) (hn : UN cn cn' r) : RV g' cl' cn' r := ⟨h.1, fun t ht => by
  have r6 := h.1
  obtain ⟨a, b, c⟩ := h.2 t ht
  rw [hn t ht]
  refine ⟨a, b, fun k hk => ?_⟩
  obtain ⟨q1, q2⟩ := c k hk
  unfold RC
  rw [hc _ (by omega), hc _ (by omega), hc _ (by omega), hc _ (by omega)]
  refine ⟨q1.un hu ?_, ?_⟩
  · have := q1.2.2.1; omega
  · rcases q2 with q2 | q2
    · exact Or.inl q2
    · refine Or.inr (q2.un hu ?_)
      have := q2.2.2.1; omega⟩
theorem RV.more {g cl cn : Nat → Int32} {r len : Int} (h : RV g cl cn r) (h0 : 0 ≤ r ∧ r < 6) (hp : PRV g cl r (cn r.toNat).toInt len) : RV g cl cn (r + 1) := ⟨by omega, fun t ht => by
  by_cases e : (t : Int) = r
  · have et : t = r.toNat := by omega
    rw [et]
    exact ⟨hp.1, hp.2.1, fun c hc => (hp.2.2 c hc).1⟩
  · exact h.2 t (by omega)⟩
/-- a clause more -/
theorem PRV.more {g cl : Nat → Int32} {t m len : Int} (h : PRV g cl t m len) (ht : 0 ≤ t) (hm : m < 12) (a0 a1 a2 a3 : Int32) (h0 : a0.toInt = 48 * t + 4 * m) (h1 : a1.toInt = 48 * t + 4 * m + 1) (h2 : a2.toInt = 48 * t + 4 * m + 2) (h3 : a3.toInt = 48 * t + 4 * m + 3)
    (k1 : 0 ≤ (cl a0.toNatClampNeg).toInt ∧ (cl a0.toNatClampNeg).toInt ≤ (cl a1.toNatClampNeg).toInt ∧ (cl a1.toNatClampNeg).toInt ≤ len ∧ len ≤ 400) (k2 : CS g (400 * t + (cl a0.toNatClampNeg).toInt) (400 * t + (cl a1.toNatClampNeg).toInt) 1 60)
    (k3 : (cl a2.toNatClampNeg).toInt < 0 ∨ (0 ≤ (cl a2.toNatClampNeg).toInt ∧ (cl a2.toNatClampNeg).toInt ≤ (cl a3.toNatClampNeg).toInt ∧ (cl a3.toNatClampNeg).toInt ≤ len ∧ CS g (400 * t + (cl a2.toNatClampNeg).toInt) (400 * t + (cl a3.toNatClampNeg).toInt) 1 60)) : PRV g cl t (m + 1) len := by
  have hm0 := h.1
  refine ⟨by omega, by omega, fun c hc => ?_⟩
  by_cases e : (c : Int) = m
  · have e0 : a0.toNatClampNeg = 48 * t.toNat + 4 * c := by rw [k_cl]; omega
    have e1 : a1.toNatClampNeg = 48 * t.toNat + 4 * c + 1 := by rw [k_cl]; omega
    have e2 : a2.toNatClampNeg = 48 * t.toNat + 4 * c + 2 := by rw [k_cl]; omega
    have e3 : a3.toNatClampNeg = 48 * t.toNat + 4 * c + 3 := by rw [k_cl]; omega
    have et : ((t.toNat : Nat) : Int) = t := by omega
    rw [e0, e1] at k1 k2
    rw [e2, e3] at k3
    unfold RCL RC SG
    rw [et]
    refine ⟨⟨⟨k1.1, k1.2.1, by omega, k2⟩, ?_⟩, k1.2.2.1, ?_⟩
    · rcases k3 with k3 | k3
      · exact Or.inl k3
      · exact Or.inr ⟨k3.1, k3.2.1, by omega, k3.2.2.2⟩
    · rcases k3 with k3 | k3
      · exact Or.inl k3
      · exact Or.inr k3.2.2.1
  · exact h.2.2 c (by omega)
/-- a green that is being told -/
def RDV (g : Nat → Int32) : Prop := (0 ≤ (g 3).toInt ∧ (g 3).toInt ≤ 12) ∧ (0 ≤ (g 4).toInt ∧ (g 4).toInt ≤ 6) ∧ (0 ≤ (g 5).toInt ∧ (g 5).toInt ≤ 5) ∧ (∀ a : Nat, a < 5 → 0 ≤ (g (46 + a)).toInt ∧ (g (46 + a)).toInt ≤ 5) ∧ (∀ a : Nat, (a : Int) < (g 5).toInt → 1 ≤ (g (74 + 2 * a)).toInt)
theorem RDV.put {g : Nat → Int32} (h : RDV g) (z v : Int32) (h1 : 0 ≤ z.toInt ∧ z.toInt ≠ 3 ∧ z.toInt ≠ 4 ∧ z.toInt ≠ 5) (h2 : 46 ≤ z.toInt ∧ z.toInt ≤ 50 → 0 ≤ v.toInt ∧ v.toInt ≤ 5) (h3 : z.toInt < 74 ∨ 74 + 2 * (g 5).toInt ≤ z.toInt) : RDV (upd g z.toNatClampNeg v) := by
  obtain ⟨k, hk⟩ : ∃ k : Nat, z.toNatClampNeg = k := ⟨_, rfl⟩
  have ek : (k : Int) = z.toInt := by rw [← hk, k_cl]; omega
  rw [hk]
  obtain ⟨a1, a2, a3, a4, a5⟩ := h
  refine ⟨?_, ?_, ?_, ?_, ?_⟩
  · rw [k_upd_ne (by omega)]; exact a1
  · rw [k_upd_ne (by omega)]; exact a2
  · rw [k_upd_ne (by omega)]; exact a3
  · intro a ha
    by_cases e : 46 + a = k
    · rw [e, k_upd_eq]; exact h2 (by omega)
    · rw [k_upd_ne e]; exact a4 a ha
  · intro a ha
    rw [k_upd_ne (j := 5) (by omega)] at ha
    rw [k_upd_ne (by omega)]; exact a5 a ha
theorem RDV.inc {g : Nat → Int32} (h : RDV g) (v : Int32) : ((0 ≤ v.toInt ∧ v.toInt ≤ 12) → RDV (upd g 3 v)) ∧ ((0 ≤ v.toInt ∧ v.toInt ≤ 6) → RDV (upd g 4 v)) ∧ ((v.toInt = (g 5).toInt + 1 ∧ v.toInt ≤ 5) → 1 ≤ (g (74 + 2 * (g 5).toInt.toNat)).toInt → RDV (upd g 5 v)) := by
  obtain ⟨a1, a2, a3, a4, a5⟩ := h
  refine ⟨fun q => ⟨?_, ?_, ?_, ?_, ?_⟩, fun q => ⟨?_, ?_, ?_, ?_, ?_⟩, fun q q2 => ⟨?_, ?_, ?_, ?_, ?_⟩⟩
  · rw [k_upd_eq]; exact q
  · rw [k_upd_ne (by omega)]; exact a2
  · rw [k_upd_ne (by omega)]; exact a3
  · intro a ha; rw [k_upd_ne (by omega)]; exact a4 a ha
  · intro a ha; rw [k_upd_ne (j := 5) (by omega)] at ha; rw [k_upd_ne (by omega)]; exact a5 a ha
  · rw [k_upd_ne (by omega)]; exact a1
  · rw [k_upd_eq]; exact q
  · rw [k_upd_ne (by omega)]; exact a3
  · intro a ha; rw [k_upd_ne (by omega)]; exact a4 a ha
  · intro a ha; rw [k_upd_ne (j := 5) (by omega)] at ha; rw [k_upd_ne (by omega)]; exact a5 a ha
  · rw [k_upd_ne (by omega)]; exact a1
  · rw [k_upd_ne (by omega)]; exact a2
  · rw [k_upd_eq]; omega
  · intro a ha; rw [k_upd_ne (by omega)]; exact a4 a ha
  · intro a ha
    rw [k_upd_eq] at ha
    rw [k_upd_ne (by omega)]
    by_cases e : (a : Int) = (g 5).toInt
    · rw [show a = (g 5).toInt.toNat by omega]; exact q2
    · exact a5 a (by omega)
theorem RDV.zero {g : Nat → Int32} (h : ∀ i : Nat, i < 84 → (g i).toInt = 0) : RDV g := by
  have h3 := h 3 (by omega); have h4 := h 4 (by omega); have h5 := h 5 (by omega)
  refine ⟨by omega, by omega, by omega, fun a ha => ?_, fun a ha => by omega⟩
  have := h (46 + a) (by omega); omega
theorem RDV.bounds {g : Nat → Int32} (h : RDV g) : (0 ≤ (g 3).toInt ∧ (g 3).toInt ≤ 12) ∧ (0 ≤ (g 4).toInt ∧ (g 4).toInt ≤ 6) ∧ (0 ≤ (g 5).toInt ∧ (g 5).toInt ≤ 5) := ⟨h.1, h.2.1, h.2.2.1⟩
/-- what is said as the text told it, ahead of the begin -/
def SVT (g : Nat → Int32) : Prop := (0 ≤ (g 3).toInt ∧ (g 3).toInt ≤ 12) ∧ (0 ≤ (g 4).toInt ∧ (g 4).toInt ≤ 6) ∧ (0 ≤ (g 5).toInt ∧ (g 5).toInt ≤ 5) ∧ (∀ a : Nat, a < 5 → 0 ≤ (g (46 + a)).toInt ∧ (g (46 + a)).toInt ≤ 5) ∧ (∀ a : Nat, (a : Int) < (g 5).toInt → 1 ≤ (g (74 + 2 * a)).toInt) ∧ (0 ≤ (g 114).toInt ∧ (g 114).toInt ≤ 10) ∧ (∀ j : Nat, (j : Int) < (g 114).toInt → 0 ≤ (g (85 + 3 * j)).toInt ∧ (g (85 + 3 * j)).toInt ≤ 4)
theorem SV.t {g : Nat → Int32} (h : SV g) : SVT g := ⟨h.1, h.2.1, h.2.2.1, h.2.2.2.1, h.2.2.2.2.2.1, h.2.2.2.2.2.2.1, h.2.2.2.2.2.2.2⟩
theorem SVT.bounds {g : Nat → Int32} (h : SVT g) : (0 ≤ (g 3).toInt ∧ (g 3).toInt ≤ 12) ∧ (0 ≤ (g 4).toInt ∧ (g 4).toInt ≤ 6) ∧ (0 ≤ (g 5).toInt ∧ (g 5).toInt ≤ 5) ∧ (0 ≤ (g 114).toInt ∧ (g 114).toInt ≤ 10) := ⟨h.1, h.2.1, h.2.2.1, h.2.2.2.2.2.1⟩
theorem NB.reflT {g : Nat → Int32} (_ : SVT g) : NB g g := fun _ _ => rfl
theorem NB.toldT {a b : Nat → Int32} (h : NB a b) (hs : SVT a) (z : Int32) (k : Int) (h1 : z.toInt = 74 + 2 * k ∧ 0 ≤ k ∧ k < (a 5).toInt) : 1 ≤ (b z.toNatClampNeg).toInt := by
  have q5 := hs.2.2.1
  rw [h _ (by rw [k_cl]; omega)]
  have q := hs.2.2.2.2.1 k.toNat (by omega)
  have e : 74 + 2 * k.toNat = z.toNatClampNeg := by rw [k_cl]; omega
  rwa [e] at q
theorem NB.prT {g0 g : Nat → Int32} (h0 : SVT g0) (h : NB g0 g) (hk : SK g (g0 5).toInt) : PR g0 g := by
  refine ⟨?_, h⟩
  obtain ⟨a1, a2, a3, a4, a6, a7, a8⟩ := h0
  refine ⟨?_, ?_, ?_, ?_, ?_, ?_, ?_, ?_⟩
  · rw [h 3 (by omega)]; exact a1
  · rw [h 4 (by omega)]; exact a2
  · rw [h 5 (by omega)]; exact a3
  · intro a ha; rw [h _ (by omega)]; exact a4 a ha
  · intro a ha; rw [h 5 (by omega)] at ha; exact hk a ha
  · intro a ha; rw [h 5 (by omega)] at ha; rw [h _ (by omega)]; exact a6 a ha
  · rw [h 114 (by omega)]; exact a7
  · intro j hj; rw [h 114 (by omega)] at hj; rw [h _ (by omega)]; exact a8 j hj
theorem RDV.svt {g s : Nat → Int32} (h : RDV g) (h1 : ∀ i : Nat, i < 84 → s i = g i) (h2 : ∀ i : Nat, 84 ≤ i → i < 115 → (s i).toInt = 0) : SVT s := by
  obtain ⟨a1, a2, a3, a4, a5⟩ := h
  have hm := h2 114 (by omega) (by omega)
  refine ⟨?_, ?_, ?_, ?_, ?_, by omega, fun j hj => by omega⟩
  · rw [h1 3 (by omega)]; exact a1
  · rw [h1 4 (by omega)]; exact a2
  · rw [h1 5 (by omega)]; exact a3
  · intro a ha; rw [h1 _ (by omega)]; exact a4 a ha
  · intro a ha; rw [h1 5 (by omega)] at ha; rw [h1 _ (by omega)]; exact a5 a ha
