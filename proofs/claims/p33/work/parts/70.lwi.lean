section KLW
variable {p : Program} {l : Launch} {e : Env} {R : Room} {s : State} {m : MethodId} {args : Array Value} {below : List Frame} {meth : Method} {c : Code} {H : Heap} {locs : List Loc} {cells slots : Nat} {Q : State → Prop}
variable {cc bytes : ByteArray} {pc nL maxL index n ci : Nat} {ls : Array Slot} {rest st As : List Value} {D : va_G} {T : List (ClassId × FieldType)} {A : Nat → Prop} {w W0 wr : va_W} {H0 : Heap} {ret ret' : Option FieldType} {b : Nat} {fs : List Value} {cq : vw_C}
variable {y : MethodName} {fr lo mc ms : Nat} {own host : String}
/-- the law's call of a method on a block -/
theorem lwI {Φ : Int32 → va_W → Prop} {C : String} {kt vt : Nat} {TT : va_W} (F : kF p s m meth c cc nL ret args own) (hE : kE D T s) (hP : va_P D vwCl W0 H) (hD : va_D A W0) (hS : va_S A s.heap H locs) (hA : ∀ q : Nat, s.heap.size ≤ q → A q) (hl : ls.size = nL) (hp : W0.Perm (w ++ wr)) (hT : ∀ q ∈ TT, q ∈ wr) (hZ : ZT kt vt A s s.heap) (hM : JI l y bytes maxL ret' fr lo D T (.ref b :: As) w (ZA D TT kt vt) (S := va_W) Φ (fun u => u) mc ms) (hm : Cond.methodLink own index y ∈ kGW) (hY : kMV C y bytes maxL ret' n) (hR : fr + 1 ≤ R.frames ∧ 8 + (maxL + 11) + lo ≤ R.locals) (hb0 : w[0]? = some (b, .inr (ci, fs))) (hci : vwCl[ci]? = some cq) (hq : cq.1 = C) (hn : As.length = n) (hst : st = As.reverse ++ .ref b :: rest) (hW : (rest.map fun v => v.category).sum ≤ 8) (hf : cells + mc ≤ R.cells ∧ slots + ms ≤ R.slots) (hdg : decode cc pc = .ok (.invokevirtual index, 3))
    (kk : ∀ (r : Int32) (u : va_W) (H1 : Heap) (locs1 : List Loc), Φ r u → va_P D vwCl (u ++ wr) H1 → va_D A (u ++ wr) → va_S A s.heap H1 locs1 → W p l e R s m args below meth c H1 locs1 (cells + mc) (slots + ms) Q (F0 m (pc + 3) ls (.int r :: rest))) : W p l e R s m args below meth c H locs cells slots Q (F0 m pc ls st) := by
  obtain ⟨f1, f2, f3, f4, f5, f6, f7⟩ := F
  subst hq
  have hP' := hP.perm hp
  have hD' := hD.perm hp
  have hFc := va_free (wc := w) hD' hS hA (List.range w.length) (k_rngC w wr)
  have hpre : ∀ U : State, U.heap = H → s.WarmedH U.vm → va_Pc (.ref b :: As) (jWc D T w (ZA D TT kt vt) H.size) (.ref b :: As).toArray U := fun U hU hW => ⟨rfl, (k_pre (As := .ref b :: As) hE hP' hD' rfl (List.range w.length) (k_ndC _) (k_rngC w wr) U hU hW).2, by
    rw [hU]
    have hat : ∀ (k : Nat) (q : Nat × va_E), TT[k]? = some q → ∃ j : Nat, (w ++ wr)[w.length + j]? = some q := fun k q hk => by
      obtain ⟨j, hj⟩ := List.mem_iff_getElem?.mp (hT q (List.mem_of_getElem? hk))
      exact ⟨j, by rw [List.getElem?_append_right (Nat.le_add_right _ _), Nat.add_sub_cancel_left]; exact hj⟩
    refine ⟨⟨fun k q hk => ?_, fun k q hk hA2 => ?_⟩, ZT_ok.1 _ s U H hW (ZT_ok.2.2.1 A (va_A w H.size) s H hFc (j_atW ZT_ok hZ hS))⟩
    · obtain ⟨j, hj⟩ := hat k q hk
      exact hP' _ q hj
    · obtain ⟨j, hj⟩ := hat k q hk
      rcases hA2 with ⟨k2, e2, h2⟩ | h2
      · have hlt : k2 < w.length := (List.getElem?_eq_some_iff.mp h2).1
        have := hD'.1 _ k2 q (q.1, e2) hj (by rw [List.getElem?_append_left hlt]; exact h2) rfl
        omega
      · exact absurd (hP' _ q hj).lt (Nat.not_lt.mpr h2)⟩
  exact kwI (wr := wr) (va_runV (As := As) (rest := rest) (nL := nL) ⟨f1, f2, f4, f5, f6⟩ (hM H.size) (cwV n f6 (k_gV hm hY) rfl rfl rfl hY.2.2.2.2 hR) ⟨jWc.blindW ZA_ok, va_recv hE.1 (k_Pl hP') hci hb0, hpre⟩ rfl hn hl hst (lv_room hW) hdg hf) hP' hD' hS hA (List.range w.length) ((List.range wr.length).map (fun i => w.length + i)) (k_rngC w wr) (k_rngR w wr) (k_ndR _ _) (k_disR _ _) (fun r u H1 locs1 h1 h2 h3 h4 => kk r u H1 locs1 h1 (h2.perm List.perm_append_comm) (h3.perm List.perm_append_comm) h4)
end KLW
