set_option maxHeartbeats 4000000 in
set_option maxRecDepth 100000 in
theorem c_within (l : Launch) (D : va_G) (cy : Nat → ClassId) (x0 x1 x2 : Int32) : KP l yX11_within cX11_within 3 (some .boolean) 0 0 D (kTY cy) [.int x0, .int x1, .int x2] [] (fun r => r = if x0 < x1 ∨ x2 < x0 then 0 else 1) := by
  refine KP.of (by decide) (by decide) (fun p e s m below meth c ls F hE hP hl => ?_)
  have F : kF p s m meth c cX11_within 3 (some .boolean) _ RX11 := F
  obtain ⟨hx, hb, hr, hml, hown, hG, hlk⟩ := id F
  have hl : lv_has ls 3 [(0, .int x0), (1, .int x1), (2, .int x2)] := hl
  refine lv_iload_n hx hb dX11_within_0 rfl (lv_at hl 0 rfl) ?_
  refine lv_iload_n hx hb dX11_within_1 rfl (lv_at hl 1 rfl) ?_
  refine lv_icmp_lt (tgt := 14) hx hb dX11_within_2 (by decide) (fun c_1 => ?_) (fun c_1 => ?_)
  · refine lv_iconst (v := 0) hx hb dX11_within_14 (by decide) ?_
    exact KP.rt F rfl (by rw [if_pos (Or.inl c_1)]) dX11_within_15
  · refine lv_iload_n hx hb dX11_within_5 rfl (lv_at hl 0 rfl) ?_
    refine lv_iload_n hx hb dX11_within_6 rfl (lv_at hl 2 rfl) ?_
    refine lv_icmp_gt (tgt := 14) hx hb dX11_within_7 (by decide) (fun c_2 => ?_) (fun c_2 => ?_)
    · refine lv_iconst (v := 0) hx hb dX11_within_14 (by decide) ?_
      exact KP.rt F rfl (by rw [if_pos (Or.inr c_2)]) dX11_within_15
    · refine lv_iconst (v := 1) hx hb dX11_within_10 (by decide) ?_
      refine lv_goto (tgt := 15) hx hb dX11_within_11 (by decide) ?_
      exact KP.rt F rfl (by rw [if_neg (fun q => q.elim c_1 c_2)]) dX11_within_15
