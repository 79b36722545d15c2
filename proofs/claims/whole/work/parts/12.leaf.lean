set_option maxRecDepth 100000 in
theorem s_outside (v lo hi : Int32) (h : AH) : Run mX11_outside 0 0 0 [.int v, .int lo, .int hi] h (fun r h' => h' = h ∧ r = some (.int (if v < lo ∨ hi < v then 1 else 0))) := by
  refine Run.of (by decide) (Nat.le_of_ble_eq_true rfl) ?_
  refine g_iload_n (j := 0) (pc' := 1) dX11_outside_0 rfl rfl ?_
  refine g_iload_n (j := 1) (pc' := 2) dX11_outside_1 rfl rfl ?_
  refine g_icmp_lt (tgt := 10) (pc' := 5) dX11_outside_2 (by decide) rfl (fun hc => ?_) (fun hc => ?_)
  · have h9 : v < lo ∨ hi < v := Or.inl hc
    refine g_iconst (v := 1) (pc' := 11) dX11_outside_10 (by decide) rfl ?_
    refine g_goto (tgt := 15) dX11_outside_11 (by decide) ?_
    exact g_iret dX11_outside_15 rfl (by decide) (⟨rfl, by rw [if_pos h9]⟩)
  · refine g_iload_n (j := 0) (pc' := 6) dX11_outside_5 rfl rfl ?_
    refine g_iload_n (j := 2) (pc' := 7) dX11_outside_6 rfl rfl ?_
    refine g_icmp_le (tgt := 14) (pc' := 10) dX11_outside_7 (by decide) rfl (fun hc2 => ?_) (fun hc2 => ?_)
    · have h9 : ¬ (v < lo ∨ hi < v) := fun q => q.elim hc (fun z => absurd z (Int32.not_lt.mpr hc2))
      refine g_iconst (v := 0) (pc' := 15) dX11_outside_14 (by decide) rfl ?_
      exact g_iret dX11_outside_15 rfl (by decide) (⟨rfl, by rw [if_neg h9]⟩)
    · have h9 : v < lo ∨ hi < v := Or.inr (Int32.not_le.mp hc2)
      refine g_iconst (v := 1) (pc' := 11) dX11_outside_10 (by decide) rfl ?_
      refine g_goto (tgt := 15) dX11_outside_11 (by decide) ?_
      exact g_iret dX11_outside_15 rfl (by decide) (⟨rfl, by rw [if_pos h9]⟩)
