/-- locals that are no longer needed -/
theorem g_less {mm : MM} {d mcr msr pc : Nat} {L L' : AL} {st : List Value} {h : AH} {Q : AQ} (ks : List Nat) (hL : ks.filterMap (fun i => L[i]?) = L') (kk : Go mm d mcr msr pc L' st h Q) : Go mm d mcr msr pc L st h Q := by
  intro B0 D ad cid p l e R s m args below meth c H locs cells slots Qf ls hC hR hS hl hc hs hE
  refine kk B0 D ad cid p l e R s m args below meth c H locs cells slots Qf ls hC hR hS ⟨hl.1, hl.2.1, fun q hq => ?_⟩ hc hs hE
  obtain ⟨q0, h0, rfl⟩ := List.mem_map.mp hq
  rw [← hL] at h0
  obtain ⟨i, -, hi⟩ := List.mem_filterMap.mp h0
  exact hl.2.2 _ (List.mem_map.mpr ⟨q0, List.mem_of_getElem? hi, rfl⟩)
