/-! ===== storing an object of a class below the array's ===== -/
def SubOk (C E : String) : Prop := ∀ (s : State) (a : Array Value), (∀ w ∈ gtbl, w.before a s = true) → ∀ c t : ClassId, s.vm.findClass C = some c → s.vm.findClass E = some t → s.vm.assignable c t = true
theorem SubOk.rf (C : String) : SubOk C C := fun s a _ c t h1 h2 => by
  have e : c = t := Option.some.inj (h1.symm.trans h2)
  subst e
  rw [Vm.assignable, show (256 : Nat) = 255 + 1 from rfl, Vm.assignableAux]
  simp
theorem asg_of {vm : Vm} {c t : ClassId} {kc kt : Class} (h1 : vm.classes[c]? = some kc) (h2 : vm.classes[t]? = some kt) (k1 : kc.kind = .ordinary) (k2 : kt.kind = .ordinary) (hi : kt.isInterface = false) (hs : vm.isSubclass c t = true) : vm.assignable c t = true := by
  simp [Vm.assignable, Vm.assignableAux, h1, h2, k1, k2, hi, hs]
theorem sub_up2 {vm : Vm} {a b c : ClassId} {ka kb : Class} (ha : vm.classes[a]? = some ka) (hb : vm.classes[b]? = some kb) (hs : ka.super = some b) (hs2 : kb.super = some c) (hc : ∃ kc, vm.classes[c]? = some kc) : vm.isSubclass a c = true := by
  have h0 : a < vm.classes.size := (Array.getElem?_eq_some_iff.mp ha).1
  have hpos : 0 < vm.classes.size := Nat.lt_of_le_of_lt (Nat.zero_le _) h0
  obtain ⟨kc, hc⟩ := hc
  have h2 : c < vm.classes.size := (Array.getElem?_eq_some_iff.mp hc).1
  unfold Vm.isSubclass
  by_cases h1 : vm.classes.size = 1
  · rw [h1] at h0 h2
    have e : a = c := (Nat.lt_one_iff.mp h0).trans (Nat.lt_one_iff.mp h2).symm
    subst e
    simp [Vm.isSubclassAux]
  · obtain ⟨n, hn⟩ : ∃ n, vm.classes.size = n + 2 := ⟨vm.classes.size - 2, by omega⟩
    rw [hn]
    simp [Vm.isSubclassAux, ha, hs, hb, hs2]
theorem SubOk.one {C E : String} (w1 : Cond.superclass C E ∈ gtbl) (w2 : Cond.superclass E "java/lang/Object" ∈ gtbl) : SubOk C E := fun s a hw c t h1 h2 => by
  obtain ⟨p, k, kp, q1, q2, q3, q4, q5, q6, -⟩ := Cond.superclass_spec h1 (hw _ w1)
  have e : p = t := Option.some.inj (q1.symm.trans h2)
  subst e
  obtain ⟨p2, k2, -, -, r2, -, -, -, -, r7⟩ := Cond.superclass_spec h2 (hw _ w2)
  have e2 : kp = k2 := Option.some.inj (q3.symm.trans r2)
  subst e2
  exact asg_of q2 q3 q5 q6 r7 (sub_up q2 q4)
theorem SubOk.two {C B E : String} (w0 : Cond.superclass C B ∈ gtbl) (w1 : Cond.superclass B E ∈ gtbl) (w2 : Cond.superclass E "java/lang/Object" ∈ gtbl) : SubOk C E := fun s a hw c t h1 h2 => by
  obtain ⟨b, kc, kb, o1, o2, o3, o4, o5, o6, -⟩ := Cond.superclass_spec h1 (hw _ w0)
  obtain ⟨p, k, kp, q1, q2, q3, q4, q5, q6, -⟩ := Cond.superclass_spec o1 (hw _ w1)
  have e : p = t := Option.some.inj (q1.symm.trans h2)
  subst e
  have e0 : kb = k := Option.some.inj (o3.symm.trans q2)
  subst e0
  obtain ⟨p2, k2, -, -, r2, -, -, -, -, r7⟩ := Cond.superclass_spec h2 (hw _ w2)
  have e2 : kp = k2 := Option.some.inj (q3.symm.trans r2)
  subst e2
  exact asg_of o2 q3 o5 q6 r7 (sub_up2 o2 o3 o4 q4 ⟨_, q3⟩)
section GAS
variable {mm : MM} {d mcr msr pc pc' : Nat} {L L' : AL} {st : List Value} {sk : List (Nat × List Value)} {M : Nat → Nat → Int32} {N : Nat → Nat → Int64} {Q : AQ}
theorem g_aastS {k n tag r ci : Nat} {vs ws : List Value} {i : Int32} {E : String} {q : vw_C} (hd : decode mm.2.1 pc = .ok (.aastore, 1)) (hs : sk[k]? = some (tag, vs)) (ht : arrTy tag = some (.object E) ∧ 103 ≤ tag) (hr : sk[r]? = some (ci, ws)) (hc : vwCl[ci]? = some q) (hq : SubOk q.1 E) (hi : i = nI n) (hn : n < vs.length) (hb : vs.length < 2147483648) (hp : pc + 1 = pc') (kk : Go mm d mcr msr pc' L st (sk.set k (tag, vs.set n (.ref r)), M, N) Q) : Go mm d mcr msr pc L (.ref r :: .int i :: .ref k :: st) (sk, M, N) Q := by
  subst hp
  subst hi
  intro B0 D ad cid p l e R s m args below meth c H locs cells slots Qf ls hC hR hS hl hc' hs' hE
  have hts := hC.2.2.2.2.2.1
  have hB := hC.2.2.2.2.2.2.2.2.2
  have hkl := hR.lt hs
  have hce : ∀ vs' : List Value, cellOf ad cid M N k (tag, vs') = .inl (cid k, vs'.length, .inr (.inr (.inr (.inr (rowOf ad vs'))))) := by
    intro vs'
    have := ht.2
    simp [cellOf, show ¬ tag < 100 by omega, show ¬ tag = 101 by omega, show ¬ tag < 103 by omega]
  have hcell : H[ad k]? = some (arrV (cid k) vs.length (fun j => va_rf (rowOf ad vs j))) := by
    have h0 := hR.1 k _ (ws_get hs)
    rw [hce] at h0
    exact h0
  obtain ⟨cellV, g1, g3, g4⟩ := Rep.recv hC.2.2.2.2.2.2.2.2.1 hR hr hc
  obtain ⟨kV, hkV, -⟩ := Vm.findClass_spec g4
  obtain ⟨kA, comp, k1, k2, k3, -⟩ := (hR.2.2.2.1 k _ (.object E) hs ht.1).2
  obtain ⟨kE, hkE, -⟩ := Vm.findClass_spec k3
  have hasg : s.vm.assignable cellV.cls comp = true := hq s args hts _ _ g4 k3
  have cl : (nI n).toNatClampNeg = n := nI_clamp (by omega)
  refine W.aast hC.1 hC.2.1 hcell (fun q h => by cases h) (fun h => by cases h) k1 k2 rfl hkE ⟨nI_pos (by omega), by rw [arrV_size, cl]; exact hn⟩ g1 (fun q h => by rw [h] at g3; cases g3) hkV hasg rfl rfl hd fun H1 e1 e2 e3 => ?_
  have hset : (sk.set k (tag, vs.set n (.ref r)))[k]? = some (tag, vs.set n (.ref r)) := List.getElem?_set_self (List.getElem?_eq_some_iff.mp hs).1
  have hR' : Rep B0 D ad cid (sk.set k (tag, vs.set n (.ref r)), M, N) s H1 := by
    refine Rep.write (c' := (tag, vs.set n (.ref r))) hB hR hs hset rfl (List.length_set ..) (fun i c hik hc9 => ⟨by show (sk.set k _)[i]? = _; rw [List.getElem?_set_ne (Ne.symm hik)]; exact hc9, rfl⟩) (fun i hi9 => rfl) ?_ e2 e3
    show va_at D vwCl (ad k, cellOf ad cid M N k (tag, vs.set n (.ref r))) H1
    rw [hce]
    show H1[ad k]? = some (arrV (cid k) (vs.set n (.ref r)).length (fun j => va_rf (rowOf ad (vs.set n (.ref r)) j)))
    rw [e1, cl, arrV_store, List.length_set]
    congr 2
    funext j
    by_cases hj : j = n
    · subst hj
      simp [updV, rowOf, hn, va_rf]
    · simp [updV, hj, rowOf, List.getElem?_set_ne (Ne.symm hj)]
  exact kk B0 D ad cid p l e R s m args below meth c H1 _ cells slots Qf ls hC hR' (hS.put e2 e3 (by rw [hB k hkl]; omega)) hl hc' hs' hE
end GAS
