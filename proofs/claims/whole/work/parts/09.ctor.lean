/-! ===== arrays of objects, final fields, new int[n][k] ===== -/
section GN
variable {mm : MM} {d mcr msr pc pc' : Nat} {L L' : AL} {st : List Value} {sk : List (Nat × List Value)} {M : Nat → Nat → Int32} {N : Nat → Nat → Int64} {Q : AQ}
theorem g_newq {idx n tag : Nat} {i : Int32} {C : String} (hd : decode mm.2.1 pc = .ok (.anewarray idx, 3)) (hw : Cond.classLink mm.1.cls idx C ∈ gtbl) (hx : ∀ (B0 : Nat) (D : va_G) (ad : Nat → Nat) (U : State), Kx B0 D ad U → va_AO C U) (ht : arrTy tag = some (.object C) ∧ 103 ≤ tag) (hi : i = nI n) (hn : n ≤ 1000) (hlt : sk.length < 1000000) (hp : pc + 3 = pc') (kk : Go mm d mcr msr pc' L (.ref sk.length :: st) (sk ++ [(tag, rep n)], zI M sk.length, zL N sk.length) Q) : Go mm d (mcr + 1) (msr + n) pc L (.int i :: st) (sk, M, N) Q := by
  subst hp
  subst hi
  intro B0 D ad cid p l e R s m args below meth c H locs cells slots Qf ls hC hR hS hl hc hs' hE
  have hts := hC.2.2.2.2.2.1
  have hB := hC.2.2.2.2.2.2.2.2.2
  have hAO := hx B0 D ad s hC.2.2.2.2.2.2.2.2.1
  have hsz : H.size = B0 + sk.length := hR.2.1
  have had : ad sk.length = H.size := by rw [hB _ hlt, hsz]
  have cl : (nI n).toNatClampNeg = n := nI_clamp (by omega)
  refine W.anew hC.1 hC.2.1 hC.2.2.2.1 (hts _ hw) (va_AO.use hAO) rfl hd (n := nI n) (rest := st.map (cv ad)) rfl (nI_pos (by omega)) (by rw [cl]; omega) (by omega) (by rw [cl]; omega) fun cA kA comp f1 f2 f3 f4 => ?_
  rw [cl]
  generalize hH1 : H.push ({ cls := cA, slots := Array.replicate n .null, vm := .none } : Cell) = H1
  have z1 : H1.size = H.size + 1 := by rw [← hH1, Array.size_push]
  have e1 : H1[H.size]? = some (arrV cA n (fun _ => .null)) := by rw [← hH1, Array.getElem?_push_size, ← arrV_new]
  have o1 : ∀ q : Nat, q < H.size → H1[q]? = H[q]? := fun q hq => by rw [← hH1, Array.getElem?_push, if_neg (Nat.ne_of_lt hq)]
  have hAr : ArrOfT s cA (.object C) := fun N z => ⟨(fun k h => by cases h), kA, f2, comp, f3⟩
  have k9 := kk B0 D ad (fun j => if j = sk.length then cA else cid j) p l e R s m args below meth c H1 locs (cells + 1) (slots + n) Qf ls hC (Rep.push hB hR hlt ?_ z1 o1 ?_) (hS.grow z1 o1) hl (by omega) (by omega) (fun r h' cid' H' locs' pc' ls' cs' ss' a1 a2 a3 a4 a5 a6 => hE r h' cid' H' locs' pc' ls' cs' ss' a1 a2 a3 (by omega) (by omega) a6)
  · have e9 : cv ad (.ref sk.length) = .ref H.size := by simp [cv, had]
    rw [List.map_cons, e9] at k9
    exact k9
  · have hce : cellOf ad (fun j => if j = sk.length then cA else cid j) (zI M sk.length) (zL N sk.length) sk.length (tag, rep n) = .inl (cA, n, .inr (.inr (.inr (.inr (fun _ => none))))) := by
      have := ht.2
      have hr : rowOf ad (rep n) = fun _ => none := by
        funext j
        unfold rowOf rep
        rw [List.getElem?_replicate]
        split
        · rename_i r hr
          split at hr <;> cases hr
        · rfl
      simp [cellOf, show ¬ tag < 100 by omega, show ¬ tag = 101 by omega, show ¬ tag < 103 by omega, rep_len, hr]
    rw [hce]
    show H1[ad sk.length]? = _
    rw [had]
    exact e1
  · intro ty h9
    have h8 := ht.1
    rw [h8] at h9
    cases h9
    exact ⟨hAr, kA, comp, f2, f3, f4, f1⟩
theorem g_aast {k n tag r ci : Nat} {vs ws : List Value} {i : Int32} {E : String} {q : vw_C} (hd : decode mm.2.1 pc = .ok (.aastore, 1)) (hs : sk[k]? = some (tag, vs)) (ht : arrTy tag = some (.object E) ∧ 103 ≤ tag) (hr : sk[r]? = some (ci, ws)) (hc : vwCl[ci]? = some q) (hq : q.1 = E ∨ Cond.castable q.1 E ∈ gtbl) (hi : i = nI n) (hn : n < vs.length) (hb : vs.length < 2147483648) (hp : pc + 1 = pc') (kk : Go mm d mcr msr pc' L st (sk.set k (tag, vs.set n (.ref r)), M, N) Q) : Go mm d mcr msr pc L (.ref r :: .int i :: .ref k :: st) (sk, M, N) Q := by
  subst hp
  subst hi
  intro B0 D ad cid p l e R s m args below meth c H locs cells slots Qf ls hC hR hS hl hc' hs' hE
  have hts := hC.2.2.2.2.2.1
  have hB := hC.2.2.2.2.2.2.2.2.2
  have hkl := hR.lt hs
  have hce : ∀ vs' : List Value, cellOf ad cid M N k (tag, vs') = .inl (cid k, vs'.length, .inr (.inr (.inr (.inr (rowOf ad vs'))))) := by
    intro vs'
    have := ht.2
    simp [cellOf, show ¬ tag < 100 by omega, show ¬ tag = 101 by omega, show ¬ tag < 103 by omega]
  have hcell : H[ad k]? = some (arrV (cid k) vs.length (fun j => va_rf (rowOf ad vs j))) := by
    have h0 := hR.1 k _ (ws_get hs)
    rw [hce] at h0
    exact h0
  obtain ⟨cellV, g1, g3, g4⟩ := Rep.recv hC.2.2.2.2.2.2.2.2.1 hR hr hc
  obtain ⟨kV, hkV, -⟩ := Vm.findClass_spec g4
  obtain ⟨kA, comp, k1, k2, k3, -⟩ := (hR.2.2.2.1 k _ (.object E) hs ht.1).2
  obtain ⟨kE, hkE, -⟩ := Vm.findClass_spec k3
  have hasg : s.vm.assignable cellV.cls comp = true := by
    rcases hq with hq | hq
    · have h9 := ((hC.2.2.2.2.2.2.2.2.1).1.1 ci q hc).2
      have e1 : cellV.cls = D.1 ci := Option.some.inj (g4.symm.trans h9.1)
      have e2 : comp = D.1 ci := by rw [hq] at h9; exact Option.some.inj (k3.symm.trans h9.1)
      rw [e1, e2]
      exact va_assign h9
    · obtain ⟨c3, t3, w1, w2, w3⟩ := Cond.castable_spec (hts _ hq)
      have e1 : cellV.cls = c3 := Option.some.inj (g4.symm.trans w1)
      have e2 : comp = t3 := Option.some.inj (k3.symm.trans w2)
      rw [e1, e2]
      exact w3
  have cl : (nI n).toNatClampNeg = n := nI_clamp (by omega)
  refine W.aast hC.1 hC.2.1 hcell (fun q h => by cases h) (fun h => by cases h) k1 k2 rfl hkE ⟨nI_pos (by omega), by rw [arrV_size, cl]; exact hn⟩ g1 (fun q h => by rw [h] at g3; cases g3) hkV hasg rfl rfl hd fun H1 e1 e2 e3 => ?_
  have hset : (sk.set k (tag, vs.set n (.ref r)))[k]? = some (tag, vs.set n (.ref r)) := List.getElem?_set_self (List.getElem?_eq_some_iff.mp hs).1
  have hR' : Rep B0 D ad cid (sk.set k (tag, vs.set n (.ref r)), M, N) s H1 := by
    refine Rep.write (c' := (tag, vs.set n (.ref r))) hB hR hs hset rfl (List.length_set ..) (fun i c hik hc9 => ⟨by show (sk.set k _)[i]? = _; rw [List.getElem?_set_ne (Ne.symm hik)]; exact hc9, rfl⟩) (fun i hi9 => rfl) ?_ e2 e3
    show va_at D vwCl (ad k, cellOf ad cid M N k (tag, vs.set n (.ref r))) H1
    rw [hce]
    show H1[ad k]? = some (arrV (cid k) (vs.set n (.ref r)).length (fun j => va_rf (rowOf ad (vs.set n (.ref r)) j)))
    rw [e1, cl, arrV_store, List.length_set]
    congr 2
    funext j
    by_cases hj : j = n
    · subst hj
      simp [updV, rowOf, hn, va_rf]
    · simp [updV, hj, rowOf, List.getElem?_set_ne (Ne.symm hj)]
  exact kk B0 D ad cid p l e R s m args below meth c H1 _ cells slots Qf ls hC hR' (hS.put e2 e3 (by rw [hB k hkl]; omega)) hl hc' hs' hE
theorem fs_setR {ad : Nat → Nat} {k j r : Nat} {vs : List Value} (hj : j < vs.length) : (vs.mapIdx fun j v => cv ad (fv M N k j v)).set j (.ref (ad r)) = (vs.set j (.ref r)).mapIdx fun i v => cv ad (fv M N k i v) := by
  apply List.ext_getElem?
  intro i
  by_cases hi : i = j
  · subst hi
    rw [List.getElem?_set_self (by rw [List.length_mapIdx]; exact hj), List.getElem?_mapIdx, List.getElem?_set_self hj]
    rfl
  · rw [List.getElem?_set_ne (Ne.symm hi), List.getElem?_mapIdx, List.getElem?_mapIdx, List.getElem?_set_ne (Ne.symm hi)]
theorem g_putFR {idx ci j k r : Nat} {vs : List Value} {ty : FieldType} (hd : decode mm.2.1 pc = .ok (.putfield idx, 3)) (hf : FLk mm.1.cls idx ci j ty true) (hi2 : mm.1.name = "<init>" ∧ ((vwCl[ci]?).map fun q => q.1) = some mm.1.cls) (hs : sk[k]? = some (ci, vs)) (hj2 : j < vs.length) (hn : ∀ a : Nat, narrow ty (.ref a) = .ref a ∧ fits ty (.ref a) = true) (hp : pc + 3 = pc') (kk : Go mm d mcr msr pc' L st (sk.set k (ci, vs.set j (.ref r)), M, N) Q) : Go mm d mcr msr pc L (.ref r :: .ref k :: st) (sk, M, N) Q := by
  subst hp
  intro B0 D ad cid p l e R s m args below meth c H locs cells slots Qf ls hC hR hS hl hc hs' hE
  obtain ⟨C, T, Nn, ty0, hcl, hj, hin, hlk, hty, hnm, hpd, hfin, hdecl⟩ := hf
  have hts := hC.2.2.2.2.2.1
  have hK := hC.2.2.2.2.2.2.2.2.1.1
  have hB := hC.2.2.2.2.2.2.2.2.2
  have hown := hC.2.2.2.1
  have hkl := hR.lt hs
  have hCo : C = mm.1.cls := by
    have h9 := hi2.2
    rw [hcl] at h9
    exact Option.some.inj h9
  have he := Rep.obj (B0 := B0) (D := D) (s := s) (H := H) (ad := ad) (cid := cid) (M := M) (N := N) hs (vw_lt hcl)
  have hap := va_apart (own := mm.1.cls) hts hin ty0 hty hnm hK hcl
  obtain ⟨r9, h1, cell, q1, q2, q3, q4⟩ := hR.1 k _ he
  have hr : r9 = (C, T, Nn) := Option.some.inj (h1.symm.trans hcl)
  subst hr
  obtain ⟨hS0, hfc, kC, hkC, hkind⟩ := hK.1 ci _ hcl
  obtain ⟨cf, kf, fi, f, hi, hsl⟩ := hS0 j hj
  have hlay := hts _ (hin _ (u_in_lay hj))
  unfold u_lay at hlay
  rw [if_pos hfin] at hlay
  have hst := (u_facts hfc hkC (u_lays hts hin hj) hi).1
  have hcf : m.cls = cf := by
    obtain ⟨_, _, c', _, _, _, -, -, hf', -, -, -, hown2, -⟩ := Cond.laysFinal_spec hlay
    have e1 : c' = cf := by have := hi.symm.trans hf'; simp at this; exact this.1.symm
    rw [hdecl, hCo] at hown2
    rw [← e1]; exact Option.some.inj (hown.symm.trans hown2)
  have h6 := u_fits hfc hkC hkind (Or.inr hlay) hi hpd (hn (ad r)).1 (hn (ad r)).2
  refine W.putFinK hC.1 hC.2.1 hown (hts _ hlk) hi hst hcf (hC.2.2.2.2.1.trans hi2.1) (by rw [q2]; exact h6) q1 q3 (by rw [hsl]; exact k2_hasslot (q4 j hj)) rfl rfl hd fun H' e1 e2 e3 => ?_
  rw [hsl] at e1 ⊢
  have hlen : j < (vs.mapIdx fun j v => cv ad (fv M N k j v)).length := by rw [List.length_mapIdx]; exact hj2
  have hset : (sk.set k (ci, vs.set j (.ref r)))[k]? = some (ci, vs.set j (.ref r)) := List.getElem?_set_self (List.getElem?_eq_some_iff.mp hs).1
  have hR' : Rep B0 D ad cid (sk.set k (ci, vs.set j (.ref r)), M, N) s H' := by
    refine Rep.write (c' := (ci, vs.set j (.ref r))) hB hR hs hset rfl (List.length_set ..) (fun i c hik hc9 => ⟨by show (sk.set k _)[i]? = _; rw [List.getElem?_set_ne (Ne.symm hik)]; exact hc9, rfl⟩) (fun i hi9 => rfl) ?_ e2 e3
    have hce : cellOf ad cid M N k (ci, vs.set j (.ref r)) = .inr (ci, (vs.mapIdx fun j v => cv ad (fv M N k j v)).set j (.ref (ad r))) := by
      rw [fs_setR hj2]; simp [cellOf, vw_lt hcl]
    show va_at D vwCl (ad k, cellOf ad cid M N k (ci, vs.set j (.ref r))) H'
    rw [hce]
    exact ⟨_, hcl, t_OB.to (V := updV (vp_V (vs.mapIdx fun j v => cv ad (fv M N k j v))) j (.ref (ad r))) ⟨_, e1, q2, q3, t_set q4 hap hj _⟩ (fun i _ => vp_updV_set hlen _ i)⟩
  exact kk B0 D ad cid p l e R s m args below meth c H' _ cells slots Qf ls hC hR' (hS.put e2 e3 (by rw [hB k hkl]; omega)) hl hc hs' hE
end GN
