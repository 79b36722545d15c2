/-! ===== ROWS of Go: fields, arrays, what is made ===== -/
def rep (n : Nat) : List Value := List.replicate n .null
theorem rep_len (n : Nat) : (rep n).length = n := by simp [rep]
/-- entry idx of class own's pool is field j of class ci -/
def FLk (own : String) (idx ci j : Nat) (ty : FieldType) (fin : Bool) : Prop := ∃ (C : String) (T : u_T) (N : Nat) (ty0 : Nat → FieldType), vwCl[ci]? = some (C, T, N) ∧ j < N ∧ (∀ w ∈ u_ws C T N, w ∈ gtbl) ∧ Cond.fieldLink own idx (T j).1 (T j).2.1 (T j).2.2.1 ∈ gtbl ∧
  (∀ k, k < N → parseFieldDescriptor (T k).2.2.1 = some (ty0 k)) ∧ (∀ a, a < N → ∀ b, b < N → a ≠ b → (T a).2.1 ≠ (T b).2.1) ∧ parseFieldDescriptor (T j).2.2.1 = some ty ∧ (T j).2.2.2 = fin ∧ (T j).1 = C
theorem vw_lt {ci : Nat} {q : vw_C} (h : vwCl[ci]? = some q) : ci < 100 := by
  have := (List.getElem?_eq_some_iff.mp h).1
  have h2 : vwCl.length = 13 := rfl
  omega
theorem Rep.obj {B0 : Nat} {D : va_G} {ad : Nat → Nat} {cid : Nat → ClassId} {sk : List (Nat × List Value)} {M : Nat → Nat → Int32} {N : Nat → Nat → Int64} {s : State} {H : Heap} {k ci : Nat} {vs : List Value} (hs : sk[k]? = some (ci, vs)) (hc : ci < 100) :
    (wsOf ad cid (sk, M, N))[k]? = some (ad k, .inr (ci, vs.mapIdx fun j v => cv ad (fv M N k j v))) := by
  rw [ws_get (h := (sk, M, N)) hs]
  simp [cellOf, hc]
theorem Rep.lt {B0 : Nat} {D : va_G} {ad : Nat → Nat} {cid : Nat → ClassId} {h : AH} {s : State} {H : Heap} (hR : Rep B0 D ad cid h s H) {k : Nat} {c : Nat × List Value} (hs : h.1[k]? = some c) : k < 1000000 := by
  have := (List.getElem?_eq_some_iff.mp hs).1
  have := hR.2.2.1
  omega
theorem Rep.write {B0 : Nat} {D : va_G} {ad : Nat → Nat} {cid : Nat → ClassId} {h h' : AH} {s : State} {H H1 : Heap} {k : Nat} {c0 c' : Nat × List Value} (hB : ∀ k, k < 1000000 → ad k = B0 + k) (hR : Rep B0 D ad cid h s H) (hk0 : h.1[k]? = some c0) (hk : h'.1[k]? = some c') (htag : c'.1 = c0.1) (hl : h'.1.length = h.1.length)
    (ho : ∀ (j : Nat) (c : Nat × List Value), j ≠ k → h.1[j]? = some c → h'.1[j]? = some c ∧ cellOf ad cid h'.2.1 h'.2.2 j c = cellOf ad cid h.2.1 h.2.2 j c) (hM : ∀ j, 1000000 ≤ j → h'.2.1 j = h.2.1 j)
    (e1 : va_at D vwCl (ad k, cellOf ad cid h'.2.1 h'.2.2 k c') H1) (z : H1.size = H.size) (oq : ∀ q, q ≠ ad k → H1[q]? = H[q]?) : Rep B0 D ad cid h' s H1 := by
  have hkl := hR.lt hk0
  obtain ⟨h1, h2, h3, h4, n, h5, h6, h7, h8⟩ := hR
  refine ⟨?_, by rw [z, hl]; exact h2, by rw [hl]; exact h3, fun j c ty hj ht => ?_, n, h5, ?_, ?_, h8⟩
  · rw [← ws_set hl hk ho]
    exact h1.set (ws_D hB h3) (ws_get hk0) e1 oq
  · by_cases hjk : j = k
    · subst hjk
      rw [hk] at hj
      cases hj
      rw [htag] at ht
      exact h4 j c0 ty hk0 ht
    · cases hc : h.1[j]? with
      | none =>
        have a1 : h.1.length ≤ j := List.getElem?_eq_none_iff.mp hc
        have a2 := (List.getElem?_eq_some_iff.mp hj).1
        omega
      | some c2 =>
        have a1 := (ho j c2 hjk hc).1
        rw [a1] at hj
        cases hj
        exact h4 j c ty hc ht
  · rw [hM _ (by omega)]; exact h6
  · rw [hM _ (by omega)]
    exact h7.kept (oq _ (by rw [hB k hkl]; omega))
theorem cell_um {ad : Nat → Nat} {cid : Nat → ClassId} {M : Nat → Nat → Int32} {N : Nat → Nat → Int64} {k n j : Nat} {x : Int32} {c : Nat × List Value} (hj : j ≠ k) : cellOf ad cid (um M k n x) N j c = cellOf ad cid M N j c := cell_ne (um_ne hj) rfl
theorem cell_umL {ad : Nat → Nat} {cid : Nat → ClassId} {M : Nat → Nat → Int32} {N : Nat → Nat → Int64} {k n j : Nat} {x : Int64} {c : Nat × List Value} (hj : j ≠ k) : cellOf ad cid M (um N k n x) j c = cellOf ad cid M N j c := cell_ne rfl (um_ne hj)
section GH
variable {mm : MM} {d mcr msr pc pc' : Nat} {L L' : AL} {st : List Value} {sk : List (Nat × List Value)} {M : Nat → Nat → Int32} {N : Nat → Nat → Int64} {Q : AQ}
theorem g_getI {idx ci j k : Nat} {vs : List Value} {z : Int32} {ty : FieldType} {fin : Bool} (hd : decode mm.2.1 pc = .ok (.getfield idx, 3)) (hf : FLk mm.1.cls idx ci j ty fin) (hs : sk[k]? = some (ci, vs)) (hv : vs[j]? = some (.int z)) (hp : pc + 3 = pc') (kk : Go mm d mcr msr pc' L (.int (M k j) :: st) (sk, M, N) Q) : Go mm d mcr msr pc L (.ref k :: st) (sk, M, N) Q := by
  subst hp
  intro B0 D ad cid p l e R s m args below meth c H locs cells slots Qf ls hC hR hS hl hc hs' hE
  obtain ⟨C, T, Nn, ty0, hcl, hj, hin, hlk, hty, hnm, hpd, hfin, hdecl⟩ := hf
  have hts := hC.2.2.2.2.2.1
  have hK := hC.2.2.2.2.2.2.2.2.1.1
  exact va_get (D := D) (C := C) (T := T) (N := Nn) (v := .int (M k j)) hC.1 hC.2.1 hts hin hC.2.2.2.1 hK hR.1 k (Rep.obj (B0 := B0) (D := D) (s := s) (H := H) hs (vw_lt hcl)) hcl j hj (hts _ hlk) (fun _ h9 => h9) (by rw [List.getElem?_mapIdx, hv]; rfl) hd (kk B0 D ad cid p l e R s m args below meth c H locs cells slots Qf ls hC hR hS hl hc hs' hE)
theorem g_getR {idx ci j k r : Nat} {vs : List Value} {ty : FieldType} {fin : Bool} (hd : decode mm.2.1 pc = .ok (.getfield idx, 3)) (hf : FLk mm.1.cls idx ci j ty fin) (hs : sk[k]? = some (ci, vs)) (hv : vs[j]? = some (.ref r)) (hp : pc + 3 = pc') (kk : Go mm d mcr msr pc' L (.ref r :: st) (sk, M, N) Q) : Go mm d mcr msr pc L (.ref k :: st) (sk, M, N) Q := by
  subst hp
  intro B0 D ad cid p l e R s m args below meth c H locs cells slots Qf ls hC hR hS hl hc hs' hE
  obtain ⟨C, T, Nn, ty0, hcl, hj, hin, hlk, hty, hnm, hpd, hfin, hdecl⟩ := hf
  have hts := hC.2.2.2.2.2.1
  have hK := hC.2.2.2.2.2.2.2.2.1.1
  exact va_get (D := D) (C := C) (T := T) (N := Nn) (v := .ref (ad r)) hC.1 hC.2.1 hts hin hC.2.2.2.1 hK hR.1 k (Rep.obj (B0 := B0) (D := D) (s := s) (H := H) hs (vw_lt hcl)) hcl j hj (hts _ hlk) (fun _ h9 => h9) (by rw [List.getElem?_mapIdx, hv]; rfl) hd (kk B0 D ad cid p l e R s m args below meth c H locs cells slots Qf ls hC hR hS hl hc hs' hE)
theorem fs_set {ad : Nat → Nat} {k j : Nat} {vs : List Value} {z x : Int32} (hv : vs[j]? = some (.int z)) : (vs.mapIdx fun j v => cv ad (fv M N k j v)).set j (.int x) = vs.mapIdx fun i v => cv ad (fv (um M k j x) N k i v) := by
  apply List.ext_getElem?
  intro i
  by_cases hi : i = j
  · subst hi
    rw [List.getElem?_set_self (by rw [List.length_mapIdx]; exact (List.getElem?_eq_some_iff.mp hv).1), List.getElem?_mapIdx, hv]
    simp [fv, cv, um_at]
  · rw [List.getElem?_set_ne (Ne.symm hi), List.getElem?_mapIdx, List.getElem?_mapIdx]
    cases vs[i]? with
    | none => rfl
    | some v => cases v <;> simp [fv, um_at2 hi]
theorem g_putI {idx ci j k : Nat} {vs : List Value} {z x : Int32} {ty : FieldType} (hd : decode mm.2.1 pc = .ok (.putfield idx, 3)) (hf : FLk mm.1.cls idx ci j ty false) (hs : sk[k]? = some (ci, vs)) (hv : vs[j]? = some (.int z)) (hn : narrow ty (.int x) = .int x ∧ fits ty (.int x) = true) (hp : pc + 3 = pc') (kk : Go mm d mcr msr pc' L st (sk, um M k j x, N) Q) : Go mm d mcr msr pc L (.int x :: .ref k :: st) (sk, M, N) Q := by
  subst hp
  intro B0 D ad cid p l e R s m args below meth c H locs cells slots Qf ls hC hR hS hl hc hs' hE
  obtain ⟨C, T, Nn, ty0, hcl, hj, hin, hlk, hty, hnm, hpd, hfin, hdecl⟩ := hf
  have hts := hC.2.2.2.2.2.1
  have hK := hC.2.2.2.2.2.2.2.2.1.1
  have hB := hC.2.2.2.2.2.2.2.2.2
  have hkl := hR.lt hs
  have he := Rep.obj (B0 := B0) (D := D) (s := s) (H := H) (ad := ad) (cid := cid) (M := M) (N := N) hs (vw_lt hcl)
  have hap := va_apart (own := mm.1.cls) hts hin ty0 hty hnm hK hcl
  obtain ⟨r, h1, cell, q1, q2, q3, q4⟩ := hR.1 k _ he
  have hr : r = (C, T, Nn) := Option.some.inj (h1.symm.trans hcl)
  subst hr
  obtain ⟨hS0, hfc, kC, hkC, hkind⟩ := hK.1 ci _ hcl
  obtain ⟨cf, kf, fi, f, hi, hsl⟩ := hS0 j hj
  have hlay := hts _ (hin _ (u_in_lay hj))
  unfold u_lay at hlay
  rw [if_neg (by rw [hfin]; decide)] at hlay
  have hst := (u_facts hfc hkC (u_lays hts hin hj) hi).1
  have h6 := u_store hfc hkC hkind hlay hi hpd hn.1 hn.2
  refine W.putK hC.1 hC.2.1 (f := f) ⟨hC.2.2.2.1, hts _ hlk, ⟨_, _, _, hi⟩, hst⟩ (by rw [q2]; exact h6) q1 q3 (by rw [hsl]; exact k2_hasslot (q4 j hj)) rfl rfl hd fun H' e1 e2 e3 => ?_
  rw [hsl] at e1 ⊢
  have hlen : j < (vs.mapIdx fun j v => cv ad (fv M N k j v)).length := by rw [List.length_mapIdx]; exact (List.getElem?_eq_some_iff.mp hv).1
  have hR' : Rep B0 D ad cid (sk, um M k j x, N) s H' := by
    refine Rep.write (c' := (ci, vs)) hB hR hs hs rfl rfl (fun i c hik hc9 => ⟨hc9, cell_um hik⟩) (fun i hi9 => um_ne (by omega)) ?_ e2 e3
    have hce : cellOf ad cid (um M k j x) N k (ci, vs) = .inr (ci, (vs.mapIdx fun j v => cv ad (fv M N k j v)).set j (.int x)) := by
      rw [fs_set hv]; simp [cellOf, vw_lt hcl]
    show va_at D vwCl (ad k, cellOf ad cid (um M k j x) N k (ci, vs)) H'
    rw [hce]
    exact ⟨_, hcl, t_OB.to (V := updV (vp_V (vs.mapIdx fun j v => cv ad (fv M N k j v))) j (.int x)) ⟨_, e1, q2, q3, t_set q4 hap hj _⟩ (fun i _ => vp_updV_set hlen _ i)⟩
  exact kk B0 D ad cid p l e R s m args below meth c H' _ cells slots Qf ls hC hR' (hS.put e2 e3 (by rw [hB k hkl]; omega)) hl hc hs' hE
theorem g_iald {k n len : Nat} {i : Int32} (hd : decode mm.2.1 pc = .ok (.iaload, 1)) (hs : sk[k]? = some (100, rep len)) (hi : i = nI n) (hn : n < len) (hp : pc + 1 = pc') (kk : Go mm d mcr msr pc' L (.int (M k n) :: st) (sk, M, N) Q) (hb : len < 2147483648 := by decide) : Go mm d mcr msr pc L (.int i :: .ref k :: st) (sk, M, N) Q := by
  subst hp
  subst hi
  intro B0 D ad cid p l e R s m args below meth c H locs cells slots Qf ls hC hR hS hl hc hs' hE
  have hcell := hR.1 k _ (ws_get hs)
  have hty := (hR.2.2.2.1 k _ .int hs rfl).1
  have hcl : (nI n).toNatClampNeg = n := nI_clamp (by omega)
  refine W.iald (v := .int (M k n)) hC.1 hC.2.1 hcell (hty _ _) (fun q => by cases q) ?_ ?_ rfl rfl hd (kk B0 D ad cid p l e R s m args below meth c H locs cells slots Qf ls hC hR hS hl hc hs' hE)
  · show ¬ (nI n < 0 ∨ (arrV _ _ _).slots.size ≤ _)
    rw [arrV_size, rep_len]
    exact nI_in hn hb
  · show (arrV _ _ _).slots[(nI n).toNatClampNeg]? = _
    rw [hcl, arrV_read _ _ (by rw [rep_len]; exact hn)]
theorem g_lald {k n len : Nat} {i : Int32} (hd : decode mm.2.1 pc = .ok (.laload, 1)) (hs : sk[k]? = some (101, rep len)) (hi : i = nI n) (hn : n < len) (hp : pc + 1 = pc') (kk : Go mm d mcr msr pc' L (.long (N k n) :: st) (sk, M, N) Q) (hb : len < 2147483648 := by decide) : Go mm d mcr msr pc L (.int i :: .ref k :: st) (sk, M, N) Q := by
  subst hp
  subst hi
  intro B0 D ad cid p l e R s m args below meth c H locs cells slots Qf ls hC hR hS hl hc hs' hE
  have hcell := hR.1 k _ (ws_get hs)
  have hty := (hR.2.2.2.1 k _ .long hs rfl).1
  have hcl : (nI n).toNatClampNeg = n := nI_clamp (by omega)
  refine W.lald (v := .long (N k n)) hC.1 hC.2.1 hcell (hty _ _) (fun q => by cases q) ?_ ?_ rfl rfl hd (kk B0 D ad cid p l e R s m args below meth c H locs cells slots Qf ls hC hR hS hl hc hs' hE)
  · show ¬ (nI n < 0 ∨ (arrV _ _ _).slots.size ≤ _)
    rw [arrV_size, rep_len]
    exact nI_in hn hb
  · show (arrV _ _ _).slots[(nI n).toNatClampNeg]? = _
    rw [hcl, arrV_read _ _ (by rw [rep_len]; exact hn)]
theorem g_cald {k n len : Nat} {i : Int32} (hd : decode mm.2.1 pc = .ok (.caload, 1)) (hs : sk[k]? = some (102, rep len)) (hi : i = nI n) (hn : n < len) (hp : pc + 1 = pc') (kk : Go mm d mcr msr pc' L (.int (M k n) :: st) (sk, M, N) Q) (hb : len < 2147483648 := by decide) : Go mm d mcr msr pc L (.int i :: .ref k :: st) (sk, M, N) Q := by
  subst hp
  subst hi
  intro B0 D ad cid p l e R s m args below meth c H locs cells slots Qf ls hC hR hS hl hc hs' hE
  have hcell := hR.1 k _ (ws_get hs)
  have hty := (hR.2.2.2.1 k _ .char hs rfl).1
  have hcl : (nI n).toNatClampNeg = n := nI_clamp (by omega)
  refine W.cald (v := .int (M k n)) hC.1 hC.2.1 hcell (hty _ _) (fun q => by cases q) ?_ ?_ rfl rfl hd (kk B0 D ad cid p l e R s m args below meth c H locs cells slots Qf ls hC hR hS hl hc hs' hE)
  · show ¬ (nI n < 0 ∨ (arrV _ _ _).slots.size ≤ _)
    rw [arrV_size, rep_len]
    exact nI_in hn hb
  · show (arrV _ _ _).slots[(nI n).toNatClampNeg]? = _
    rw [hcl, arrV_read _ _ (by rw [rep_len]; exact hn)]
theorem g_aald {k n tag r : Nat} {vs : List Value} {i : Int32} {ty : FieldType} (hd : decode mm.2.1 pc = .ok (.aaload, 1)) (hs : sk[k]? = some (tag, vs)) (ht : arrTy tag = some ty ∧ ty.isReference = true ∧ 103 ≤ tag) (hi : i = nI n) (hv : vs[n]? = some (.ref r)) (hp : pc + 1 = pc') (kk : Go mm d mcr msr pc' L (.ref r :: st) (sk, M, N) Q) (hb : vs.length < 2147483648 := by decide) : Go mm d mcr msr pc L (.int i :: .ref k :: st) (sk, M, N) Q := by
  subst hp
  subst hi
  intro B0 D ad cid p l e R s m args below meth c H locs cells slots Qf ls hC hR hS hl hc hs' hE
  have hn : n < vs.length := (List.getElem?_eq_some_iff.mp hv).1
  have hcell : H[ad k]? = some (vp_cell (cid k) (vs.length, .inr (.inr (.inr (.inr (rowOf ad vs)))))) := by
    have h0 := hR.1 k _ (ws_get hs)
    have hce : cellOf ad cid M N k (tag, vs) = .inl (cid k, vs.length, .inr (.inr (.inr (.inr (rowOf ad vs))))) := by
      have := ht.2.2
      simp [cellOf, show ¬ tag < 100 by omega, show ¬ tag = 101 by omega, show ¬ tag < 103 by omega]
    rw [hce] at h0
    exact h0
  have hty := (hR.2.2.2.1 k _ ty hs ht.1).1
  have hcl : (nI n).toNatClampNeg = n := nI_clamp (by omega)
  refine W.aald (v := .ref (ad r)) hC.1 hC.2.1 hcell (hty _ _) ht.2.1 (fun q => by cases q) ?_ ?_ rfl rfl hd (kk B0 D ad cid p l e R s m args below meth c H locs cells slots Qf ls hC hR hS hl hc hs' hE)
  · show ¬ (nI n < 0 ∨ (arrV _ _ _).slots.size ≤ _)
    rw [arrV_size]
    exact nI_in hn hb
  · show (arrV _ _ _).slots[(nI n).toNatClampNeg]? = _
    rw [hcl, arrV_read _ _ hn]
    simp [rowOf, hv, va_rf]
theorem g_iast {k n len : Nat} {i x : Int32} (hd : decode mm.2.1 pc = .ok (.iastore, 1)) (hs : sk[k]? = some (100, rep len)) (hi : i = nI n) (hn : n < len) (hp : pc + 1 = pc') (kk : Go mm d mcr msr pc' L st (sk, um M k n x, N) Q) (hb : len < 2147483648 := by decide) : Go mm d mcr msr pc L (.int x :: .int i :: .ref k :: st) (sk, M, N) Q := by
  subst hp
  subst hi
  intro B0 D ad cid p l e R s m args below meth c H locs cells slots Qf ls hC hR hS hl hc hs' hE
  have hB := hC.2.2.2.2.2.2.2.2.2
  have hkl := hR.lt hs
  have hcell := hR.1 k _ (ws_get hs)
  have hty := (hR.2.2.2.1 k _ .int hs rfl).1
  have hcl : (nI n).toNatClampNeg = n := nI_clamp (by omega)
  refine W.iast hC.1 hC.2.1 hcell (hty _ _) (fun q => by cases q) (by show ¬ (nI n < 0 ∨ (arrV _ _ _).slots.size ≤ _); rw [arrV_size, rep_len]; exact nI_in hn hb) rfl rfl hd fun H' e1 e2 e3 => ?_
  have hR' : Rep B0 D ad cid (sk, um M k n x, N) s H' := by
    refine Rep.write (c' := (100, rep len)) hB hR hs hs rfl rfl (fun i c hik hc9 => ⟨hc9, cell_um hik⟩) (fun i hi9 => um_ne (by omega)) ?_ e2 e3
    show H'[ad k]? = some (vp_cell _ _)
    rw [e1, hcl]
    show some ((arrV (cid k) (rep len).length (fun j => .int (M k j))).setSlot n (.int x)) = some (arrV (cid k) (rep len).length (fun j => .int (um M k n x k j)))
    rw [arrV_store]
    congr 2
    funext q
    by_cases hq : q = n
    · subst hq; simp [updV, um_at]
    · simp [updV, hq, um_at2 hq]
  exact kk B0 D ad cid p l e R s m args below meth c H' _ cells slots Qf ls hC hR' (hS.put e2 e3 (by rw [hB k hkl]; omega)) hl hc hs' hE
theorem g_last {k n len : Nat} {i : Int32} {x : Int64} (hd : decode mm.2.1 pc = .ok (.lastore, 1)) (hs : sk[k]? = some (101, rep len)) (hi : i = nI n) (hn : n < len) (hp : pc + 1 = pc') (kk : Go mm d mcr msr pc' L st (sk, M, um N k n x) Q) (hb : len < 2147483648 := by decide) : Go mm d mcr msr pc L (.long x :: .int i :: .ref k :: st) (sk, M, N) Q := by
  subst hp
  subst hi
  intro B0 D ad cid p l e R s m args below meth c H locs cells slots Qf ls hC hR hS hl hc hs' hE
  have hB := hC.2.2.2.2.2.2.2.2.2
  have hkl := hR.lt hs
  have hcell := hR.1 k _ (ws_get hs)
  have hty := (hR.2.2.2.1 k _ .long hs rfl).1
  have hcl : (nI n).toNatClampNeg = n := nI_clamp (by omega)
  refine W.last hC.1 hC.2.1 hcell (hty _ _) (fun q => by cases q) (by show ¬ (nI n < 0 ∨ (arrV _ _ _).slots.size ≤ _); rw [arrV_size, rep_len]; exact nI_in hn hb) rfl rfl hd fun H' e1 e2 e3 => ?_
  have hR' : Rep B0 D ad cid (sk, M, um N k n x) s H' := by
    refine Rep.write (c' := (101, rep len)) hB hR hs hs rfl rfl (fun i c hik hc9 => ⟨hc9, cell_umL hik⟩) (fun i hi9 => rfl) ?_ e2 e3
    show H'[ad k]? = some (vp_cell _ _)
    rw [e1, hcl]
    show some ((arrV (cid k) (rep len).length (fun j => .long (N k j))).setSlot n (.long x)) = some (arrV (cid k) (rep len).length (fun j => .long (um N k n x k j)))
    rw [arrV_store]
    congr 2
    funext q
    by_cases hq : q = n
    · subst hq; simp [updV, um_at]
    · simp [updV, hq, um_at2 hq]
  exact kk B0 D ad cid p l e R s m args below meth c H' _ cells slots Qf ls hC hR' (hS.put e2 e3 (by rw [hB k hkl]; omega)) hl hc hs' hE
theorem g_cast {k n len : Nat} {i x : Int32} (hd : decode mm.2.1 pc = .ok (.castore, 1)) (hs : sk[k]? = some (102, rep len)) (hi : i = nI n) (hn : n < len) (hx : narrow .char (.int x) = .int x) (hp : pc + 1 = pc') (kk : Go mm d mcr msr pc' L st (sk, um M k n x, N) Q) (hb : len < 2147483648 := by decide) : Go mm d mcr msr pc L (.int x :: .int i :: .ref k :: st) (sk, M, N) Q := by
  subst hp
  subst hi
  intro B0 D ad cid p l e R s m args below meth c H locs cells slots Qf ls hC hR hS hl hc hs' hE
  have hB := hC.2.2.2.2.2.2.2.2.2
  have hkl := hR.lt hs
  have hcell := hR.1 k _ (ws_get hs)
  have hty := (hR.2.2.2.1 k _ .char hs rfl).1
  have hcl : (nI n).toNatClampNeg = n := nI_clamp (by omega)
  refine W.cast hC.1 hC.2.1 hcell (hty _ _) (fun q => by cases q) (by show ¬ (nI n < 0 ∨ (arrV _ _ _).slots.size ≤ _); rw [arrV_size, rep_len]; exact nI_in hn hb) rfl rfl hd fun H' e1 e2 e3 => ?_
  have hR' : Rep B0 D ad cid (sk, um M k n x, N) s H' := by
    refine Rep.write (c' := (102, rep len)) hB hR hs hs rfl rfl (fun i c hik hc9 => ⟨hc9, cell_um hik⟩) (fun i hi9 => um_ne (by omega)) ?_ e2 e3
    show H'[ad k]? = some (vp_cell _ _)
    rw [e1, hcl, hx]
    show some ((arrV (cid k) (rep len).length (fun j => .int (M k j))).setSlot n (.int x)) = some (arrV (cid k) (rep len).length (fun j => .int (um M k n x k j)))
    rw [arrV_store]
    congr 2
    funext q
    by_cases hq : q = n
    · subst hq; simp [updV, um_at]
    · simp [updV, hq, um_at2 hq]
  exact kk B0 D ad cid p l e R s m args below meth c H' _ cells slots Qf ls hC hR' (hS.put e2 e3 (by rw [hB k hkl]; omega)) hl hc hs' hE
/-- the script -/
theorem g_slen (hd : decode mm.2.1 pc = .ok (.arraylength, 1)) (hp : pc + 1 = pc') (kk : Go mm d mcr msr pc' L (.int (M 1000001 0) :: st) (sk, M, N) Q) : Go mm d mcr msr pc L (.ref 1000000 :: st) (sk, M, N) Q := by
  subst hp
  intro B0 D ad cid p l e R s m args below meth c H locs cells slots Qf ls hC hR hS hl hc hs' hE
  obtain ⟨n, h5, h6, h7, h8⟩ := hR.2.2.2.2
  have k9 := kk B0 D ad cid p l e R s m args below meth c H locs cells slots Qf ls hC hR hS hl hc hs' hE
  have h6 : M 1000001 0 = nI n := h6
  rw [h6] at k9
  refine va_slen (A := fun q => B0 ≤ q) (H0 := H) hC.1 hC.2.1 h7 (by have := hR.2.1; omega) (Nat.not_le.mpr h8) ⟨Nat.le_refl _, fun _ _ _ => rfl, hS.2.2⟩ hd k9
theorem g_sld {n len : Nat} {i : Int32} (hd : decode mm.2.1 pc = .ok (.iaload, 1)) (hL : M 1000001 0 = nI len) (hb : len < 2147483648) (hi : i = nI n) (hn : n < len) (hp : pc + 1 = pc') (kk : Go mm d mcr msr pc' L (.int (M 1000000 n) :: st) (sk, M, N) Q) : Go mm d mcr msr pc L (.int i :: .ref 1000000 :: st) (sk, M, N) Q := by
  subst hp
  subst hi
  intro B0 D ad cid p l e R s m args below meth c H locs cells slots Qf ls hC hR hS hl hc hs' hE
  obtain ⟨n0, h5, h6, h7, h8⟩ := hR.2.2.2.2
  have e0 : n0 = len := (nI_eq h5 hb).mp (h6.symm.trans hL)
  subst e0
  have k9 := kk B0 D ad cid p l e R s m args below meth c H locs cells slots Qf ls hC hR hS hl hc hs' hE
  refine va_sld (A := fun q => B0 ≤ q) (H0 := H) hC.1 hC.2.1 h7 (by have := hR.2.1; omega) (Nat.not_le.mpr h8) ⟨Nat.le_refl _, fun _ _ _ => rfl, hS.2.2⟩ (vp_in_nI hn hb) hd ?_
  rw [nI_clamp (by omega)]
  exact k9
end GH
