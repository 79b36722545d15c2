/-! ===== System.arraycopy; what constructors do ===== -/
def cpy2 {α : Type} (M : Nat → Nat → α) (k0 sp k1 dp n : Nat) : Nat → Nat → α := fun a b => if a = k1 ∧ dp ≤ b ∧ b < dp + n then M k0 (sp + (b - dp)) else M a b
theorem cpy2_ne {α : Type} {M : Nat → Nat → α} {k0 sp k1 dp n a : Nat} (h : a ≠ k1) : cpy2 M k0 sp k1 dp n a = M a := funext fun b => if_neg (fun q => h q.1)
theorem cpy2_at {α : Type} {M : Nat → Nat → α} {k0 sp k1 dp n : Nat} : cpy2 M k0 sp k1 dp n k1 = va_cpy (M k0) (M k1) sp dp n := by
  funext b
  simp [cpy2, va_cpy]
section GM
variable {mm : MM} {d mcr msr pc pc' : Nat} {L L' : AL} {st : List Value} {sk : List (Nat × List Value)} {M : Nat → Nat → Int32} {N : Nat → Nat → Int64} {Q : AQ}
theorem g_acopyI {idx k0 k1 n0 n1 sp dp n : Nat} {spi dpi ni : Int32} (hd : decode mm.2.1 pc = .ok (.invokestatic idx, 3)) (hw : Cond.methodLink mm.1.cls idx arraycopyName ∈ gtbl ∧ Cond.native arraycopyName ∈ gtbl ∧ Cond.static arraycopyName ∈ gtbl ∧ Cond.initialized "java/lang/System" ∈ gtbl) (hs0 : sk[k0]? = some (100, rep n0)) (hs1 : sk[k1]? = some (100, rep n1)) (i1 : spi = nI sp) (i2 : dpi = nI dp) (i3 : ni = nI n) (h4 : sp + n ≤ n0) (h5 : dp + n ≤ n1) (hrm : (st.map fun v => v.category).sum ≤ 8) (hdd : 1 ≤ d) (hp : pc + 3 = pc')
    (kk : Go mm d mcr msr pc' L st (sk, cpy2 M k0 sp k1 dp n, N) Q) (hb0 : n0 < 2147483648 := by decide) (hb1 : n1 < 2147483648 := by decide) : Go mm d mcr msr pc L (.int ni :: .int dpi :: .ref k1 :: .int spi :: .ref k0 :: st) (sk, M, N) Q := by
  subst hp
  subst i1
  subst i2
  subst i3
  intro B0 D ad cid p l e R s m args below meth c H locs cells slots Qf ls hC hR hS hl hc hs' hE T hT X
  have hts := hC.2.2.2.2.2.1
  have hfr := hC.2.2.2.2.2.2.1
  have hlo := hC.2.2.2.2.2.2.2.1
  have hB := hC.2.2.2.2.2.2.2.2.2
  have hkl := hR.lt hs1
  have hc0 : H[ad k0]? = some (arrV (cid k0) (rep n0).length (fun j => .int (M k0 j))) := hR.1 k0 _ (ws_get hs0)
  have hc1 : H[ad k1]? = some (arrV (cid k1) (rep n1).length (fun j => .int (M k1 j))) := hR.1 k1 _ (ws_get hs1)
  rw [rep_len] at hc0 hc1
  obtain ⟨-, kc0, hk0, cm0, hkk0⟩ := (hR.2.2.2.1 k0 _ .int hs0 rfl).1 n0 (fun j => .int (M k0 j))
  obtain ⟨-, kc1, hk1, cm1, hkk1⟩ := (hR.2.2.2.1 k1 _ .int hs1 rfl).1 n1 (fun j => .int (M k1 j))
  have c1 : (nI sp).toNatClampNeg = sp := nI_clamp (by omega)
  have c2 : (nI dp).toNatClampNeg = dp := nI_clamp (by omega)
  have c3 : (nI n).toNatClampNeg = n := nI_clamp (by omega)
  obtain ⟨vm', X', step⟩ := X.arraycopy hC.1 hC.2.2.2.1 (hts _ hw.1) (hts _ hw.2.1) (hts _ hw.2.2.1) (hts _ hw.2.2.2) (src := ad k0) (dst := ad k1) (cs := arrV (cid k0) n0 (fun j => .int (M k0 j))) (cd := arrV (cid k1) n1 (fun j => .int (M k1 j))) (srcPos := nI sp) (destPos := nI dp) (n := nI n) (by rw [hT]; exact hc0) (by rw [hT]; exact hc1)
    (fun _ h => by cases h) (fun _ h => by cases h) (fun h => by cases h) (fun h => by cases h) hk0 hk1 hkk0 hkk1 rfl (nI_pos (by omega)) (nI_pos (by omega)) (nI_pos (by omega))
    (by rw [nI_toInt (by omega), nI_toInt (by omega), arrV_size]; omega)
    (by rw [nI_toInt (by omega), nI_toInt (by omega), arrV_size]; omega)
    (fun vm₁ _ i hi => by
      rw [c3] at hi
      have e : (arrV (cid k0) n0 (fun j => .int (M k0 j))).slots.getD ((nI sp).toNatClampNeg + i) .null = .int (M k0 (sp + i)) := by
        rw [c1, Array.getD_eq_getD_getElem?, arrV_read _ _ (by omega)]
        rfl
      rw [e]
      exact ⟨rfl, trivial⟩)
    (g := F0 m pc ls (.int (nI n) :: .int (nI dp) :: .ref (ad k1) :: .int (nI sp) :: .ref (ad k0) :: st.map (cv ad))) rfl (by rw [hC.2.2.1]; exact hl.1) (rest := st.map (cv ad)) rfl (by rw [hC.2.1]; exact hd) (by omega) (by
      have h8 := rest_room (m := m) (pc := pc) (ls := ls) (st0 := st) ad hrm
      have h7 : nativeFrameWords "java/lang/System" "arraycopy" 5 = 7 := by decide
      rw [h7]
      show 2 * 0 + _ + _ ≤ _
      have h6 : 2 * (F0 m pc ls st).monitorRoom = 0 := rfl
      omega)
  have e1 : copied (arrV (cid k0) n0 (fun j => .int (M k0 j))) (arrV (cid k1) n1 (fun j => .int (M k1 j))) (nI sp) (nI dp) (nI n) = arrV (cid k1) n1 (fun j => .int (va_cpy (M k0) (M k1) (nI sp).toNatClampNeg (nI dp).toNatClampNeg (nI n).toNatClampNeg j)) := va_copied (fun z => .int z) (cid k0) (cid k1) (M k0) (M k1) (by rw [c1, c3]; exact h4)
  rw [c1, c2, c3] at e1
  rw [e1] at X' step
  generalize hce : arrV (cid k1) n1 (fun j => .int (va_cpy (M k0) (M k1) sp dp n j)) = ce at X' step
  have hlt : ad k1 < H.size := (Array.getElem?_eq_some_iff.mp hc1).1
  have hheap : ((T.setVm vm').setCell (ad k1) ce).heap = H.setIfInBounds (ad k1) ce := by rw [← hT]; rfl
  have oq : ∀ q : Nat, q ≠ ad k1 → (H.setIfInBounds (ad k1) ce)[q]? = H[q]? := fun q hq => by simp [Array.getElem?_setIfInBounds, Ne.symm hq]
  have z1 : (H.setIfInBounds (ad k1) ce).size = H.size := by simp
  have hR' : Rep B0 D ad cid (sk, cpy2 M k0 sp k1 dp n, N) s (H.setIfInBounds (ad k1) ce) := by
    refine Rep.write (c' := (100, rep n1)) hB hR hs1 hs1 rfl rfl (fun i c hik hc9 => ⟨hc9, cell_ne (cpy2_ne hik) rfl⟩) (fun i hi9 => cpy2_ne (by omega)) ?_ z1 oq
    show (H.setIfInBounds (ad k1) ce)[ad k1]? = some (arrV (cid k1) (rep n1).length (fun j => .int (cpy2 M k0 sp k1 dp n k1 j)))
    rw [rep_len, cpy2_at, hce]
    simp [Array.getElem?_setIfInBounds, hlt]
  have hSn : va_S (fun q => B0 ≤ q) s.heap (H.setIfInBounds (ad k1) ce) (locs ++ ((arrV (cid k0) n0 (fun j => .int (M k0 j))).stretch (nI sp).toNatClampNeg (nI n).toNatClampNeg).zipIdx.map fun q => ⟨ad k1, (nI dp).toNatClampNeg + q.2⟩) := by
    have hA : B0 ≤ ad k1 := by rw [hB k1 hkl]; omega
    refine ⟨by rw [z1]; exact hS.1, fun q q1 q2 => ?_, fun q hq => ?_⟩
    · rw [oq q (fun e => q2 (by rw [e]; exact hA))]
      exact hS.2.1 q q1 q2
    · rcases List.mem_append.mp hq with h9 | h9
      · exact hS.2.2 q h9
      · obtain ⟨z, -, rfl⟩ := List.mem_map.mp h9
        exact hA
  obtain ⟨t, a1, b1⟩ := kk B0 D ad cid p l e R s m args below meth c _ _ cells slots Qf ls hC hR' hSn hl hc hs' hE _ hheap X'
  exact ⟨t, step t a1, b1⟩
theorem g_acopyL {idx k0 k1 n0 n1 sp dp n : Nat} {spi dpi ni : Int32} (hd : decode mm.2.1 pc = .ok (.invokestatic idx, 3)) (hw : Cond.methodLink mm.1.cls idx arraycopyName ∈ gtbl ∧ Cond.native arraycopyName ∈ gtbl ∧ Cond.static arraycopyName ∈ gtbl ∧ Cond.initialized "java/lang/System" ∈ gtbl) (hs0 : sk[k0]? = some (101, rep n0)) (hs1 : sk[k1]? = some (101, rep n1)) (i1 : spi = nI sp) (i2 : dpi = nI dp) (i3 : ni = nI n) (h4 : sp + n ≤ n0) (h5 : dp + n ≤ n1) (hrm : (st.map fun v => v.category).sum ≤ 8) (hdd : 1 ≤ d) (hp : pc + 3 = pc')
    (kk : Go mm d mcr msr pc' L st (sk, M, cpy2 N k0 sp k1 dp n) Q) (hb0 : n0 < 2147483648 := by decide) (hb1 : n1 < 2147483648 := by decide) : Go mm d mcr msr pc L (.int ni :: .int dpi :: .ref k1 :: .int spi :: .ref k0 :: st) (sk, M, N) Q := by
  subst hp
  subst i1
  subst i2
  subst i3
  intro B0 D ad cid p l e R s m args below meth c H locs cells slots Qf ls hC hR hS hl hc hs' hE T hT X
  have hts := hC.2.2.2.2.2.1
  have hfr := hC.2.2.2.2.2.2.1
  have hlo := hC.2.2.2.2.2.2.2.1
  have hB := hC.2.2.2.2.2.2.2.2.2
  have hkl := hR.lt hs1
  have hc0 : H[ad k0]? = some (arrV (cid k0) (rep n0).length (fun j => .long (N k0 j))) := hR.1 k0 _ (ws_get hs0)
  have hc1 : H[ad k1]? = some (arrV (cid k1) (rep n1).length (fun j => .long (N k1 j))) := hR.1 k1 _ (ws_get hs1)
  rw [rep_len] at hc0 hc1
  obtain ⟨-, kc0, hk0, cm0, hkk0⟩ := (hR.2.2.2.1 k0 _ .long hs0 rfl).1 n0 (fun j => .long (N k0 j))
  obtain ⟨-, kc1, hk1, cm1, hkk1⟩ := (hR.2.2.2.1 k1 _ .long hs1 rfl).1 n1 (fun j => .long (N k1 j))
  have c1 : (nI sp).toNatClampNeg = sp := nI_clamp (by omega)
  have c2 : (nI dp).toNatClampNeg = dp := nI_clamp (by omega)
  have c3 : (nI n).toNatClampNeg = n := nI_clamp (by omega)
  obtain ⟨vm', X', step⟩ := X.arraycopy hC.1 hC.2.2.2.1 (hts _ hw.1) (hts _ hw.2.1) (hts _ hw.2.2.1) (hts _ hw.2.2.2) (src := ad k0) (dst := ad k1) (cs := arrV (cid k0) n0 (fun j => .long (N k0 j))) (cd := arrV (cid k1) n1 (fun j => .long (N k1 j))) (srcPos := nI sp) (destPos := nI dp) (n := nI n) (by rw [hT]; exact hc0) (by rw [hT]; exact hc1)
    (fun _ h => by cases h) (fun _ h => by cases h) (fun h => by cases h) (fun h => by cases h) hk0 hk1 hkk0 hkk1 rfl (nI_pos (by omega)) (nI_pos (by omega)) (nI_pos (by omega))
    (by rw [nI_toInt (by omega), nI_toInt (by omega), arrV_size]; omega)
    (by rw [nI_toInt (by omega), nI_toInt (by omega), arrV_size]; omega)
    (fun vm₁ _ i hi => by
      rw [c3] at hi
      have e : (arrV (cid k0) n0 (fun j => .long (N k0 j))).slots.getD ((nI sp).toNatClampNeg + i) .null = .long (N k0 (sp + i)) := by
        rw [c1, Array.getD_eq_getD_getElem?, arrV_read _ _ (by omega)]
        rfl
      rw [e]
      exact ⟨rfl, trivial⟩)
    (g := F0 m pc ls (.int (nI n) :: .int (nI dp) :: .ref (ad k1) :: .int (nI sp) :: .ref (ad k0) :: st.map (cv ad))) rfl (by rw [hC.2.2.1]; exact hl.1) (rest := st.map (cv ad)) rfl (by rw [hC.2.1]; exact hd) (by omega) (by
      have h8 := rest_room (m := m) (pc := pc) (ls := ls) (st0 := st) ad hrm
      have h7 : nativeFrameWords "java/lang/System" "arraycopy" 5 = 7 := by decide
      rw [h7]
      show 2 * 0 + _ + _ ≤ _
      have h6 : 2 * (F0 m pc ls st).monitorRoom = 0 := rfl
      omega)
  have e1 : copied (arrV (cid k0) n0 (fun j => .long (N k0 j))) (arrV (cid k1) n1 (fun j => .long (N k1 j))) (nI sp) (nI dp) (nI n) = arrV (cid k1) n1 (fun j => .long (va_cpy (N k0) (N k1) (nI sp).toNatClampNeg (nI dp).toNatClampNeg (nI n).toNatClampNeg j)) := va_copied (fun z => .long z) (cid k0) (cid k1) (N k0) (N k1) (by rw [c1, c3]; exact h4)
  rw [c1, c2, c3] at e1
  rw [e1] at X' step
  generalize hce : arrV (cid k1) n1 (fun j => .long (va_cpy (N k0) (N k1) sp dp n j)) = ce at X' step
  have hlt : ad k1 < H.size := (Array.getElem?_eq_some_iff.mp hc1).1
  have hheap : ((T.setVm vm').setCell (ad k1) ce).heap = H.setIfInBounds (ad k1) ce := by rw [← hT]; rfl
  have oq : ∀ q : Nat, q ≠ ad k1 → (H.setIfInBounds (ad k1) ce)[q]? = H[q]? := fun q hq => by simp [Array.getElem?_setIfInBounds, Ne.symm hq]
  have z1 : (H.setIfInBounds (ad k1) ce).size = H.size := by simp
  have hR' : Rep B0 D ad cid (sk, M, cpy2 N k0 sp k1 dp n) s (H.setIfInBounds (ad k1) ce) := by
    refine Rep.write (c' := (101, rep n1)) hB hR hs1 hs1 rfl rfl (fun i c hik hc9 => ⟨hc9, cell_ne rfl (cpy2_ne hik)⟩) (fun i hi9 => rfl) ?_ z1 oq
    show (H.setIfInBounds (ad k1) ce)[ad k1]? = some (arrV (cid k1) (rep n1).length (fun j => .long (cpy2 N k0 sp k1 dp n k1 j)))
    rw [rep_len, cpy2_at, hce]
    simp [Array.getElem?_setIfInBounds, hlt]
  have hSn : va_S (fun q => B0 ≤ q) s.heap (H.setIfInBounds (ad k1) ce) (locs ++ ((arrV (cid k0) n0 (fun j => .long (N k0 j))).stretch (nI sp).toNatClampNeg (nI n).toNatClampNeg).zipIdx.map fun q => ⟨ad k1, (nI dp).toNatClampNeg + q.2⟩) := by
    have hA : B0 ≤ ad k1 := by rw [hB k1 hkl]; omega
    refine ⟨by rw [z1]; exact hS.1, fun q q1 q2 => ?_, fun q hq => ?_⟩
    · rw [oq q (fun e => q2 (by rw [e]; exact hA))]
      exact hS.2.1 q q1 q2
    · rcases List.mem_append.mp hq with h9 | h9
      · exact hS.2.2 q h9
      · obtain ⟨z, -, rfl⟩ := List.mem_map.mp h9
        exact hA
  obtain ⟨t, a1, b1⟩ := kk B0 D ad cid p l e R s m args below meth c _ _ cells slots Qf ls hC hR' hSn hl hc hs' hE _ hheap X'
  exact ⟨t, step t a1, b1⟩
/-- Object's constructor -/
theorem g_objinit {idx k : Nat} (hd : decode mm.2.1 pc = .ok (.invokespecial idx, 3)) (hw : Cond.methodLink mm.1.cls idx objectInit ∈ gtbl ∧ Cond.instanceMethod objectInit ∈ gtbl ∧ Cond.code objectInit ⟨#[0xb1]⟩ 1 none ∈ gtbl) (hrm : (st.map fun v => v.category).sum ≤ 8) (hdd : 1 ≤ d) (hp : pc + 3 = pc') {h : AH} (kk : Go mm d mcr msr pc' L st h Q) : Go mm d mcr msr pc L (.ref k :: st) h Q := by
  subst hp
  intro B0 D ad cid p l e R s m args below meth c H locs cells slots Qf ls hC hR hS hl hc hs' hE
  have hts := hC.2.2.2.2.2.1
  have hfr := hC.2.2.2.2.2.2.1
  have hlo := hC.2.2.2.2.2.2.2.1
  refine W.objInit hC.1 hC.2.1 hC.2.2.2.1 (hts _ hw.1) (hts _ hw.2.1) (hts _ hw.2.2) rfl (by rw [hC.2.2.1]; exact hl.1) (a := ad k) (rest := st.map (cv ad)) rfl hd (by omega) ?_ (kk B0 D ad cid p l e R s m args below meth c H locs cells slots Qf ls hC hR hS hl hc hs' hE)
  have h8 := rest_room (m := m) (pc := pc) (ls := ls) (st0 := List.map (cv ad) (.ref k :: st)) ad hrm
  omega
/-- the ints, longs with cell k all 0 -/
def zI (M : Nat → Nat → Int32) (k : Nat) : Nat → Nat → Int32 := fun a b => if a = k then 0 else M a b
def zL (N : Nat → Nat → Int64) (k : Nat) : Nat → Nat → Int64 := fun a b => if a = k then 0 else N a b
theorem zI_ne {M : Nat → Nat → Int32} {k a : Nat} (h : a ≠ k) : zI M k a = M a := funext fun b => if_neg h
theorem zL_ne {N : Nat → Nat → Int64} {k a : Nat} (h : a ≠ k) : zL N k a = N a := funext fun b => if_neg h
theorem zI_at {M : Nat → Nat → Int32} {k b : Nat} : zI M k k b = 0 := if_pos rfl
theorem zL_at {N : Nat → Nat → Int64} {k b : Nat} : zL N k k b = 0 := if_pos rfl
theorem Rep.push {B0 : Nat} {D : va_G} {ad : Nat → Nat} {cid : Nat → ClassId} {s : State} {H H1 : Heap} {c : Nat × List Value} {cA : ClassId} (hB : ∀ k, k < 1000000 → ad k = B0 + k) (hR : Rep B0 D ad cid (sk, M, N) s H) (hlt : sk.length < 1000000)
    (e1 : va_at D vwCl (ad sk.length, cellOf ad (fun j => if j = sk.length then cA else cid j) (zI M sk.length) (zL N sk.length) sk.length c) H1) (z1 : H1.size = H.size + 1) (o1 : ∀ q, q < H.size → H1[q]? = H[q]?) (hty : ∀ ty, arrTy c.1 = some ty → ArrOfT s cA ty ∧ va_RA s cA ty) :
    Rep B0 D ad (fun j => if j = sk.length then cA else cid j) (sk ++ [c], zI M sk.length, zL N sk.length) s H1 := by
  obtain ⟨h1, h2, h3, h4, n, h5, h6, h7, h8⟩ := hR
  dsimp only at h1 h2 h3 h4 h6 h7
  have hsz : H.size = B0 + sk.length := h2
  refine ⟨fun k q hk => ?_, by show H1.size = B0 + (sk ++ [c]).length; rw [List.length_append, z1, h2]; simp; omega, by show (sk ++ [c]).length ≤ _; rw [List.length_append]; simp; omega, fun k c2 ty hk ht => ?_, n, h5, ?_, ?_, h8⟩
  · obtain ⟨c2, hc2, rfl⟩ := ws_inv hk
    dsimp only at hc2
    by_cases hkl : k < sk.length
    · rw [List.getElem?_append_left hkl] at hc2
      have g1 := h1 k _ (ws_get hc2)
      have hce : cellOf ad (fun j => if j = sk.length then cA else cid j) (zI M sk.length) (zL N sk.length) k c2 = cellOf ad cid M N k c2 := by
        rw [cell_ne (zI_ne (by omega)) (zL_ne (by omega))]
        simp [cellOf, show ¬ k = sk.length by omega]
      show va_at D vwCl (ad k, cellOf ad (fun j => if j = sk.length then cA else cid j) (zI M sk.length) (zL N sk.length) k c2) H1
      rw [hce]
      exact g1.kept (o1 _ (by show ad k < H.size; rw [hB k (by omega)]; omega))
    · rw [List.getElem?_append_right (by omega)] at hc2
      have hz : k - sk.length < 1 := (List.getElem?_eq_some_iff.mp hc2).1
      have hk0 : k = sk.length := by omega
      subst hk0
      rw [Nat.sub_self] at hc2
      cases hc2
      exact e1
  · dsimp only at hk
    by_cases hkl : k < sk.length
    · rw [List.getElem?_append_left hkl] at hk
      simp only [show ¬ k = sk.length by omega, if_false]
      exact h4 k c2 ty hk ht
    · rw [List.getElem?_append_right (by omega)] at hk
      have hz : k - sk.length < 1 := (List.getElem?_eq_some_iff.mp hk).1
      have hk0 : k = sk.length := by omega
      subst hk0
      rw [Nat.sub_self] at hk
      cases hk
      simp only [if_true]
      exact hty ty ht
  · show zI M sk.length 1000001 0 = nI n
    rw [zI_ne (by omega)]
    exact h6
  · show va_X (ad 1000000) n (zI M sk.length 1000000) s H1
    rw [zI_ne (by omega)]
    exact h7.kept (o1 _ (by omega))
theorem va_S.grow {A : Nat → Prop} {H0 H H1 : Heap} {locs : List Loc} (hS : va_S A H0 H locs) (z1 : H1.size = H.size + 1) (o1 : ∀ q, q < H.size → H1[q]? = H[q]?) : va_S A H0 H1 locs :=
  ⟨Nat.le_trans hS.1 (by omega), fun q h1 h2 => (o1 q (Nat.lt_of_lt_of_le h1 hS.1)).trans (hS.2.1 q h1 h2), hS.2.2⟩
/-- entry idx of class own's pool is class ci, whose fields begin as vs -/
def NLk (own : String) (idx ci : Nat) (vs : List Value) : Prop := ∃ (C : String) (T : u_T) (N : Nat) (ty0 : Nat → FieldType), vwCl[ci]? = some (C, T, N) ∧ (∀ w ∈ u_ws C T N, w ∈ gtbl) ∧ (∀ k, k < N → parseFieldDescriptor (T k).2.2.1 = some (ty0 k)) ∧ Cond.classLink own idx C ∈ gtbl ∧ Cond.instantiable C N ∈ gtbl ∧ Cond.initialized C ∈ gtbl ∧ vs = (List.range N).map (fun j => defaultValue (ty0 j)) ∧ ∀ j, j < N → defaultValue (ty0 j) = .int 0 ∨ defaultValue (ty0 j) = .null
theorem g_new {idx ci : Nat} {vs : List Value} (hd : decode mm.2.1 pc = .ok (.new idx, 3)) (hf : NLk mm.1.cls idx ci vs) (hlt : sk.length < 1000000) (hp : pc + 3 = pc') (kk : Go mm d mcr msr pc' L (.ref sk.length :: st) (sk ++ [(ci, vs)], zI M sk.length, zL N sk.length) Q) : Go mm d (mcr + 1) (msr + vs.length) pc L st (sk, M, N) Q := by
  subst hp
  intro B0 D ad cid p l e R s m args below meth c H locs cells slots Qf ls hC hR hS hl hc hs' hE
  obtain ⟨C, T, Nn, ty0, hcl, hin, hty, w1, w2, w3, rfl, hdf⟩ := hf
  have hts := hC.2.2.2.2.2.1
  have hK := hC.2.2.2.2.2.2.2.2.1.1
  have hB := hC.2.2.2.2.2.2.2.2.2
  have hKn := hK.1 ci _ hcl
  have hsz : H.size = B0 + sk.length := hR.2.1
  have had : ad sk.length = H.size := by rw [hB _ hlt, hsz]
  have hl9 : ((List.range Nn).map (fun j => defaultValue (ty0 j))).length = Nn := by simp
  rw [hl9] at hs' hE
  refine W.newcK hC.1 hC.2.1 hC.2.2.2.1 (hts _ w1) (hts _ w2) (hts _ w3) rfl hd (by omega) (by omega) hKn.2.1 had.symm fun H1 kC hkC e1 z1 o1 => ?_
  rw [had] at z1 o1
  refine kk B0 D ad (fun j => if j = sk.length then 0 else cid j) p l e R s m args below meth c H1 locs (cells + 1) (slots + Nn) Qf ls hC (Rep.push hB hR hlt ?_ z1 o1 ?_) (hS.grow z1 o1) hl (by omega) (by omega) (fun r h' cid' H' locs' pc' ls' cs' ss' a1 a2 a3 a4 a5 a6 => hE r h' cid' H' locs' pc' ls' cs' ss' a1 a2 a3 (by omega) (by omega) a6)
  · have hci := vw_lt hcl
    simp only [cellOf, hci, if_true]
    refine ⟨_, hcl, (u_born ty0 hts hin hKn hkC e1 hty).to (fun j hj => ?_)⟩
    unfold vp_V
    rw [List.getD_eq_getElem?_getD, List.getElem?_mapIdx, List.getElem?_map, List.getElem?_range hj]
    rcases hdf j hj with h9 | h9
    · simp [h9, fv, cv, zI_at]
    · simp [h9, fv, cv]
  · intro ty h9
    have hci : ci < 13 := (List.getElem?_eq_some_iff.mp hcl).1
    exfalso
    revert h9
    show arrTy ci = some ty → False
    rcases (show ci = 0 ∨ ci = 1 ∨ ci = 2 ∨ ci = 3 ∨ ci = 4 ∨ ci = 5 ∨ ci = 6 ∨ ci = 7 ∨ ci = 8 ∨ ci = 9 ∨ ci = 10 ∨ ci = 11 ∨ ci = 12 by omega) with rfl | rfl | rfl | rfl | rfl | rfl | rfl | rfl | rfl | rfl | rfl | rfl | rfl <;> (intro q; cases q)
theorem g_newaI {n : Nat} {i : Int32} (hd : decode mm.2.1 pc = .ok (.newarray .int, 2)) (hw : Cond.arrayClass .int ∈ gtbl) (hi : i = nI n) (hn : n ≤ 1000) (hlt : sk.length < 1000000) (hp : pc + 2 = pc') (kk : Go mm d mcr msr pc' L (.ref sk.length :: st) (sk ++ [(100, rep n)], zI M sk.length, zL N sk.length) Q) : Go mm d (mcr + 1) (msr + n) pc L (.int i :: st) (sk, M, N) Q := by
  subst hp
  subst hi
  intro B0 D ad cid p l e R s m args below meth c H locs cells slots Qf ls hC hR hS hl hc hs' hE
  have hts := hC.2.2.2.2.2.1
  have hB := hC.2.2.2.2.2.2.2.2.2
  have hsz : H.size = B0 + sk.length := hR.2.1
  have had : ad sk.length = H.size := by rw [hB _ hlt, hsz]
  refine va_newaK hC.1 hC.2.1 (atype := .int) (hts _ hw) rfl hd (n := nI n) (N := n) (rest := st.map (cv ad)) rfl (nI_pos (by omega)) (nI_clamp (by omega)) (by show n * _ ≤ _; simp [newarray.typeOf, componentBytes]; omega) (by omega) (by omega) had.symm fun H1 cA e1 z1 o1 hAr hNm => ?_
  rw [had] at z1 o1
  refine kk B0 D ad (fun j => if j = sk.length then cA else cid j) p l e R s m args below meth c H1 locs (cells + 1) (slots + n) Qf ls hC (Rep.push hB hR hlt ?_ z1 o1 ?_) (hS.grow z1 o1) hl (by omega) (by omega) (fun r h' cid' H' locs' pc' ls' cs' ss' a1 a2 a3 a4 a5 a6 => hE r h' cid' H' locs' pc' ls' cs' ss' a1 a2 a3 (by omega) (by omega) a6)
  · show H1[ad sk.length]? = some (arrV (if sk.length = sk.length then cA else cid sk.length) (rep n).length (fun j => .int (zI M sk.length sk.length j)))
    rw [e1, if_pos rfl, rep_len]
    congr 2
    funext j
    simp [newarray.typeOf, defaultValue, zI, zL]
  · intro ty h9
    cases h9
    exact ⟨hAr, hNm⟩
theorem g_newaL {n : Nat} {i : Int32} (hd : decode mm.2.1 pc = .ok (.newarray .long, 2)) (hw : Cond.arrayClass .long ∈ gtbl) (hi : i = nI n) (hn : n ≤ 1000) (hlt : sk.length < 1000000) (hp : pc + 2 = pc') (kk : Go mm d mcr msr pc' L (.ref sk.length :: st) (sk ++ [(101, rep n)], zI M sk.length, zL N sk.length) Q) : Go mm d (mcr + 1) (msr + n) pc L (.int i :: st) (sk, M, N) Q := by
  subst hp
  subst hi
  intro B0 D ad cid p l e R s m args below meth c H locs cells slots Qf ls hC hR hS hl hc hs' hE
  have hts := hC.2.2.2.2.2.1
  have hB := hC.2.2.2.2.2.2.2.2.2
  have hsz : H.size = B0 + sk.length := hR.2.1
  have had : ad sk.length = H.size := by rw [hB _ hlt, hsz]
  refine va_newaK hC.1 hC.2.1 (atype := .long) (hts _ hw) rfl hd (n := nI n) (N := n) (rest := st.map (cv ad)) rfl (nI_pos (by omega)) (nI_clamp (by omega)) (by show n * _ ≤ _; simp [newarray.typeOf, componentBytes]; omega) (by omega) (by omega) had.symm fun H1 cA e1 z1 o1 hAr hNm => ?_
  rw [had] at z1 o1
  refine kk B0 D ad (fun j => if j = sk.length then cA else cid j) p l e R s m args below meth c H1 locs (cells + 1) (slots + n) Qf ls hC (Rep.push hB hR hlt ?_ z1 o1 ?_) (hS.grow z1 o1) hl (by omega) (by omega) (fun r h' cid' H' locs' pc' ls' cs' ss' a1 a2 a3 a4 a5 a6 => hE r h' cid' H' locs' pc' ls' cs' ss' a1 a2 a3 (by omega) (by omega) a6)
  · show H1[ad sk.length]? = some (arrV (if sk.length = sk.length then cA else cid sk.length) (rep n).length (fun j => .long (zL N sk.length sk.length j)))
    rw [e1, if_pos rfl, rep_len]
    congr 2
    funext j
    simp [newarray.typeOf, defaultValue, zI, zL]
  · intro ty h9
    cases h9
    exact ⟨hAr, hNm⟩
theorem g_newaC {n : Nat} {i : Int32} (hd : decode mm.2.1 pc = .ok (.newarray .char, 2)) (hw : Cond.arrayClass .char ∈ gtbl) (hi : i = nI n) (hn : n ≤ 1000) (hlt : sk.length < 1000000) (hp : pc + 2 = pc') (kk : Go mm d mcr msr pc' L (.ref sk.length :: st) (sk ++ [(102, rep n)], zI M sk.length, zL N sk.length) Q) : Go mm d (mcr + 1) (msr + n) pc L (.int i :: st) (sk, M, N) Q := by
  subst hp
  subst hi
  intro B0 D ad cid p l e R s m args below meth c H locs cells slots Qf ls hC hR hS hl hc hs' hE
  have hts := hC.2.2.2.2.2.1
  have hB := hC.2.2.2.2.2.2.2.2.2
  have hsz : H.size = B0 + sk.length := hR.2.1
  have had : ad sk.length = H.size := by rw [hB _ hlt, hsz]
  refine va_newaK hC.1 hC.2.1 (atype := .char) (hts _ hw) rfl hd (n := nI n) (N := n) (rest := st.map (cv ad)) rfl (nI_pos (by omega)) (nI_clamp (by omega)) (by show n * _ ≤ _; simp [newarray.typeOf, componentBytes]; omega) (by omega) (by omega) had.symm fun H1 cA e1 z1 o1 hAr hNm => ?_
  rw [had] at z1 o1
  refine kk B0 D ad (fun j => if j = sk.length then cA else cid j) p l e R s m args below meth c H1 locs (cells + 1) (slots + n) Qf ls hC (Rep.push hB hR hlt ?_ z1 o1 ?_) (hS.grow z1 o1) hl (by omega) (by omega) (fun r h' cid' H' locs' pc' ls' cs' ss' a1 a2 a3 a4 a5 a6 => hE r h' cid' H' locs' pc' ls' cs' ss' a1 a2 a3 (by omega) (by omega) a6)
  · show H1[ad sk.length]? = some (arrV (if sk.length = sk.length then cA else cid sk.length) (rep n).length (fun j => .int (zI M sk.length sk.length j)))
    rw [e1, if_pos rfl, rep_len]
    congr 2
    funext j
    simp [newarray.typeOf, defaultValue, zI, zL]
  · intro ty h9
    cases h9
    exact ⟨hAr, hNm⟩
end GM
