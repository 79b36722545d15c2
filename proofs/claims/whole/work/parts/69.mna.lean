/-! ===== new int[n][k] ===== -/
def zIs (M : Nat → Nat → Int32) (a b : Nat) : Nat → Nat → Int32 := fun x y => if a ≤ x ∧ x < b then 0 else M x y
def zLs (N : Nat → Nat → Int64) (a b : Nat) : Nat → Nat → Int64 := fun x y => if a ≤ x ∧ x < b then 0 else N x y
theorem zIs_ne {M : Nat → Nat → Int32} {a b x : Nat} (h : x < a ∨ b ≤ x) : zIs M a b x = M x := funext fun y => if_neg (by omega)
theorem zLs_ne {N : Nat → Nat → Int64} {a b x : Nat} (h : x < a ∨ b ≤ x) : zLs N a b x = N x := funext fun y => if_neg (by omega)
theorem zIs_in {M : Nat → Nat → Int32} {a b x y : Nat} (h : a ≤ x ∧ x < b) : zIs M a b x y = 0 := if_pos h
def mnaC (p n k : Nat) : List (Nat × List Value) := (110, (List.range n).map (fun i => .ref (p + 1 + i))) :: List.replicate n (100, rep k)
theorem mnaC_len {p n k : Nat} : (mnaC p n k).length = n + 1 := by simp [mnaC]
theorem mna_outer (c : ClassId) (N h0 : Nat) : ∀ i : Nat, Jvm.Free.Multi.outerC c N h0 i = arrV c N (fun j => va_rf (if j < i then some (h0 + 1 + j) else none))
  | 0 => by
    show ({ cls := c, slots := Array.replicate N .null, vm := .none } : Cell) = _
    rw [arrV_new]
    refine congrArg (arrV c N) (funext fun j => ?_)
    simp [va_rf]
  | i + 1 => by
    show (Jvm.Free.Multi.outerC c N h0 i).setSlot i (.ref (h0 + 1 + i)) = _
    rw [mna_outer c N h0 i, arrV_store]
    refine congrArg (arrV c N) (funext fun j => ?_)
    by_cases e : j = i
    · subst e
      simp [updV, va_rf]
    · by_cases h : j < i
      · simp [updV, e, h, Nat.lt_succ_of_lt h]
      · simp [updV, e, h, show ¬ j < i + 1 by omega]
section GMNA
variable {mm : MM} {d mcr msr pc pc' : Nat} {L L' : AL} {st : List Value} {sk : List (Nat × List Value)} {M : Nat → Nat → Int32} {N : Nat → Nat → Int64} {Q : AQ}
set_option maxHeartbeats 1000000 in
theorem g_mna {idx n k : Nat} {i j : Int32} (hd : decode mm.2.1 pc = .ok (.multianewarray idx 2, 4)) (hw : Cond.classLink mm.1.cls idx "[[I" ∈ gtbl) (hac : Cond.arrayClass .int ∈ gtbl) (hi : i = nI n) (hj : j = nI k) (hn : n ≤ 1000) (hk : k ≤ 1000) (hlt : sk.length + 1 + n ≤ 1000000) (hp : pc + 4 = pc') (kk : Go mm d mcr msr pc' L (.ref sk.length :: st) (sk ++ mnaC sk.length n k, zIs M sk.length (sk.length + 1 + n), zLs N sk.length (sk.length + 1 + n)) Q) : Go mm d (mcr + (1 + n)) (msr + (n + n * k)) pc L (.int j :: .int i :: st) (sk, M, N) Q := by
  subst hp
  subst hi
  subst hj
  intro B0 D ad cid p l e R s m args below meth c H locs cells slots Qf ls hC hR hS hl hc hs' hE
  have hts := hC.2.2.2.2.2.1
  have hB := hC.2.2.2.2.2.2.2.2.2
  have hAO : (Cond.arrayOver (.array .int)).before args s = true := hC.2.2.2.2.2.2.2.2.1.2.2.2.2.1
  have hsz : H.size = B0 + sk.length := hR.2.1
  have had : ∀ q, q ≤ n → ad (sk.length + q) = H.size + q := fun q hq => by rw [hB _ (by omega), hsz]; omega
  have cn : (nI n).toNatClampNeg = n := nI_clamp (by omega)
  have ck : (nI k).toNatClampNeg = k := nI_clamp (by omega)
  have hw' : Cond.classLink mm.1.cls idx ("[" ++ (FieldType.array FieldType.int).toString) ∈ gtbl := by
    have e9 : "[" ++ (FieldType.array FieldType.int).toString = "[[I" := by decide
    rw [e9]; exact hw
  intro T hT Xs
  obtain ⟨vm₁, cA, comp, -, fA, fC, hO, hI, X', step⟩ := Xs.multianewarray2F hC.1 hC.2.2.2.1 (index := idx) (ty := .int) (hts _ hw') hAO (hts _ hac) (g := F0 m pc ls (.int (nI k) :: .int (nI n) :: st.map (cv ad))) rfl (by rw [hC.2.1]; exact hd) rfl (nI_pos (by omega)) (nI_pos (by omega)) (by rw [cn]; omega) (by rw [ck]; show k * 4 ≤ _; omega) (by rw [ck]; omega) rfl rfl (by rw [cn]; omega) (by rw [cn, ck]; omega)
  rw [cn, ck] at X' step
  generalize hF : Jvm.Free.Multi.fill (T.setVm vm₁) cA comp n k (defaultValue .int) n = F at X' step
  have hTh : (T.setVm vm₁).heap = H := hT
  obtain ⟨f1, f2, -, -⟩ := Jvm.Free.Multi.fill_facts (T.setVm vm₁) cA comp n k (defaultValue .int) n
  rw [hF, hTh] at f1 f2
  have hold : ∀ x : Nat, x < H.size → F.heap[x]? = H[x]? := fun x hx => by
    have := Jvm.Free.Multi.fill_old (T.setVm vm₁) cA comp n k (defaultValue .int) (a := x) (by rw [hTh]; exact hx) n
    rw [hF, hTh] at this
    exact this
  have hrow : ∀ q : Nat, q < n → F.heap[H.size + 1 + q]? = some (arrV comp k (fun _ => .int 0)) := fun q hq => by
    have := Jvm.Free.Multi.fill_inner (T.setVm vm₁) cA comp n k (defaultValue .int) n q hq
    rw [hF, hTh] at this
    rw [this]
    show some ({ cls := comp, slots := Array.replicate k (.int 0), vm := .none } : Cell) = _
    rw [arrV_new]
  rw [mna_outer] at f2
  generalize hcid : (fun q => if q = sk.length then cA else if sk.length < q then comp else cid q) = cid'
  have c0 : cid' sk.length = cA := by rw [← hcid]; exact if_pos rfl
  have c1 : ∀ q, sk.length < q → cid' q = comp := fun q hq => by rw [← hcid]; show (if q = sk.length then cA else if sk.length < q then comp else cid q) = comp; rw [if_neg (by omega), if_pos hq]
  have c2 : ∀ q, q < sk.length → cid' q = cid q := fun q hq => by rw [← hcid]; show (if q = sk.length then cA else if sk.length < q then comp else cid q) = cid q; rw [if_neg (by omega), if_neg (by omega)]
  have hget0 : (sk ++ mnaC sk.length n k)[sk.length]? = some (110, (List.range n).map (fun i => .ref (sk.length + 1 + i))) := by
    rw [List.getElem?_append_right (Nat.le_refl _), Nat.sub_self]; rfl
  have hlen : (sk ++ mnaC sk.length n k).length = sk.length + (n + 1) := by rw [List.length_append, mnaC_len]
  have hcase : ∀ (q : Nat) (x : Nat × List Value), (sk ++ mnaC sk.length n k)[q]? = some x → (q < sk.length ∧ sk[q]? = some x) ∨ (q = sk.length ∧ x = (110, (List.range n).map (fun i => .ref (sk.length + 1 + i)))) ∨ (∃ z, z < n ∧ q = sk.length + 1 + z ∧ x = (100, rep k)) := by
    intro q x hq
    by_cases hql : q < sk.length
    · rw [List.getElem?_append_left hql] at hq; exact Or.inl ⟨hql, hq⟩
    · rw [List.getElem?_append_right (by omega)] at hq
      have hz : q - sk.length < n + 1 := by have := (List.getElem?_eq_some_iff.mp hq).1; rw [mnaC_len] at this; exact this
      by_cases h0 : q = sk.length
      · subst h0; rw [Nat.sub_self] at hq; cases hq; exact Or.inr (Or.inl ⟨rfl, rfl⟩)
      · obtain ⟨z, hz2⟩ : ∃ z, q - sk.length = z + 1 := ⟨q - sk.length - 1, by omega⟩
        rw [hz2] at hq
        have hq2 : (List.replicate n ((100, rep k) : Nat × List Value))[z]? = some x := hq
        rw [List.getElem?_replicate, if_pos (by omega)] at hq2
        cases hq2
        exact Or.inr (Or.inr ⟨z, by omega, by omega, rfl⟩)
  obtain ⟨h1, h2, h3, h4, n9, h5, h6, h7, h8⟩ := id hR
  dsimp only at h1 h2 h3 h4 h6 h7
  have hRep : Rep B0 D ad cid' (sk ++ mnaC sk.length n k, zIs M sk.length (sk.length + 1 + n), zLs N sk.length (sk.length + 1 + n)) s F.heap := by
    refine ⟨fun q w hq => ?_, by show F.heap.size = B0 + (sk ++ mnaC sk.length n k).length; rw [f1, hlen]; omega, by show (sk ++ mnaC sk.length n k).length ≤ _; rw [hlen]; omega, fun q x ty hq ht => ?_, n9, h5, ?_, ?_, h8⟩
    · obtain ⟨x, hx, rfl⟩ := ws_inv hq
      dsimp only at hx
      rcases hcase q x hx with ⟨hql, hx2⟩ | ⟨rfl, rfl⟩ | ⟨z, hz, rfl, rfl⟩
      · have g1 := h1 q _ (ws_get hx2)
        have hce : cellOf ad cid' (zIs M sk.length (sk.length + 1 + n)) (zLs N sk.length (sk.length + 1 + n)) q x = cellOf ad cid M N q x := by
          rw [cell_ne (zIs_ne (by omega)) (zLs_ne (by omega))]
          simp [cellOf, c2 q hql]
        show va_at D vwCl (ad q, cellOf ad cid' (zIs M sk.length (sk.length + 1 + n)) (zLs N sk.length (sk.length + 1 + n)) q x) F.heap
        rw [hce]
        exact g1.kept (hold _ (by show ad q < H.size; rw [hB q (by omega)]; omega))
      · have hce : cellOf ad cid' (zIs M sk.length (sk.length + 1 + n)) (zLs N sk.length (sk.length + 1 + n)) sk.length (110, (List.range n).map (fun i => .ref (sk.length + 1 + i))) = .inl (cA, n, .inr (.inr (.inr (.inr (fun j => if j < n then some (H.size + 1 + j) else none))))) := by
          have hr : rowOf ad ((List.range n).map (fun i => .ref (sk.length + 1 + i))) = fun j => if j < n then some (H.size + 1 + j) else none := by
            funext j
            unfold rowOf
            rw [List.getElem?_map]
            by_cases hj : j < n
            · rw [List.getElem?_range hj, if_pos hj]
              show some (ad (sk.length + 1 + j)) = _
              rw [show sk.length + 1 + j = sk.length + (1 + j) by omega, had (1 + j) (by omega), ← Nat.add_assoc]
            · rw [List.getElem?_eq_none (by rw [List.length_range]; omega), if_neg hj]; rfl
          simp [cellOf, hr, c0]
        show va_at D vwCl (ad sk.length, cellOf ad cid' (zIs M sk.length (sk.length + 1 + n)) (zLs N sk.length (sk.length + 1 + n)) sk.length (110, (List.range n).map (fun i => .ref (sk.length + 1 + i)))) F.heap
        rw [hce]
        show F.heap[ad sk.length]? = _
        have e9 := had 0 (by omega)
        rw [Nat.add_zero, Nat.add_zero] at e9
        rw [e9, f2]
        rfl
      · have hce : cellOf ad cid' (zIs M sk.length (sk.length + 1 + n)) (zLs N sk.length (sk.length + 1 + n)) (sk.length + 1 + z) (100, rep k) = .inl (comp, k, .inl (fun _ => 0)) := by
          have hm : zIs M sk.length (sk.length + 1 + n) (sk.length + 1 + z) = fun _ => 0 := funext fun y => zIs_in (by omega)
          simp [cellOf, c1 (sk.length + 1 + z) (by omega), hm, rep_len]
        show va_at D vwCl (ad (sk.length + 1 + z), cellOf ad cid' (zIs M sk.length (sk.length + 1 + n)) (zLs N sk.length (sk.length + 1 + n)) (sk.length + 1 + z) (100, rep k)) F.heap
        rw [hce]
        show F.heap[ad (sk.length + 1 + z)]? = _
        rw [show sk.length + 1 + z = sk.length + (1 + z) by omega, had (1 + z) (by omega), ← Nat.add_assoc, hrow z hz]
        rfl
    · dsimp only at hq
      rcases hcase q x hq with ⟨hql, hx2⟩ | ⟨rfl, rfl⟩ | ⟨z, hz, rfl, rfl⟩
      · rw [c2 q hql]; exact h4 q x ty hx2 ht
      · cases ht
        rw [c0]
        exact ⟨fun N9 z9 => by
          obtain ⟨-, k9, hk9, cm9, hkk9⟩ := (hO 0 0 0).1
          exact ⟨(fun q hq => by cases hq), k9, hk9, cm9, hkk9⟩, fA⟩
      · cases ht
        rw [c1 _ (by omega)]
        exact ⟨fun N9 z9 => by
          obtain ⟨-, k9, hk9, cm9, hkk9⟩ := (hI 0 .null).1
          exact ⟨(fun q hq => by cases hq), k9, hk9, cm9, hkk9⟩, fC⟩
    · show zIs M sk.length (sk.length + 1 + n) 1000001 0 = nI n9
      rw [zIs_ne (by omega)]; exact h6
    · show va_X (ad 1000000) n9 (zIs M sk.length (sk.length + 1 + n) 1000000) s F.heap
      rw [zIs_ne (by omega)]
      exact h7.kept (hold _ (by omega))
  have hS' : va_S (fun q => B0 ≤ q) s.heap F.heap locs := ⟨by rw [f1]; have := hS.1; omega, fun x q1 q2 => (hold x (Nat.lt_of_lt_of_le q1 hS.1)).trans (hS.2.1 x q1 q2), hS.2.2⟩
  have k9 := kk B0 D ad cid' p l e R s m args below meth c F.heap locs (cells + 1 + n) (slots + n + n * k) Qf ls hC hRep hS' hl (by omega) (by omega) (fun r h' cid' H' locs' pc' ls' cs' ss' a1 a2 a3 a4 a5 a6 => hE r h' cid' H' locs' pc' ls' cs' ss' a1 a2 a3 (by omega) (by omega) a6)
  obtain ⟨t, a1, b1⟩ := k9 F rfl X'
  refine ⟨t, step t ?_, b1⟩
  have e9 := had 0 (by omega)
  rw [Nat.add_zero, Nat.add_zero] at e9
  have e8 : cv ad (.ref sk.length) = .ref T.heap.size := by rw [hT, ← e9]; rfl
  rw [List.map_cons, e8] at a1
  exact a1
end GMNA
