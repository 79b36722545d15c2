/-- how far off man m ploughs, as a number -/
def offN (P : Nat → Int32) (st : Int32) (m : Nat) : Nat := if (offP P st m).toNatClampNeg ≤ 35 then (offP P st m).toNatClampNeg else 0
theorem offN_le {P : Nat → Int32} {st : Int32} (m : Nat) : offN P st m ≤ 35 := by
  unfold offN
  split
  · assumption
  · omega
set_option maxRecDepth 100000 in
theorem offK_in : ∀ h : Fin 10, ∀ x : Fin 5, ∀ s : Fin 21, ∀ e : Fin 6, (10 - nI h + nI s / nI x + nI e).toNatClampNeg ≤ 35 ∧ 10 - nI h + nI s / nI x + nI e = nI (10 - nI h + nI s / nI x + nI e).toNatClampNeg := by decide +kernel
theorem offN_eq {n k : Nat} {P : Nat → Int32} (h : OkP n k P) {m s : Nat} (hm : m < n) (hs : s ≤ 20) : offP P (nI s) m = nI (offN P (nI s) m) := by
  obtain ⟨-, ⟨a, ha, e2⟩, ⟨b, hb1, hb, e3⟩, -⟩ := h.2.2.2.2.1 m hm
  have h9 : (offP P (nI s) m).toNatClampNeg ≤ 35 ∧ offP P (nI s) m = nI (offP P (nI s) m).toNatClampNeg := by
    have key : ∀ e : Fin 6, offP P (nI s) m = 10 - nI a + nI s / nI b + nI e → (offP P (nI s) m).toNatClampNeg ≤ 35 ∧ offP P (nI s) m = nI (offP P (nI s) m).toNatClampNeg := fun e he => by
      rw [he]
      exact offK_in ⟨a, by omega⟩ ⟨b, by omega⟩ ⟨s, by omega⟩ e
    unfold offP offK at key ⊢
    rw [e2, e3] at key ⊢
    by_cases c1 : P (4 + m) = 4
    · rw [if_pos c1] at key ⊢
      by_cases c2 : P 3 - P 3 / 2 * 2 = 0
      · rw [if_pos c2] at key ⊢; exact key ⟨5, by omega⟩ rfl
      · rw [if_neg c2] at key ⊢; exact key ⟨3, by omega⟩ rfl
    · rw [if_neg c1] at key ⊢
      exact key ⟨0, by omega⟩ (Int32.add_zero _).symm
  unfold offN
  rw [if_pos h9.1]
  exact h9.2
/-- the events of one distance off, of men < m -/
def evR (o : Nat → Nat) (t : Nat) : Nat → List (Nat × Nat)
  | 0 => []
  | m + 1 => evR o t m ++ (if o m ≤ t ∧ t < o m + 3 then [(m, 3 - (t - o m))] else [])
def evL (o : Nat → Nat) (n : Nat) : Nat → List (Nat × Nat)
  | 0 => []
  | t + 1 => evL o n t ++ evR o t n
def lnS (o : Nat → Nat) (t : Nat) : Nat → Nat
  | 0 => 0
  | m + 1 => lnS o t m + min (t - o m) 3
theorem lnS_le {o : Nat → Nat} {t : Nat} : ∀ m, lnS o t m ≤ 3 * m
  | 0 => Nat.le_refl _
  | m + 1 => by have := lnS_le (o := o) (t := t) m; unfold lnS; omega
theorem evR_len {o : Nat → Nat} {t : Nat} : ∀ m, lnS o t m + (evR o t m).length = lnS o (t + 1) m
  | 0 => rfl
  | m + 1 => by
    have := evR_len (o := o) (t := t) m
    unfold evR lnS
    rw [List.length_append]
    split
    · simp only [List.length_cons, List.length_nil]; omega
    · simp only [List.length_nil]; omega
theorem evL_len {o : Nat → Nat} {n : Nat} : ∀ t, (evL o n t).length = lnS o t n
  | 0 => by
    have : ∀ m, lnS o 0 m = 0 := by
      intro m
      induction m with
      | zero => rfl
      | succ m ih => unfold lnS; omega
    rw [this]; rfl
  | t + 1 => by
    have := evL_len (o := o) (n := n) t
    have := evR_len (o := o) (t := t) n
    unfold evL
    rw [List.length_append]
    omega
theorem evR_mono {o : Nat → Nat} {t m : Nat} : ∀ {j : Nat}, (evR o t m).length ≤ (evR o t (m + j)).length
  | 0 => Nat.le_refl _
  | j + 1 => by
    have := evR_mono (o := o) (t := t) (m := m) (j := j)
    show _ ≤ (evR o t (m + j) ++ _).length
    rw [List.length_append]
    omega
theorem evR_mem {o : Nat → Nat} {t : Nat} : ∀ {n m l : Nat}, (m, l) ∈ evR o t n → m < n ∧ 1 ≤ l ∧ l ≤ 3
  | 0, _, _, h => by cases h
  | n + 1, m, l, h => by
    unfold evR at h
    rw [List.mem_append] at h
    rcases h with h | h
    · have := evR_mem h; omega
    · split at h
      · rw [List.mem_singleton] at h; cases h; omega
      · cases h
theorem evL_mem {o : Nat → Nat} {n : Nat} : ∀ {t m l : Nat}, (m, l) ∈ evL o n t → m < n ∧ 1 ≤ l ∧ l ≤ 3
  | 0, _, _, h => by cases h
  | t + 1, m, l, h => by
    unfold evL at h
    rw [List.mem_append] at h
    rcases h with h | h
    · exact evL_mem h
    · exact evR_mem h
theorem subnegF : ∀ t : Fin 38, ∀ o : Fin 36, t.val < o.val → nI t - nI o < 0 := by decide +kernel
theorem subneg {t o : Nat} (h1 : t < 38) (h2 : o < 36) (h : t < o) : nI t - nI o < 0 := subnegF ⟨t, h1⟩ ⟨o, h2⟩ h
def EvI (M : Nat → Nat → Int32) (E : List (Nat × Nat)) : Prop := M 11 3 = nI E.length ∧ ∀ i m l, E[i]? = some (m, l) → M 12 i = nI m ∧ M 13 i = nI l
theorem EvI.snoc {M : Nat → Nat → Int32} {E : List (Nat × Nat)} {m l : Nat} (h : EvI M E) : EvI (um (um (um M 12 E.length (nI m)) 13 E.length (nI l)) 11 3 (nI (E.length + 1))) (E ++ [(m, l)]) := by
  refine ⟨by rw [um_at, List.length_append]; rfl, fun i a b hi => ?_⟩
  by_cases e : i = E.length
  · subst e
    rw [List.getElem?_append_right (Nat.le_refl _), Nat.sub_self] at hi
    cases hi
    rw [um_ne (by omega), um_ne (by omega), um_at, um_ne (by omega), um_at]
    exact ⟨rfl, rfl⟩
  · have hl : i < E.length := by
      have := (List.getElem?_eq_some_iff.mp hi).1
      rw [List.length_append] at this
      simp at this
      omega
    rw [List.getElem?_append_left hl] at hi
    rw [um_ne (by omega), um_ne (by omega), um_at2 e, um_ne (by omega), um_at2 e, um_ne (by omega)]
    exact h.2 i a b hi
set_option maxRecDepth 100000 in
set_option maxHeartbeats 1000000 in
theorem s_waysOf {M : Nat → Nat → Int32} {N : Nat → Nat → Int64} {n k : Nat} {P : Nat → Int32} (hok : OkP n k P) (hc0 : IsC M 14 n k P) {s : Nat} (h2 : P 2 = nI s) (hs : s ≤ 20) {man : Nat} (hman : man < n) {nm : Option Nat} (hnm : ∀ i, nm = some i → i < k) : Run mX3_waysOf 24 0 0 [.ref 11, .ref 14, .int (nI man), .int (optI (-1) nm)] (SK, M, N) (fun r h' => ∃ M', h' = (SK, M', N) ∧ r = some (.int (nI (wF P k man nm (evL (offN P (nI s)) n 38) 0 0))) ∧ ∀ a, a ≠ 11 → a ≠ 12 → a ≠ 13 → M' a = M a) := by
  refine Run.of (by decide) (Nat.le_of_ble_eq_true rfl) ?_
  have hn6 := hok.1
  have hole := @offN_le P (nI s)
  have hoq : ∀ {m : Nat}, m < n → offP P (nI s) m = nI (offN P (nI s) m) := fun hm => offN_eq hok hm hs
  generalize offN P (nI s) = o at hole hoq
  refine g_aload_n (j := 0) (pc' := 1) dX3_waysOf_0 rfl rfl ?_
  refine g_iconst (v := 0) (pc' := 2) dX3_waysOf_1 (by decide) rfl ?_
  refine g_putI (pc' := 5) dX3_waysOf_2 fX3_18 rfl rfl ⟨rfl, rfl⟩ rfl ?_
  generalize hM0 : (um M 11 3 0) = M0
  refine g_iconst (v := 0) (pc' := 6) dX3_waysOf_5 (by decide) rfl ?_
  refine g_istore (L' := [(0, .ref 11), (1, .ref 14), (2, .int (nI man)), (3, .int (optI (-1) nm)), (4, .int 0)]) (pc' := 8) dX3_waysOf_6 (by decide) rfl rfl ?_
  have hf0 : ∀ a, a ≠ 11 → M0 a = M a := fun a ha => by rw [← hM0, um_ne ha]
  have loop : ∀ (j t : Nat) (M1 : Nat → Nat → Int32), t + j = 38 → EvI M1 (evL o n t) → (∀ a, a ≠ 11 → a ≠ 12 → a ≠ 13 → M1 a = M a) → Go mX3_waysOf 24 0 0 8 [(0, .ref 11), (1, .ref 14), (2, .int (nI man)), (3, .int (optI (-1) nm)), (4, .int (nI t))] [] (SK, M1, N) (fun r h' => ∃ M', h' = (SK, M', N) ∧ r = some (.int (nI (wF P k man nm (evL o n 38) 0 0))) ∧ ∀ a, a ≠ 11 → a ≠ 12 → a ≠ 13 → M' a = M a) := by
    intro j
    induction j with
    | zero =>
      intro t M1 htj hE hf
      obtain rfl : t = 38 := by omega
      refine g_iload (j := 4) (pc' := 10) dX3_waysOf_8 rfl rfl ?_
      refine g_bipush (v := 37) (pc' := 12) dX3_waysOf_10 (by decide) rfl ?_
      refine g_icmp_gt (tgt := 103) (pc' := 15) dX3_waysOf_12 (by decide) rfl (fun hc => ?_) (fun hc => (absurd (show (37 : Int32) < nI 38 by decide) hc))
      have hl18 : (evL o n 38).length ≤ 18 := by have := evL_len (o := o) (n := n) 38; have := lnS_le (o := o) (t := 38) n; omega
      have hEv : EvC M1 n (evL o n 38) := ⟨hE.1, hl18, fun i m l hi => ⟨(hE.2 i m l hi).1, (hE.2 i m l hi).2, evL_mem (List.mem_of_getElem? hi)⟩⟩
      have hc1 : IsC M1 14 n k P := hc0.keep (fun a a1 a2 => hf a (by omega) (by omega) (by omega))
      refine g_aload_n (j := 0) (pc' := 104) dX3_waysOf_103 rfl rfl ?_
      refine g_aload_n (j := 1) (pc' := 105) dX3_waysOf_104 rfl rfl ?_
      refine g_iload_n (j := 2) (pc' := 106) dX3_waysOf_105 rfl rfl ?_
      refine g_iload_n (j := 3) (pc' := 107) dX3_waysOf_106 rfl rfl ?_
      refine g_iconst (v := 0) (pc' := 108) dX3_waysOf_107 (by decide) rfl ?_
      refine g_iconst (v := 0) (pc' := 109) dX3_waysOf_108 (by decide) rfl ?_
      refine g_iconst (v := 0) (pc' := 110) dX3_waysOf_109 (by decide) rfl ?_
      refine g_callV (my := mX3_waysFrom) (k := 11) (st := []) (av := [.ref 14, .int (nI man), .int (optI (-1) nm), .int 0, .int 0, .int 0]) (mcr := 0) (msr := 0) (mc := 0) (ms := 0) (pc' := 113) dX3_waysOf_110 kX3_waysFrom wX3_40 rfl ⟨rfl, rfl⟩ rfl (Nat.le_of_ble_eq_true rfl) (by omega) (s_waysFrom hok hc1 hEv hman hnm (evL o n 38).length 0 0 0 (by omega) (by omega)) rfl ?_
      rintro _ _ ⟨rfl, rfl⟩
      show Go mX3_waysOf _ _ _ 113 [(0, .ref 11), (1, .ref 14), (2, .int (nI man)), (3, .int (optI (-1) nm)), (4, .int (nI 38))] [.int (nI (wF P k man nm (List.drop 0 (evL o n 38)) 0 0))] (SK, M1, N) _
      exact g_iret dX3_waysOf_113 rfl rfl (⟨M1, rfl, rfl, hf⟩)
    | succ j ih =>
      intro t M1 htj hE hf
      refine g_iload (j := 4) (pc' := 10) dX3_waysOf_8 rfl rfl ?_
      refine g_bipush (v := 37) (pc' := 12) dX3_waysOf_10 (by decide) rfl ?_
      refine g_icmp_gt (tgt := 103) (pc' := 15) dX3_waysOf_12 (by decide) rfl (fun hc => (absurd hc (nI_nlt (a := 37) (b := t) (by omega) (by omega)))) (fun hc => ?_)
      refine g_iconst (v := 0) (pc' := 16) dX3_waysOf_15 (by decide) rfl ?_
      refine g_istore (L' := [(0, .ref 11), (1, .ref 14), (2, .int (nI man)), (3, .int (optI (-1) nm)), (4, .int (nI t)), (5, .int 0)]) (pc' := 18) dX3_waysOf_16 (by decide) rfl rfl ?_
      have inn : ∀ (i m : Nat) (M2 : Nat → Nat → Int32), m + i = n → EvI M2 (evL o n t ++ evR o t m) → (∀ a, a ≠ 11 → a ≠ 12 → a ≠ 13 → M2 a = M a) → Go mX3_waysOf 24 0 0 18 [(0, .ref 11), (1, .ref 14), (2, .int (nI man)), (3, .int (optI (-1) nm)), (4, .int (nI t)), (5, .int (nI m))] [] (SK, M2, N) (fun r h' => ∃ M', h' = (SK, M', N) ∧ r = some (.int (nI (wF P k man nm (evL o n 38) 0 0))) ∧ ∀ a, a ≠ 11 → a ≠ 12 → a ≠ 13 → M' a = M a) := by
        intro i
        induction i with
        | zero =>
          intro m M2 hmi hE2 hf2
          have hc2 : IsC M2 14 n k P := hc0.keep (fun a a1 a2 => hf2 a (by omega) (by omega) (by omega))
          refine g_iload (j := 5) (pc' := 20) dX3_waysOf_18 rfl rfl ?_
          refine g_aload_n (j := 1) (pc' := 21) dX3_waysOf_20 rfl rfl ?_
          refine g_getI (pc' := 24) dX3_waysOf_21 fX3_26 rfl rfl rfl ?_
          refine g_top (y := nI n) (hc2.1) ?_
          refine g_icmp_ge (tgt := 97) (pc' := 27) dX3_waysOf_24 (by decide) rfl (fun hc => ?_) (fun hc => (absurd (nI_le (a := n) (b := m) (by omega) (by omega)) hc))
          refine g_iinc (j := 4) (v := nI (t + 1)) (L' := [(0, .ref 11), (1, .ref 14), (2, .int (nI man)), (3, .int (optI (-1) nm)), (4, .int (nI (t + 1))), (5, .int (nI m))]) (pc' := 100) dX3_waysOf_97 rfl (nI_1 t) (by decide) rfl rfl ?_
          refine g_goto (tgt := 8) dX3_waysOf_100 (by decide) ?_
          refine g_less (L' := [(0, .ref 11), (1, .ref 14), (2, .int (nI man)), (3, .int (optI (-1) nm)), (4, .int (nI (t + 1)))]) [0, 1, 2, 3, 4] rfl ?_
          obtain rfl : m = n := by omega
          exact ih (t + 1) M2 (by omega) hE2 hf2
        | succ i ihi =>
          intro m M2 hmi hE2 hf2
          have hc2 : IsC M2 14 n k P := hc0.keep (fun a a1 a2 => hf2 a (by omega) (by omega) (by omega))
          refine g_iload (j := 5) (pc' := 20) dX3_waysOf_18 rfl rfl ?_
          refine g_aload_n (j := 1) (pc' := 21) dX3_waysOf_20 rfl rfl ?_
          refine g_getI (pc' := 24) dX3_waysOf_21 fX3_26 rfl rfl rfl ?_
          refine g_top (y := nI n) (hc2.1) ?_
          refine g_icmp_ge (tgt := 97) (pc' := 27) dX3_waysOf_24 (by decide) rfl (fun hc => (absurd hc (nI_ge (a := m) (b := n) (by omega) (by omega)))) (fun hc => ?_)
          obtain ⟨⟨qk, hqk, eqk⟩, -, ⟨qo, hqo1, hqo, eqo⟩, -⟩ := hok.2.2.2.2.1 m (by omega)
          refine g_iload (j := 4) (pc' := 29) dX3_waysOf_27 rfl rfl ?_
          refine g_aload_n (j := 0) (pc' := 30) dX3_waysOf_29 rfl rfl ?_
          refine g_getR (pc' := 33) dX3_waysOf_30 fX3_22 rfl rfl rfl ?_
          refine g_aload_n (j := 1) (pc' := 34) dX3_waysOf_33 rfl rfl ?_
          refine g_iload (j := 5) (pc' := 36) dX3_waysOf_34 rfl rfl ?_
          refine g_aload_n (j := 1) (pc' := 37) dX3_waysOf_36 rfl rfl ?_
          refine g_getI (pc' := 40) dX3_waysOf_37 fX3_31 rfl rfl rfl ?_
          refine g_top (y := nI s) (hc2.2.2.1.trans h2) ?_
          refine g_callV (my := mX0_offOf) (k := 1) (st := [.int (nI t)]) (av := [.ref 14, .int (nI m), .int (nI s)]) (mcr := 0) (msr := 0) (mc := 0) (ms := 0) (pc' := 43) dX3_waysOf_40 kX0_offOf wX3_34 rfl ⟨rfl, rfl⟩ rfl (Nat.le_of_ble_eq_true rfl) (by decide) (s_offOf (nI s) par14 (m := m) (by omega) (by rw [(hc2.2.2.2.2.2.1 m (by omega)).1]; exact eqk) hqk (by rw [(hc2.2.2.2.2.2.1 m (by omega)).2.2.1, eqo]; exact one_le_nI hqo1 (by omega))) rfl ?_
          rintro _ _ ⟨rfl, rfl⟩
          show Go mX3_waysOf _ _ _ 43 [(0, .ref 11), (1, .ref 14), (2, .int (nI man)), (3, .int (optI (-1) nm)), (4, .int (nI t)), (5, .int (nI m))] [.int (offK (M2 (14 + 1) m) (M2 (14 + 2) m) (M2 (14 + 3) m) (nI s) (M2 14 3)), .int (nI t)] (SK, M2, N) _
          refine g_top (y := nI (o m)) (by rw [(hc2.2.2.2.2.2.1 m (by omega)).1, (hc2.2.2.2.2.2.1 m (by omega)).2.1, (hc2.2.2.2.2.2.1 m (by omega)).2.2.1, hc2.2.2.2.1]; exact hoq (by omega)) ?_
          have hom := hole m
          rcases Nat.lt_or_ge t (o m) with hto | hto
          · refine g_isub (pc' := 44) dX3_waysOf_43 rfl ?_
            refine g_istore (L' := [(0, .ref 11), (1, .ref 14), (2, .int (nI man)), (3, .int (optI (-1) nm)), (4, .int (nI t)), (5, .int (nI m)), (6, .int (nI t - nI (o m)))]) (pc' := 46) dX3_waysOf_44 (by decide) rfl rfl ?_
            refine g_iload (j := 6) (pc' := 48) dX3_waysOf_46 rfl rfl ?_
            refine g_if_lt (tgt := 91) (pc' := 51) dX3_waysOf_48 (by decide) rfl (fun hc => ?_) (fun hc => (absurd (subneg (by omega) (by omega) hto) hc))
            have hno : ¬ (o m ≤ t ∧ t < o m + 3) := by omega
            have hEn : evL o n t ++ evR o t (m + 1) = evL o n t ++ evR o t m := by show evL o n t ++ (evR o t m ++ _) = _; rw [if_neg hno, List.append_nil]
            refine g_iinc (j := 5) (v := nI (m + 1)) (L' := [(0, .ref 11), (1, .ref 14), (2, .int (nI man)), (3, .int (optI (-1) nm)), (4, .int (nI t)), (5, .int (nI (m + 1))), (6, .int (nI t - nI (o m)))]) (pc' := 94) dX3_waysOf_91 rfl (nI_1 m) (by decide) rfl rfl ?_
            refine g_goto (tgt := 18) dX3_waysOf_94 (by decide) ?_
            refine g_less (L' := [(0, .ref 11), (1, .ref 14), (2, .int (nI man)), (3, .int (optI (-1) nm)), (4, .int (nI t)), (5, .int (nI (m + 1)))]) [0, 1, 2, 3, 4, 5] rfl ?_
            exact ihi (m + 1) M2 (by omega) (by rw [hEn]; exact hE2) hf2
          · refine g_isub (pc' := 44) dX3_waysOf_43 rfl ?_
            refine g_top (y := nI (t - o m)) (pk_sub hto) ?_
            refine g_istore (L' := [(0, .ref 11), (1, .ref 14), (2, .int (nI man)), (3, .int (optI (-1) nm)), (4, .int (nI t)), (5, .int (nI m)), (6, .int (nI (t - o m)))]) (pc' := 46) dX3_waysOf_44 (by decide) rfl rfl ?_
            refine g_iload (j := 6) (pc' := 48) dX3_waysOf_46 rfl rfl ?_
            refine g_if_lt (tgt := 91) (pc' := 51) dX3_waysOf_48 (by decide) rfl (fun hc => (absurd hc (nI_nlt (a := t - o m) (b := 0) (by omega) (by omega)))) (fun hc => ?_)
            refine g_iload (j := 6) (pc' := 53) dX3_waysOf_51 rfl rfl ?_
            refine g_iconst (v := 3) (pc' := 54) dX3_waysOf_53 (by decide) rfl ?_
            refine g_icmp_ge (tgt := 91) (pc' := 57) dX3_waysOf_54 (by decide) rfl (fun hc5 => ?_) (fun hc5 => ?_)
            · have hno : ¬ (o m ≤ t ∧ t < o m + 3) := fun q => absurd hc5 (nI_ge (a := t - o m) (b := 3) (by omega) (by omega))
              have hEn : evL o n t ++ evR o t (m + 1) = evL o n t ++ evR o t m := by show evL o n t ++ (evR o t m ++ _) = _; rw [if_neg hno, List.append_nil]
              refine g_iinc (j := 5) (v := nI (m + 1)) (L' := [(0, .ref 11), (1, .ref 14), (2, .int (nI man)), (3, .int (optI (-1) nm)), (4, .int (nI t)), (5, .int (nI (m + 1))), (6, .int (nI (t - o m)))]) (pc' := 94) dX3_waysOf_91 rfl (nI_1 m) (by decide) rfl rfl ?_
              refine g_goto (tgt := 18) dX3_waysOf_94 (by decide) ?_
              refine g_less (L' := [(0, .ref 11), (1, .ref 14), (2, .int (nI man)), (3, .int (optI (-1) nm)), (4, .int (nI t)), (5, .int (nI (m + 1)))]) [0, 1, 2, 3, 4, 5] rfl ?_
              exact ihi (m + 1) M2 (by omega) (by rw [hEn]; exact hE2) hf2
            · have h3 : t - o m < 3 := Nat.lt_of_not_le (fun q => hc5 (nI_le (a := 3) (b := t - o m) q (by omega)))
              have hl17 : (evL o n t ++ evR o t m).length < 18 := by
                have a1 := evR_mono (o := o) (t := t) (m := m + 1) (j := n - (m + 1))
                rw [show m + 1 + (n - (m + 1)) = n by omega] at a1
                have a2 := evL_len (o := o) (n := n) (t + 1)
                have a3 := lnS_le (o := o) (t := t + 1) n
                have a4 : (evR o t (m + 1)).length = (evR o t m).length + 1 := by show (evR o t m ++ _).length = _; rw [if_pos ⟨hto, by omega⟩, List.length_append]; rfl
                unfold evL at a2
                rw [List.length_append] at a2 ⊢
                omega
              have hEn : evL o n t ++ evR o t (m + 1) = (evL o n t ++ evR o t m) ++ [(m, 3 - (t - o m))] := by show evL o n t ++ (evR o t m ++ _) = _; rw [if_pos ⟨hto, by omega⟩, List.append_assoc]
              have hsn := hE2.snoc (m := m) (l := 3 - (t - o m))
              rw [← hEn] at hsn
              have hF := hE2.1
              generalize (evL o n t ++ evR o t m).length = F at hF hl17 hsn
              refine g_aload_n (j := 0) (pc' := 58) dX3_waysOf_57 rfl rfl ?_
              refine g_getR (pc' := 61) dX3_waysOf_58 fX3_11 rfl rfl rfl ?_
              refine g_aload_n (j := 0) (pc' := 62) dX3_waysOf_61 rfl rfl ?_
              refine g_getI (pc' := 65) dX3_waysOf_62 fX3_18 rfl rfl rfl ?_
              refine g_top (y := nI F) (hF) ?_
              refine g_iload (j := 5) (pc' := 67) dX3_waysOf_65 rfl rfl ?_
              refine g_iast (n := F) (pc' := 68) dX3_waysOf_67 rfl rfl (by omega) rfl ?_
              refine g_aload_n (j := 0) (pc' := 69) dX3_waysOf_68 rfl rfl ?_
              refine g_getR (pc' := 72) dX3_waysOf_69 fX3_15 rfl rfl rfl ?_
              refine g_aload_n (j := 0) (pc' := 73) dX3_waysOf_72 rfl rfl ?_
              refine g_getI (pc' := 76) dX3_waysOf_73 fX3_18 rfl rfl rfl ?_
              refine g_top (y := M2 11 3) (by simp (disch := omega) only [um_ne, um_at, um_at2, cpy2_ne]) ?_
              refine g_top (y := nI F) (hF) ?_
              refine g_iconst (v := 3) (pc' := 77) dX3_waysOf_76 (by decide) rfl ?_
              refine g_iload (j := 6) (pc' := 79) dX3_waysOf_77 rfl rfl ?_
              refine g_isub (pc' := 80) dX3_waysOf_79 rfl ?_
              refine g_top (y := nI (3 - (t - o m))) (pk_sub (a := 3) (b := t - o m) (by omega)) ?_
              refine g_iast (n := F) (pc' := 81) dX3_waysOf_80 rfl rfl (by omega) rfl ?_
              refine g_aload_n (j := 0) (pc' := 82) dX3_waysOf_81 rfl rfl ?_
              refine g_dup (pc' := 83) dX3_waysOf_82 rfl rfl ?_
              refine g_getI (pc' := 86) dX3_waysOf_83 fX3_18 rfl rfl rfl ?_
              refine g_top (y := M2 11 3) (by simp (disch := omega) only [um_ne, um_at, um_at2, cpy2_ne]) ?_
              refine g_top (y := nI F) (hF) ?_
              refine g_iconst (v := 1) (pc' := 87) dX3_waysOf_86 (by decide) rfl ?_
              refine g_iadd (pc' := 88) dX3_waysOf_87 rfl ?_
              refine g_top (y := nI (F + 1)) (nI_1 F) ?_
              refine g_putI (pc' := 91) dX3_waysOf_88 fX3_18 rfl rfl ⟨rfl, rfl⟩ rfl ?_
              refine g_iinc (j := 5) (v := nI (m + 1)) (L' := [(0, .ref 11), (1, .ref 14), (2, .int (nI man)), (3, .int (optI (-1) nm)), (4, .int (nI t)), (5, .int (nI (m + 1))), (6, .int (nI (t - o m)))]) (pc' := 94) dX3_waysOf_91 rfl (nI_1 m) (by decide) rfl rfl ?_
              refine g_goto (tgt := 18) dX3_waysOf_94 (by decide) ?_
              refine g_less (L' := [(0, .ref 11), (1, .ref 14), (2, .int (nI man)), (3, .int (optI (-1) nm)), (4, .int (nI t)), (5, .int (nI (m + 1)))]) [0, 1, 2, 3, 4, 5] rfl ?_
              exact ihi (m + 1) _ (by omega) hsn (fun a a1 a2 a3 => by rw [um_ne a1, um_ne a3, um_ne a2]; exact hf2 a a1 a2 a3)
      exact inn n 0 M1 (by omega) (by rw [show evR o t 0 = [] from rfl, List.append_nil]; exact hE) hf
  exact loop 38 0 M0 rfl ⟨by rw [← hM0]; exact um_at, fun i m l hi => by cases hi⟩ (fun a a1 _ _ => hf0 a a1)
set_option maxRecDepth 100000 in
set_option maxHeartbeats 1000000 in
theorem s_all {M : Nat → Nat → Int32} {N : Nat → Nat → Int64} {n : Nat} (hn : n ≤ 6) : Run mX3_all 0 0 0 [.ref 11, .int (nI n)] (SK, M, N) (fun r h' => h' = (SK, M, N) ∧ r = some (.int (nI (3 ^ n)))) := by
  refine Run.of (by decide) (Nat.le_of_ble_eq_true rfl) ?_
  refine g_iconst (v := 1) (pc' := 1) dX3_all_0 (by decide) rfl ?_
  refine g_istore_n (L' := [(0, .ref 11), (1, .int (nI n)), (2, .int 1)]) (pc' := 2) dX3_all_1 (by decide) rfl rfl ?_
  refine g_iconst (v := 0) (pc' := 3) dX3_all_2 (by decide) rfl ?_
  refine g_istore_n (L' := [(0, .ref 11), (1, .int (nI n)), (2, .int 1), (3, .int 0)]) (pc' := 4) dX3_all_3 (by decide) rfl rfl ?_
  have loop : ∀ (j i : Nat), i + j = n → Go mX3_all 0 0 0 4 [(0, .ref 11), (1, .int (nI n)), (2, .int (nI (3 ^ i))), (3, .int (nI i))] [] (SK, M, N) (fun r h' => h' = (SK, M, N) ∧ r = some (.int (nI (3 ^ n)))) := by
    intro j
    induction j with
    | zero =>
      intro i hij
      refine g_iload_n (j := 3) (pc' := 5) dX3_all_4 rfl rfl ?_
      refine g_iload_n (j := 1) (pc' := 6) dX3_all_5 rfl rfl ?_
      refine g_icmp_ge (tgt := 19) (pc' := 9) dX3_all_6 (by decide) rfl (fun hc => ?_) (fun hc => (absurd (nI_le (a := n) (b := i) (by omega) (by omega)) hc))
      obtain rfl : i = n := by omega
      refine g_iload_n (j := 2) (pc' := 20) dX3_all_19 rfl rfl ?_
      exact g_iret dX3_all_20 rfl rfl (⟨rfl, rfl⟩)
    | succ j ih =>
      intro i hij
      refine g_iload_n (j := 3) (pc' := 5) dX3_all_4 rfl rfl ?_
      refine g_iload_n (j := 1) (pc' := 6) dX3_all_5 rfl rfl ?_
      refine g_icmp_ge (tgt := 19) (pc' := 9) dX3_all_6 (by decide) rfl (fun hc => (absurd hc (nI_ge (a := i) (b := n) (by omega) (by omega)))) (fun hc => ?_)
      refine g_iload_n (j := 2) (pc' := 10) dX3_all_9 rfl rfl ?_
      refine g_iconst (v := 3) (pc' := 11) dX3_all_10 (by decide) rfl ?_
      refine g_imul (pc' := 12) dX3_all_11 rfl ?_
      refine g_top (y := nI (3 ^ (i + 1))) (pk_mul (3 ^ i) 3) ?_
      refine g_istore_n (L' := [(0, .ref 11), (1, .int (nI n)), (2, .int (nI (3 ^ (i + 1)))), (3, .int (nI i))]) (pc' := 13) dX3_all_12 (by decide) rfl rfl ?_
      refine g_iinc (j := 3) (v := nI (i + 1)) (L' := [(0, .ref 11), (1, .int (nI n)), (2, .int (nI (3 ^ (i + 1)))), (3, .int (nI (i + 1)))]) (pc' := 16) dX3_all_13 rfl (nI_1 i) (by decide) rfl rfl ?_
      refine g_goto (tgt := 4) dX3_all_16 (by decide) ?_
      exact ih (i + 1) (by omega)
  exact loop n 0 (by omega)
/-- shortened by 3, at most f times -/
def rdc : Nat → Nat → Nat → Nat × Nat
  | 0, w, a => (w, a)
  | f + 1, w, a => if w % 3 = 0 then rdc f (w / 3) (a / 3) else (w, a)
theorem div3F : ∀ w : Fin 1000, nI w / 3 = nI (w.val / 3) := by decide +kernel
theorem div3 {w : Nat} (h : w < 1000) : nI w / 3 = nI (w / 3) := div3F ⟨w, h⟩
theorem rem3 {w : Nat} (h : w < 1000) : nI w - nI w / 3 * 3 = nI (w % 3) := by
  rw [div3 h, show nI (w / 3) * (3 : Int32) = nI (w / 3 * 3) from pk_mul (w / 3) 3, pk_sub (a := w) (b := w / 3 * 3) (by omega)]
  congr 1
  omega
set_option maxRecDepth 100000 in
set_option maxHeartbeats 1000000 in
theorem c_luck_b1 {M : Nat → Nat → Int32} {N : Nat → Nat → Int64} {n k : Nat} {P : Nat → Int32} {pa : List (Nat → Int32)} {kp : Option YS} {tp : List Int32} {sh : Nat → Option (Nat × Nat × (Nat → Int64))} (hA : AOk ((n, k, P, pa), kp, tp, sh)) (hI : CI M N ((n, k, P, pa), kp, tp, sh)) {v : Int32} (na wh : Int32) (h1 : ∀ m, m < n → v ≠ nI m) : Run mX11_luck 30 0 0 [.ref 0, .int v, .int na, .int wh] (SK, M, N) (CQ M N (-1) ((n, k, P, pa), kp, tp, sh)) := by
  refine Run.of (by decide) (Nat.le_of_ble_eq_true rfl) ?_
  have hok : OkP n k P := hA.1.1.1
  have hc0 : IsC M 14 n k P := hI.1.1
  have hn6 := hok.1
  have hk6 := hok.2.1
  refine g_aload_n (j := 0) (pc' := 1) dX11_luck_0 rfl rfl ?_
  refine g_iload_n (j := 1) (pc' := 2) dX11_luck_1 rfl rfl ?_
  refine g_callV (my := mX11_noMan) (k := 0) (st := []) (av := [.int v]) (mcr := 0) (msr := 0) (mc := 0) (ms := 0) (pc' := 5) dX11_luck_2 kX11_noMan wX11_93 rfl ⟨rfl, rfl⟩ rfl (Nat.le_of_ble_eq_true rfl) (by decide) (s_noMan1 hc0.1 hn6 (h1)) rfl ?_
  rintro _ _ ⟨rfl, rfl⟩
  show Go mX11_luck _ _ _ 5 [(0, .ref 0), (1, .int v), (2, .int na), (3, .int wh)] [.int 1] (SK, M, N) _
  refine g_if_ne (tgt := 31) (pc' := 8) dX11_luck_5 (by decide) rfl (fun _ => ?_) (fun hc => absurd hc (by decide))
  refine g_iconst (v := (-1)) (pc' := 32) dX11_luck_31 (by decide) rfl ?_
  exact g_iret dX11_luck_32 rfl rfl (CQ.same hI)
set_option maxRecDepth 100000 in
set_option maxHeartbeats 1000000 in
theorem c_luck_b2 {M : Nat → Nat → Int32} {N : Nat → Nat → Int64} {n k : Nat} {P : Nat → Int32} {pa : List (Nat → Int32)} {kp : Option YS} {tp : List Int32} {sh : Nat → Option (Nat × Nat × (Nat → Int64))} (hA : AOk ((n, k, P, pa), kp, tp, sh)) (hI : CI M N ((n, k, P, pa), kp, tp, sh)) {m : Nat} {na : Int32} (wh : Int32) (hm : m < n) (h0 : na ≠ -4) (h1 : ∀ i, i < k → na ≠ nI i) : Run mX11_luck 30 0 0 [.ref 0, .int (nI m), .int na, .int wh] (SK, M, N) (CQ M N (-1) ((n, k, P, pa), kp, tp, sh)) := by
  refine Run.of (by decide) (Nat.le_of_ble_eq_true rfl) ?_
  have hok : OkP n k P := hA.1.1.1
  have hc0 : IsC M 14 n k P := hI.1.1
  have hn6 := hok.1
  have hk6 := hok.2.1
  refine g_aload_n (j := 0) (pc' := 1) dX11_luck_0 rfl rfl ?_
  refine g_iload_n (j := 1) (pc' := 2) dX11_luck_1 rfl rfl ?_
  refine g_callV (my := mX11_noMan) (k := 0) (st := []) (av := [.int (nI m)]) (mcr := 0) (msr := 0) (mc := 0) (ms := 0) (pc' := 5) dX11_luck_2 kX11_noMan wX11_93 rfl ⟨rfl, rfl⟩ rfl (Nat.le_of_ble_eq_true rfl) (by decide) (s_noMan0 hc0.1 hn6 (hm)) rfl ?_
  rintro _ _ ⟨rfl, rfl⟩
  show Go mX11_luck _ _ _ 5 [(0, .ref 0), (1, .int (nI m)), (2, .int na), (3, .int wh)] [.int 0] (SK, M, N) _
  refine g_if_ne (tgt := 31) (pc' := 8) dX11_luck_5 (by decide) rfl (fun hc => absurd rfl hc) (fun _ => ?_)
  refine g_iload_n (j := 2) (pc' := 9) dX11_luck_8 rfl rfl ?_
  refine g_bipush (v := (-4)) (pc' := 11) dX11_luck_9 (by decide) rfl ?_
  refine g_icmp_eq (tgt := 22) (pc' := 14) dX11_luck_11 (by decide) rfl (fun hc => (absurd hc h0)) (fun hc => ?_)
  refine g_aload_n (j := 0) (pc' := 15) dX11_luck_14 rfl rfl ?_
  refine g_iload_n (j := 2) (pc' := 16) dX11_luck_15 rfl rfl ?_
  refine g_callV (my := mX11_noName) (k := 0) (st := []) (av := [.int na]) (mcr := 0) (msr := 0) (mc := 0) (ms := 0) (pc' := 19) dX11_luck_16 kX11_noName wX11_128 rfl ⟨rfl, rfl⟩ rfl (Nat.le_of_ble_eq_true rfl) (by decide) (s_noName1 hc0.2.1 hk6 (h1)) rfl ?_
  rintro _ _ ⟨rfl, rfl⟩
  show Go mX11_luck _ _ _ 19 [(0, .ref 0), (1, .int (nI m)), (2, .int na), (3, .int wh)] [.int 1] (SK, M, N) _
  refine g_if_ne (tgt := 31) (pc' := 22) dX11_luck_19 (by decide) rfl (fun _ => ?_) (fun hc => absurd hc (by decide))
  refine g_iconst (v := (-1)) (pc' := 32) dX11_luck_31 (by decide) rfl ?_
  exact g_iret dX11_luck_32 rfl rfl (CQ.same hI)
set_option maxRecDepth 100000 in
set_option maxHeartbeats 1000000 in
theorem c_luck_b3 {M : Nat → Nat → Int32} {N : Nat → Nat → Int64} {n k : Nat} {P : Nat → Int32} {pa : List (Nat → Int32)} {kp : Option YS} {tp : List Int32} {sh : Nat → Option (Nat × Nat × (Nat → Int64))} (hA : AOk ((n, k, P, pa), kp, tp, sh)) (hI : CI M N ((n, k, P, pa), kp, tp, sh)) {m : Nat} {wh : Int32} (hm : m < n) (h2 : wh < 0 ∨ 1 < wh) : Run mX11_luck 30 0 0 [.ref 0, .int (nI m), .int (-4), .int wh] (SK, M, N) (CQ M N (-1) ((n, k, P, pa), kp, tp, sh)) := by
  refine Run.of (by decide) (Nat.le_of_ble_eq_true rfl) ?_
  have hok : OkP n k P := hA.1.1.1
  have hc0 : IsC M 14 n k P := hI.1.1
  have hn6 := hok.1
  have hk6 := hok.2.1
  refine g_aload_n (j := 0) (pc' := 1) dX11_luck_0 rfl rfl ?_
  refine g_iload_n (j := 1) (pc' := 2) dX11_luck_1 rfl rfl ?_
  refine g_callV (my := mX11_noMan) (k := 0) (st := []) (av := [.int (nI m)]) (mcr := 0) (msr := 0) (mc := 0) (ms := 0) (pc' := 5) dX11_luck_2 kX11_noMan wX11_93 rfl ⟨rfl, rfl⟩ rfl (Nat.le_of_ble_eq_true rfl) (by decide) (s_noMan0 hc0.1 hn6 (hm)) rfl ?_
  rintro _ _ ⟨rfl, rfl⟩
  show Go mX11_luck _ _ _ 5 [(0, .ref 0), (1, .int (nI m)), (2, .int (-4)), (3, .int wh)] [.int 0] (SK, M, N) _
  refine g_if_ne (tgt := 31) (pc' := 8) dX11_luck_5 (by decide) rfl (fun hc => absurd rfl hc) (fun _ => ?_)
  refine g_iload_n (j := 2) (pc' := 9) dX11_luck_8 rfl rfl ?_
  refine g_bipush (v := (-4)) (pc' := 11) dX11_luck_9 (by decide) rfl ?_
  refine g_icmp_eq (tgt := 22) (pc' := 14) dX11_luck_11 (by decide) rfl (fun hc => ?_) (fun hc => (absurd rfl hc))
  refine g_iload_n (j := 3) (pc' := 23) dX11_luck_22 rfl rfl ?_
  refine g_iconst (v := 0) (pc' := 24) dX11_luck_23 (by decide) rfl ?_
  refine g_iconst (v := 1) (pc' := 25) dX11_luck_24 (by decide) rfl ?_
  refine g_callS (my := mX11_outside) (st := []) (av := [.int wh, .int 0, .int 1]) (mcr := 0) (msr := 0) (mc := 0) (ms := 0) (pc' := 28) dX11_luck_25 kX11_outside wX11_71 rfl (Nat.le_of_ble_eq_true rfl) (by decide) (s_out1 (h2)) rfl ?_
  rintro _ _ ⟨rfl, rfl⟩
  show Go mX11_luck _ _ _ 28 [(0, .ref 0), (1, .int (nI m)), (2, .int (-4)), (3, .int wh)] [.int 1] (SK, M, N) _
  refine g_if_eq (tgt := 33) (pc' := 31) dX11_luck_28 (by decide) rfl (fun hc => absurd hc (by decide)) (fun _ => ?_)
  refine g_iconst (v := (-1)) (pc' := 32) dX11_luck_31 (by decide) rfl ?_
  exact g_iret dX11_luck_32 rfl rfl (CQ.same hI)
set_option maxRecDepth 100000 in
set_option maxHeartbeats 1000000 in
theorem c_luck_b4 {M : Nat → Nat → Int32} {N : Nat → Nat → Int64} {n k : Nat} {P : Nat → Int32} {pa : List (Nat → Int32)} {kp : Option YS} {tp : List Int32} {sh : Nat → Option (Nat × Nat × (Nat → Int64))} (hA : AOk ((n, k, P, pa), kp, tp, sh)) (hI : CI M N ((n, k, P, pa), kp, tp, sh)) {m i : Nat} {wh : Int32} (hm : m < n) (hi : i < k) (h2 : wh < 0 ∨ 1 < wh) : Run mX11_luck 30 0 0 [.ref 0, .int (nI m), .int (nI i), .int wh] (SK, M, N) (CQ M N (-1) ((n, k, P, pa), kp, tp, sh)) := by
  refine Run.of (by decide) (Nat.le_of_ble_eq_true rfl) ?_
  have hok : OkP n k P := hA.1.1.1
  have hc0 : IsC M 14 n k P := hI.1.1
  have hn6 := hok.1
  have hk6 := hok.2.1
  refine g_aload_n (j := 0) (pc' := 1) dX11_luck_0 rfl rfl ?_
  refine g_iload_n (j := 1) (pc' := 2) dX11_luck_1 rfl rfl ?_
  refine g_callV (my := mX11_noMan) (k := 0) (st := []) (av := [.int (nI m)]) (mcr := 0) (msr := 0) (mc := 0) (ms := 0) (pc' := 5) dX11_luck_2 kX11_noMan wX11_93 rfl ⟨rfl, rfl⟩ rfl (Nat.le_of_ble_eq_true rfl) (by decide) (s_noMan0 hc0.1 hn6 (hm)) rfl ?_
  rintro _ _ ⟨rfl, rfl⟩
  show Go mX11_luck _ _ _ 5 [(0, .ref 0), (1, .int (nI m)), (2, .int (nI i)), (3, .int wh)] [.int 0] (SK, M, N) _
  refine g_if_ne (tgt := 31) (pc' := 8) dX11_luck_5 (by decide) rfl (fun hc => absurd rfl hc) (fun _ => ?_)
  refine g_iload_n (j := 2) (pc' := 9) dX11_luck_8 rfl rfl ?_
  refine g_bipush (v := (-4)) (pc' := 11) dX11_luck_9 (by decide) rfl ?_
  refine g_icmp_eq (tgt := 22) (pc' := 14) dX11_luck_11 (by decide) rfl (fun hc => (absurd hc (nI_ne_m4 (by omega)))) (fun hc => ?_)
  refine g_aload_n (j := 0) (pc' := 15) dX11_luck_14 rfl rfl ?_
  refine g_iload_n (j := 2) (pc' := 16) dX11_luck_15 rfl rfl ?_
  refine g_callV (my := mX11_noName) (k := 0) (st := []) (av := [.int (nI i)]) (mcr := 0) (msr := 0) (mc := 0) (ms := 0) (pc' := 19) dX11_luck_16 kX11_noName wX11_128 rfl ⟨rfl, rfl⟩ rfl (Nat.le_of_ble_eq_true rfl) (by decide) (s_noName0 hc0.2.1 hk6 (hi)) rfl ?_
  rintro _ _ ⟨rfl, rfl⟩
  show Go mX11_luck _ _ _ 19 [(0, .ref 0), (1, .int (nI m)), (2, .int (nI i)), (3, .int wh)] [.int 0] (SK, M, N) _
  refine g_if_ne (tgt := 31) (pc' := 22) dX11_luck_19 (by decide) rfl (fun hc => absurd rfl hc) (fun _ => ?_)
  refine g_iload_n (j := 3) (pc' := 23) dX11_luck_22 rfl rfl ?_
  refine g_iconst (v := 0) (pc' := 24) dX11_luck_23 (by decide) rfl ?_
  refine g_iconst (v := 1) (pc' := 25) dX11_luck_24 (by decide) rfl ?_
  refine g_callS (my := mX11_outside) (st := []) (av := [.int wh, .int 0, .int 1]) (mcr := 0) (msr := 0) (mc := 0) (ms := 0) (pc' := 28) dX11_luck_25 kX11_outside wX11_71 rfl (Nat.le_of_ble_eq_true rfl) (by decide) (s_out1 (h2)) rfl ?_
  rintro _ _ ⟨rfl, rfl⟩
  show Go mX11_luck _ _ _ 28 [(0, .ref 0), (1, .int (nI m)), (2, .int (nI i)), (3, .int wh)] [.int 1] (SK, M, N) _
  refine g_if_eq (tgt := 33) (pc' := 31) dX11_luck_28 (by decide) rfl (fun hc => absurd hc (by decide)) (fun _ => ?_)
  refine g_iconst (v := (-1)) (pc' := 32) dX11_luck_31 (by decide) rfl ?_
  exact g_iret dX11_luck_32 rfl rfl (CQ.same hI)
set_option maxRecDepth 100000 in
set_option maxHeartbeats 1000000 in
theorem c_luck_n {M : Nat → Nat → Int32} {N : Nat → Nat → Int64} {n k : Nat} {P : Nat → Int32} {pa : List (Nat → Int32)} {kp : Option YS} {tp : List Int32} {sh : Nat → Option (Nat × Nat × (Nat → Int64))} (hA : AOk ((n, k, P, pa), kp, tp, sh)) (hI : CI M N ((n, k, P, pa), kp, tp, sh)) {m s : Nat} {wh : Int32} (hm : m < n) (h2 : ¬ (wh < 0 ∨ 1 < wh)) (hs2 : P 2 = nI s) (hs : s ≤ 20) (hW : wF P k m none (evL (offN P (nI s)) n 38) 0 0 ≤ 729) : Run mX11_luck 30 0 0 [.ref 0, .int (nI m), .int (-4), .int wh] (SK, M, N) (CQ M N (if wh = 0 then nI (rdc n (wF P k m none (evL (offN P (nI s)) n 38) 0 0) (3 ^ n)).1 else nI (rdc n (wF P k m none (evL (offN P (nI s)) n 38) 0 0) (3 ^ n)).2) ((n, k, P, pa), kp, tp, sh)) := by
  refine Run.of (by decide) (Nat.le_of_ble_eq_true rfl) ?_
  have hok : OkP n k P := hA.1.1.1
  have hc0 : IsC M 14 n k P := hI.1.1
  have hn6 := hok.1
  have hk6 := hok.2.1
  refine g_aload_n (j := 0) (pc' := 1) dX11_luck_0 rfl rfl ?_
  refine g_iload_n (j := 1) (pc' := 2) dX11_luck_1 rfl rfl ?_
  refine g_callV (my := mX11_noMan) (k := 0) (st := []) (av := [.int (nI m)]) (mcr := 0) (msr := 0) (mc := 0) (ms := 0) (pc' := 5) dX11_luck_2 kX11_noMan wX11_93 rfl ⟨rfl, rfl⟩ rfl (Nat.le_of_ble_eq_true rfl) (by decide) (s_noMan0 hc0.1 hn6 (hm)) rfl ?_
  rintro _ _ ⟨rfl, rfl⟩
  show Go mX11_luck _ _ _ 5 [(0, .ref 0), (1, .int (nI m)), (2, .int (-4)), (3, .int wh)] [.int 0] (SK, M, N) _
  refine g_if_ne (tgt := 31) (pc' := 8) dX11_luck_5 (by decide) rfl (fun hc => absurd rfl hc) (fun _ => ?_)
  refine g_iload_n (j := 2) (pc' := 9) dX11_luck_8 rfl rfl ?_
  refine g_bipush (v := (-4)) (pc' := 11) dX11_luck_9 (by decide) rfl ?_
  refine g_icmp_eq (tgt := 22) (pc' := 14) dX11_luck_11 (by decide) rfl (fun hc => ?_) (fun hc => (absurd rfl hc))
  refine g_iload_n (j := 3) (pc' := 23) dX11_luck_22 rfl rfl ?_
  refine g_iconst (v := 0) (pc' := 24) dX11_luck_23 (by decide) rfl ?_
  refine g_iconst (v := 1) (pc' := 25) dX11_luck_24 (by decide) rfl ?_
  refine g_callS (my := mX11_outside) (st := []) (av := [.int wh, .int 0, .int 1]) (mcr := 0) (msr := 0) (mc := 0) (ms := 0) (pc' := 28) dX11_luck_25 kX11_outside wX11_71 rfl (Nat.le_of_ble_eq_true rfl) (by decide) (s_out0 (h2)) rfl ?_
  rintro _ _ ⟨rfl, rfl⟩
  show Go mX11_luck _ _ _ 28 [(0, .ref 0), (1, .int (nI m)), (2, .int (-4)), (3, .int wh)] [.int 0] (SK, M, N) _
  refine g_if_eq (tgt := 33) (pc' := 31) dX11_luck_28 (by decide) rfl (fun _ => ?_) (fun hc => absurd rfl hc)
  refine g_aload_n (j := 0) (pc' := 34) dX11_luck_33 rfl rfl ?_
  refine g_getR (pc' := 37) dX11_luck_34 fX11_21 rfl rfl rfl ?_
  refine g_aload_n (j := 0) (pc' := 38) dX11_luck_37 rfl rfl ?_
  refine g_getR (pc' := 41) dX11_luck_38 fX11_28 rfl rfl rfl ?_
  refine g_iload_n (j := 1) (pc' := 42) dX11_luck_41 rfl rfl ?_
  refine g_iload_n (j := 2) (pc' := 43) dX11_luck_42 rfl rfl ?_
  refine g_bipush (v := (-4)) (pc' := 45) dX11_luck_43 (by decide) rfl ?_
  refine g_icmp_ne (tgt := 52) (pc' := 48) dX11_luck_45 (by decide) rfl (fun hc => (absurd rfl hc)) (fun hc => ?_)
  refine g_iconst (v := (-1)) (pc' := 49) dX11_luck_48 (by decide) rfl ?_
  refine g_goto (tgt := 53) dX11_luck_49 (by decide) ?_
  refine g_callV (my := mX3_waysOf) (k := 11) (st := []) (av := [.ref 14, .int (nI m), .int (-1)]) (mcr := 0) (msr := 0) (mc := 0) (ms := 0) (pc' := 56) dX11_luck_53 kX3_waysOf wX11_222 rfl ⟨rfl, rfl⟩ rfl (Nat.le_of_ble_eq_true rfl) (by decide) (s_waysOf hok hc0 hs2 hs hm (nm := none) (fun j hj => by cases hj)) rfl ?_
  rintro _ _ ⟨M1, rfl, rfl, hf1⟩
  show Go mX11_luck _ _ _ 56 [(0, .ref 0), (1, .int (nI m)), (2, .int (-4)), (3, .int wh)] [.int (nI (wF P k m none (evL (offN P (nI s)) n 38) 0 0))] (SK, M1, N) _
  generalize wF P k m none (evL (offN P (nI s)) n 38) 0 0 = W at hW ⊢
  have hc1 : IsC M1 14 n k P := hc0.keep (fun a a1 a2 => hf1 a (by omega) (by omega) (by omega))
  refine g_istore (L' := [(0, .ref 0), (1, .int (nI m)), (2, .int (-4)), (3, .int wh), (4, .int (nI W))]) (pc' := 58) dX11_luck_56 (by decide) rfl rfl ?_
  refine g_aload_n (j := 0) (pc' := 59) dX11_luck_58 rfl rfl ?_
  refine g_getR (pc' := 62) dX11_luck_59 fX11_21 rfl rfl rfl ?_
  refine g_aload_n (j := 0) (pc' := 63) dX11_luck_62 rfl rfl ?_
  refine g_getR (pc' := 66) dX11_luck_63 fX11_28 rfl rfl rfl ?_
  refine g_getI (pc' := 69) dX11_luck_66 fX11_75 rfl rfl rfl ?_
  refine g_top (y := nI n) (hc1.1) ?_
  refine g_callV (my := mX3_all) (k := 11) (st := []) (av := [.int (nI n)]) (mcr := 0) (msr := 0) (mc := 0) (ms := 0) (pc' := 72) dX11_luck_69 kX3_all wX11_225 rfl ⟨rfl, rfl⟩ rfl (Nat.le_of_ble_eq_true rfl) (by decide) (s_all hn6) rfl ?_
  rintro _ _ ⟨rfl, rfl⟩
  show Go mX11_luck _ _ _ 72 [(0, .ref 0), (1, .int (nI m)), (2, .int (-4)), (3, .int wh), (4, .int (nI W))] [.int (nI (3 ^ n))] (SK, M1, N) _
  have h3n : 3 ^ n ≤ 729 := Nat.pow_le_pow_right (n := 3) (by omega) hn6
  generalize 3 ^ n = A3 at h3n ⊢
  refine g_istore (L' := [(0, .ref 0), (1, .int (nI m)), (2, .int (-4)), (3, .int wh), (4, .int (nI W)), (5, .int (nI A3))]) (pc' := 74) dX11_luck_72 (by decide) rfl rfl ?_
  refine g_iconst (v := 0) (pc' := 75) dX11_luck_74 (by decide) rfl ?_
  refine g_istore (L' := [(0, .ref 0), (1, .int (nI m)), (2, .int (-4)), (3, .int wh), (4, .int (nI W)), (5, .int (nI A3)), (6, .int 0)]) (pc' := 77) dX11_luck_75 (by decide) rfl rfl ?_
  have loop : ∀ (j i6 W A3 : Nat), i6 + j = n → W ≤ 729 → A3 ≤ 729 → Go mX11_luck 30 0 0 77 [(0, .ref 0), (1, .int (nI m)), (2, .int (-4)), (3, .int wh), (4, .int (nI W)), (5, .int (nI A3)), (6, .int (nI i6))] [] (SK, M1, N) (CQ M N (if wh = 0 then nI (rdc j W A3).1 else nI (rdc j W A3).2) ((n, k, P, pa), kp, tp, sh)) := by
    intro j
    induction j with
    | zero =>
      intro i6 W A3 hij hW hA3
      refine g_iload (j := 6) (pc' := 79) dX11_luck_77 rfl rfl ?_
      refine g_aload_n (j := 0) (pc' := 80) dX11_luck_79 rfl rfl ?_
      refine g_getR (pc' := 83) dX11_luck_80 fX11_28 rfl rfl rfl ?_
      refine g_getI (pc' := 86) dX11_luck_83 fX11_75 rfl rfl rfl ?_
      refine g_top (y := nI n) (hc1.1) ?_
      refine g_icmp_ge (tgt := 114) (pc' := 89) dX11_luck_86 (by decide) rfl (fun hc => ?_) (fun hc => (absurd (nI_le (a := n) (b := i6) (by omega) (by omega)) hc))
      unfold rdc
      refine g_iload_n (j := 3) (pc' := 115) dX11_luck_114 rfl rfl ?_
      refine g_if_ne (tgt := 123) (pc' := 118) dX11_luck_115 (by decide) rfl (fun hc9 => ?_) (fun hc9 => ?_)
      · rw [if_neg hc9]
        refine g_iload (j := 5) (pc' := 125) dX11_luck_123 rfl rfl ?_
        exact g_iret dX11_luck_125 rfl rfl (CQ.tmp hI (fun a ta => by unfold tmpC at ta; exact hf1 a (by omega) (by omega) (by omega)))
      · rw [if_pos hc9]
        refine g_iload (j := 4) (pc' := 120) dX11_luck_118 rfl rfl ?_
        refine g_goto (tgt := 125) dX11_luck_120 (by decide) ?_
        exact g_iret dX11_luck_125 rfl rfl (CQ.tmp hI (fun a ta => by unfold tmpC at ta; exact hf1 a (by omega) (by omega) (by omega)))
    | succ j ih =>
      intro i6 W A3 hij hW hA3
      refine g_iload (j := 6) (pc' := 79) dX11_luck_77 rfl rfl ?_
      refine g_aload_n (j := 0) (pc' := 80) dX11_luck_79 rfl rfl ?_
      refine g_getR (pc' := 83) dX11_luck_80 fX11_28 rfl rfl rfl ?_
      refine g_getI (pc' := 86) dX11_luck_83 fX11_75 rfl rfl rfl ?_
      refine g_top (y := nI n) (hc1.1) ?_
      refine g_icmp_ge (tgt := 114) (pc' := 89) dX11_luck_86 (by decide) rfl (fun hc => (absurd hc (nI_ge (a := i6) (b := n) (by omega) (by omega)))) (fun hc => ?_)
      refine g_iload (j := 4) (pc' := 91) dX11_luck_89 rfl rfl ?_
      refine g_iconst (v := 3) (pc' := 92) dX11_luck_91 (by decide) rfl ?_
      refine g_irem (pc' := 93) dX11_luck_92 (by decide) rfl ?_
      refine g_top (y := nI (W % 3)) (rem3 (by omega)) ?_
      refine g_if_ne (tgt := 114) (pc' := 96) dX11_luck_93 (by decide) rfl (fun hc5 => ?_) (fun hc5 => ?_)
      · rw [show rdc (j + 1) W A3 = (W, A3) by unfold rdc; exact if_neg (fun q => hc5 (by rw [q]; rfl))]
        refine g_iload_n (j := 3) (pc' := 115) dX11_luck_114 rfl rfl ?_
        refine g_if_ne (tgt := 123) (pc' := 118) dX11_luck_115 (by decide) rfl (fun hc9 => ?_) (fun hc9 => ?_)
        · rw [if_neg hc9]
          refine g_iload (j := 5) (pc' := 125) dX11_luck_123 rfl rfl ?_
          exact g_iret dX11_luck_125 rfl rfl (CQ.tmp hI (fun a ta => by unfold tmpC at ta; exact hf1 a (by omega) (by omega) (by omega)))
        · rw [if_pos hc9]
          refine g_iload (j := 4) (pc' := 120) dX11_luck_118 rfl rfl ?_
          refine g_goto (tgt := 125) dX11_luck_120 (by decide) ?_
          exact g_iret dX11_luck_125 rfl rfl (CQ.tmp hI (fun a ta => by unfold tmpC at ta; exact hf1 a (by omega) (by omega) (by omega)))
      · rw [show rdc (j + 1) W A3 = rdc j (W / 3) (A3 / 3) by rw [rdc]; exact if_pos ((nI_eq (b := 0) (by omega) (by omega)).mp hc5)]
        refine g_iload (j := 4) (pc' := 98) dX11_luck_96 rfl rfl ?_
        refine g_iconst (v := 3) (pc' := 99) dX11_luck_98 (by decide) rfl ?_
        refine g_idiv (pc' := 100) dX11_luck_99 (by decide) rfl ?_
        refine g_top (y := nI (W / 3)) (div3 (by omega)) ?_
        refine g_istore (L' := [(0, .ref 0), (1, .int (nI m)), (2, .int (-4)), (3, .int wh), (4, .int (nI (W / 3))), (5, .int (nI A3)), (6, .int (nI i6))]) (pc' := 102) dX11_luck_100 (by decide) rfl rfl ?_
        refine g_iload (j := 5) (pc' := 104) dX11_luck_102 rfl rfl ?_
        refine g_iconst (v := 3) (pc' := 105) dX11_luck_104 (by decide) rfl ?_
        refine g_idiv (pc' := 106) dX11_luck_105 (by decide) rfl ?_
        refine g_top (y := nI (A3 / 3)) (div3 (by omega)) ?_
        refine g_istore (L' := [(0, .ref 0), (1, .int (nI m)), (2, .int (-4)), (3, .int wh), (4, .int (nI (W / 3))), (5, .int (nI (A3 / 3))), (6, .int (nI i6))]) (pc' := 108) dX11_luck_106 (by decide) rfl rfl ?_
        refine g_iinc (j := 6) (v := nI (i6 + 1)) (L' := [(0, .ref 0), (1, .int (nI m)), (2, .int (-4)), (3, .int wh), (4, .int (nI (W / 3))), (5, .int (nI (A3 / 3))), (6, .int (nI (i6 + 1)))]) (pc' := 111) dX11_luck_108 rfl (nI_1 i6) (by decide) rfl rfl ?_
        refine g_goto (tgt := 77) dX11_luck_111 (by decide) ?_
        exact ih (i6 + 1) (W / 3) (A3 / 3) (by omega) (by omega) (by omega)
  exact loop n 0 W A3 (by omega) hW h3n
set_option maxRecDepth 100000 in
set_option maxHeartbeats 1000000 in
theorem c_luck {M : Nat → Nat → Int32} {N : Nat → Nat → Int64} {n k : Nat} {P : Nat → Int32} {pa : List (Nat → Int32)} {kp : Option YS} {tp : List Int32} {sh : Nat → Option (Nat × Nat × (Nat → Int64))} (hA : AOk ((n, k, P, pa), kp, tp, sh)) (hI : CI M N ((n, k, P, pa), kp, tp, sh)) {m i s : Nat} {wh : Int32} (hm : m < n) (hi : i < k) (h2 : ¬ (wh < 0 ∨ 1 < wh)) (hs2 : P 2 = nI s) (hs : s ≤ 20) (hW : wF P k m (some i) (evL (offN P (nI s)) n 38) 0 0 ≤ 729) : Run mX11_luck 30 0 0 [.ref 0, .int (nI m), .int (nI i), .int wh] (SK, M, N) (CQ M N (if wh = 0 then nI (rdc n (wF P k m (some i) (evL (offN P (nI s)) n 38) 0 0) (3 ^ n)).1 else nI (rdc n (wF P k m (some i) (evL (offN P (nI s)) n 38) 0 0) (3 ^ n)).2) ((n, k, P, pa), kp, tp, sh)) := by
  refine Run.of (by decide) (Nat.le_of_ble_eq_true rfl) ?_
  have hok : OkP n k P := hA.1.1.1
  have hc0 : IsC M 14 n k P := hI.1.1
  have hn6 := hok.1
  have hk6 := hok.2.1
  refine g_aload_n (j := 0) (pc' := 1) dX11_luck_0 rfl rfl ?_
  refine g_iload_n (j := 1) (pc' := 2) dX11_luck_1 rfl rfl ?_
  refine g_callV (my := mX11_noMan) (k := 0) (st := []) (av := [.int (nI m)]) (mcr := 0) (msr := 0) (mc := 0) (ms := 0) (pc' := 5) dX11_luck_2 kX11_noMan wX11_93 rfl ⟨rfl, rfl⟩ rfl (Nat.le_of_ble_eq_true rfl) (by decide) (s_noMan0 hc0.1 hn6 (hm)) rfl ?_
  rintro _ _ ⟨rfl, rfl⟩
  show Go mX11_luck _ _ _ 5 [(0, .ref 0), (1, .int (nI m)), (2, .int (nI i)), (3, .int wh)] [.int 0] (SK, M, N) _
  refine g_if_ne (tgt := 31) (pc' := 8) dX11_luck_5 (by decide) rfl (fun hc => absurd rfl hc) (fun _ => ?_)
  refine g_iload_n (j := 2) (pc' := 9) dX11_luck_8 rfl rfl ?_
  refine g_bipush (v := (-4)) (pc' := 11) dX11_luck_9 (by decide) rfl ?_
  refine g_icmp_eq (tgt := 22) (pc' := 14) dX11_luck_11 (by decide) rfl (fun hc => (absurd hc (nI_ne_m4 (by omega)))) (fun hc => ?_)
  refine g_aload_n (j := 0) (pc' := 15) dX11_luck_14 rfl rfl ?_
  refine g_iload_n (j := 2) (pc' := 16) dX11_luck_15 rfl rfl ?_
  refine g_callV (my := mX11_noName) (k := 0) (st := []) (av := [.int (nI i)]) (mcr := 0) (msr := 0) (mc := 0) (ms := 0) (pc' := 19) dX11_luck_16 kX11_noName wX11_128 rfl ⟨rfl, rfl⟩ rfl (Nat.le_of_ble_eq_true rfl) (by decide) (s_noName0 hc0.2.1 hk6 (hi)) rfl ?_
  rintro _ _ ⟨rfl, rfl⟩
  show Go mX11_luck _ _ _ 19 [(0, .ref 0), (1, .int (nI m)), (2, .int (nI i)), (3, .int wh)] [.int 0] (SK, M, N) _
  refine g_if_ne (tgt := 31) (pc' := 22) dX11_luck_19 (by decide) rfl (fun hc => absurd rfl hc) (fun _ => ?_)
  refine g_iload_n (j := 3) (pc' := 23) dX11_luck_22 rfl rfl ?_
  refine g_iconst (v := 0) (pc' := 24) dX11_luck_23 (by decide) rfl ?_
  refine g_iconst (v := 1) (pc' := 25) dX11_luck_24 (by decide) rfl ?_
  refine g_callS (my := mX11_outside) (st := []) (av := [.int wh, .int 0, .int 1]) (mcr := 0) (msr := 0) (mc := 0) (ms := 0) (pc' := 28) dX11_luck_25 kX11_outside wX11_71 rfl (Nat.le_of_ble_eq_true rfl) (by decide) (s_out0 (h2)) rfl ?_
  rintro _ _ ⟨rfl, rfl⟩
  show Go mX11_luck _ _ _ 28 [(0, .ref 0), (1, .int (nI m)), (2, .int (nI i)), (3, .int wh)] [.int 0] (SK, M, N) _
  refine g_if_eq (tgt := 33) (pc' := 31) dX11_luck_28 (by decide) rfl (fun _ => ?_) (fun hc => absurd rfl hc)
  refine g_aload_n (j := 0) (pc' := 34) dX11_luck_33 rfl rfl ?_
  refine g_getR (pc' := 37) dX11_luck_34 fX11_21 rfl rfl rfl ?_
  refine g_aload_n (j := 0) (pc' := 38) dX11_luck_37 rfl rfl ?_
  refine g_getR (pc' := 41) dX11_luck_38 fX11_28 rfl rfl rfl ?_
  refine g_iload_n (j := 1) (pc' := 42) dX11_luck_41 rfl rfl ?_
  refine g_iload_n (j := 2) (pc' := 43) dX11_luck_42 rfl rfl ?_
  refine g_bipush (v := (-4)) (pc' := 45) dX11_luck_43 (by decide) rfl ?_
  refine g_icmp_ne (tgt := 52) (pc' := 48) dX11_luck_45 (by decide) rfl (fun hc => ?_) (fun hc => (absurd hc (nI_ne_m4 (by omega))))
  refine g_iload_n (j := 2) (pc' := 53) dX11_luck_52 rfl rfl ?_
  refine g_callV (my := mX3_waysOf) (k := 11) (st := []) (av := [.ref 14, .int (nI m), .int (nI i)]) (mcr := 0) (msr := 0) (mc := 0) (ms := 0) (pc' := 56) dX11_luck_53 kX3_waysOf wX11_222 rfl ⟨rfl, rfl⟩ rfl (Nat.le_of_ble_eq_true rfl) (by decide) (s_waysOf hok hc0 hs2 hs hm (nm := some i) (fun j hj => by cases hj; exact hi)) rfl ?_
  rintro _ _ ⟨M1, rfl, rfl, hf1⟩
  show Go mX11_luck _ _ _ 56 [(0, .ref 0), (1, .int (nI m)), (2, .int (nI i)), (3, .int wh)] [.int (nI (wF P k m (some i) (evL (offN P (nI s)) n 38) 0 0))] (SK, M1, N) _
  generalize wF P k m (some i) (evL (offN P (nI s)) n 38) 0 0 = W at hW ⊢
  have hc1 : IsC M1 14 n k P := hc0.keep (fun a a1 a2 => hf1 a (by omega) (by omega) (by omega))
  refine g_istore (L' := [(0, .ref 0), (1, .int (nI m)), (2, .int (nI i)), (3, .int wh), (4, .int (nI W))]) (pc' := 58) dX11_luck_56 (by decide) rfl rfl ?_
  refine g_aload_n (j := 0) (pc' := 59) dX11_luck_58 rfl rfl ?_
  refine g_getR (pc' := 62) dX11_luck_59 fX11_21 rfl rfl rfl ?_
  refine g_aload_n (j := 0) (pc' := 63) dX11_luck_62 rfl rfl ?_
  refine g_getR (pc' := 66) dX11_luck_63 fX11_28 rfl rfl rfl ?_
  refine g_getI (pc' := 69) dX11_luck_66 fX11_75 rfl rfl rfl ?_
  refine g_top (y := nI n) (hc1.1) ?_
  refine g_callV (my := mX3_all) (k := 11) (st := []) (av := [.int (nI n)]) (mcr := 0) (msr := 0) (mc := 0) (ms := 0) (pc' := 72) dX11_luck_69 kX3_all wX11_225 rfl ⟨rfl, rfl⟩ rfl (Nat.le_of_ble_eq_true rfl) (by decide) (s_all hn6) rfl ?_
  rintro _ _ ⟨rfl, rfl⟩
  show Go mX11_luck _ _ _ 72 [(0, .ref 0), (1, .int (nI m)), (2, .int (nI i)), (3, .int wh), (4, .int (nI W))] [.int (nI (3 ^ n))] (SK, M1, N) _
  have h3n : 3 ^ n ≤ 729 := Nat.pow_le_pow_right (n := 3) (by omega) hn6
  generalize 3 ^ n = A3 at h3n ⊢
  refine g_istore (L' := [(0, .ref 0), (1, .int (nI m)), (2, .int (nI i)), (3, .int wh), (4, .int (nI W)), (5, .int (nI A3))]) (pc' := 74) dX11_luck_72 (by decide) rfl rfl ?_
  refine g_iconst (v := 0) (pc' := 75) dX11_luck_74 (by decide) rfl ?_
  refine g_istore (L' := [(0, .ref 0), (1, .int (nI m)), (2, .int (nI i)), (3, .int wh), (4, .int (nI W)), (5, .int (nI A3)), (6, .int 0)]) (pc' := 77) dX11_luck_75 (by decide) rfl rfl ?_
  have loop : ∀ (j i6 W A3 : Nat), i6 + j = n → W ≤ 729 → A3 ≤ 729 → Go mX11_luck 30 0 0 77 [(0, .ref 0), (1, .int (nI m)), (2, .int (nI i)), (3, .int wh), (4, .int (nI W)), (5, .int (nI A3)), (6, .int (nI i6))] [] (SK, M1, N) (CQ M N (if wh = 0 then nI (rdc j W A3).1 else nI (rdc j W A3).2) ((n, k, P, pa), kp, tp, sh)) := by
    intro j
    induction j with
    | zero =>
      intro i6 W A3 hij hW hA3
      refine g_iload (j := 6) (pc' := 79) dX11_luck_77 rfl rfl ?_
      refine g_aload_n (j := 0) (pc' := 80) dX11_luck_79 rfl rfl ?_
      refine g_getR (pc' := 83) dX11_luck_80 fX11_28 rfl rfl rfl ?_
      refine g_getI (pc' := 86) dX11_luck_83 fX11_75 rfl rfl rfl ?_
      refine g_top (y := nI n) (hc1.1) ?_
      refine g_icmp_ge (tgt := 114) (pc' := 89) dX11_luck_86 (by decide) rfl (fun hc => ?_) (fun hc => (absurd (nI_le (a := n) (b := i6) (by omega) (by omega)) hc))
      unfold rdc
      refine g_iload_n (j := 3) (pc' := 115) dX11_luck_114 rfl rfl ?_
      refine g_if_ne (tgt := 123) (pc' := 118) dX11_luck_115 (by decide) rfl (fun hc9 => ?_) (fun hc9 => ?_)
      · rw [if_neg hc9]
        refine g_iload (j := 5) (pc' := 125) dX11_luck_123 rfl rfl ?_
        exact g_iret dX11_luck_125 rfl rfl (CQ.tmp hI (fun a ta => by unfold tmpC at ta; exact hf1 a (by omega) (by omega) (by omega)))
      · rw [if_pos hc9]
        refine g_iload (j := 4) (pc' := 120) dX11_luck_118 rfl rfl ?_
        refine g_goto (tgt := 125) dX11_luck_120 (by decide) ?_
        exact g_iret dX11_luck_125 rfl rfl (CQ.tmp hI (fun a ta => by unfold tmpC at ta; exact hf1 a (by omega) (by omega) (by omega)))
    | succ j ih =>
      intro i6 W A3 hij hW hA3
      refine g_iload (j := 6) (pc' := 79) dX11_luck_77 rfl rfl ?_
      refine g_aload_n (j := 0) (pc' := 80) dX11_luck_79 rfl rfl ?_
      refine g_getR (pc' := 83) dX11_luck_80 fX11_28 rfl rfl rfl ?_
      refine g_getI (pc' := 86) dX11_luck_83 fX11_75 rfl rfl rfl ?_
      refine g_top (y := nI n) (hc1.1) ?_
      refine g_icmp_ge (tgt := 114) (pc' := 89) dX11_luck_86 (by decide) rfl (fun hc => (absurd hc (nI_ge (a := i6) (b := n) (by omega) (by omega)))) (fun hc => ?_)
      refine g_iload (j := 4) (pc' := 91) dX11_luck_89 rfl rfl ?_
      refine g_iconst (v := 3) (pc' := 92) dX11_luck_91 (by decide) rfl ?_
      refine g_irem (pc' := 93) dX11_luck_92 (by decide) rfl ?_
      refine g_top (y := nI (W % 3)) (rem3 (by omega)) ?_
      refine g_if_ne (tgt := 114) (pc' := 96) dX11_luck_93 (by decide) rfl (fun hc5 => ?_) (fun hc5 => ?_)
      · rw [show rdc (j + 1) W A3 = (W, A3) by unfold rdc; exact if_neg (fun q => hc5 (by rw [q]; rfl))]
        refine g_iload_n (j := 3) (pc' := 115) dX11_luck_114 rfl rfl ?_
        refine g_if_ne (tgt := 123) (pc' := 118) dX11_luck_115 (by decide) rfl (fun hc9 => ?_) (fun hc9 => ?_)
        · rw [if_neg hc9]
          refine g_iload (j := 5) (pc' := 125) dX11_luck_123 rfl rfl ?_
          exact g_iret dX11_luck_125 rfl rfl (CQ.tmp hI (fun a ta => by unfold tmpC at ta; exact hf1 a (by omega) (by omega) (by omega)))
        · rw [if_pos hc9]
          refine g_iload (j := 4) (pc' := 120) dX11_luck_118 rfl rfl ?_
          refine g_goto (tgt := 125) dX11_luck_120 (by decide) ?_
          exact g_iret dX11_luck_125 rfl rfl (CQ.tmp hI (fun a ta => by unfold tmpC at ta; exact hf1 a (by omega) (by omega) (by omega)))
      · rw [show rdc (j + 1) W A3 = rdc j (W / 3) (A3 / 3) by rw [rdc]; exact if_pos ((nI_eq (b := 0) (by omega) (by omega)).mp hc5)]
        refine g_iload (j := 4) (pc' := 98) dX11_luck_96 rfl rfl ?_
        refine g_iconst (v := 3) (pc' := 99) dX11_luck_98 (by decide) rfl ?_
        refine g_idiv (pc' := 100) dX11_luck_99 (by decide) rfl ?_
        refine g_top (y := nI (W / 3)) (div3 (by omega)) ?_
        refine g_istore (L' := [(0, .ref 0), (1, .int (nI m)), (2, .int (nI i)), (3, .int wh), (4, .int (nI (W / 3))), (5, .int (nI A3)), (6, .int (nI i6))]) (pc' := 102) dX11_luck_100 (by decide) rfl rfl ?_
        refine g_iload (j := 5) (pc' := 104) dX11_luck_102 rfl rfl ?_
        refine g_iconst (v := 3) (pc' := 105) dX11_luck_104 (by decide) rfl ?_
        refine g_idiv (pc' := 106) dX11_luck_105 (by decide) rfl ?_
        refine g_top (y := nI (A3 / 3)) (div3 (by omega)) ?_
        refine g_istore (L' := [(0, .ref 0), (1, .int (nI m)), (2, .int (nI i)), (3, .int wh), (4, .int (nI (W / 3))), (5, .int (nI (A3 / 3))), (6, .int (nI i6))]) (pc' := 108) dX11_luck_106 (by decide) rfl rfl ?_
        refine g_iinc (j := 6) (v := nI (i6 + 1)) (L' := [(0, .ref 0), (1, .int (nI m)), (2, .int (nI i)), (3, .int wh), (4, .int (nI (W / 3))), (5, .int (nI (A3 / 3))), (6, .int (nI (i6 + 1)))]) (pc' := 111) dX11_luck_108 rfl (nI_1 i6) (by decide) rfl rfl ?_
        refine g_goto (tgt := 77) dX11_luck_111 (by decide) ?_
        exact ih (i6 + 1) (W / 3) (A3 / 3) (by omega) (by omega) (by omega)
  exact loop n 0 W A3 (by omega) hW h3n
