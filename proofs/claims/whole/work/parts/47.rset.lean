set_option maxRecDepth 100000 in
set_option maxHeartbeats 1000000 in
theorem r_calledOf {M : Nat → Nat → Int32} {N : Nat → Nat → Int64} {n c : Nat} {P : Nat → Int32} (hs : SK[c]? = some (100, rep 352)) (h6 : n ≤ 6) (hn : M c 0 = nI n) (hP : ∀ j, j < 47 → M c j = P j) : Run mX12_calledOf 0 0 0 [.ref c] (SK, M, N) (fun r h' => h' = (SK, M, N) ∧ r = some (.int (cnt4 P n))) := by
  refine Run.of (by decide) (Nat.le_of_ble_eq_true rfl) ?_
  refine g_iconst (v := 0) (pc' := 1) dX12_calledOf_0 (by decide) rfl ?_
  refine g_istore_n (L' := [(0, .ref c), (1, .int 0)]) (pc' := 2) dX12_calledOf_1 (by decide) rfl rfl ?_
  refine g_iconst (v := 0) (pc' := 3) dX12_calledOf_2 (by decide) rfl ?_
  refine g_istore_n (L' := [(0, .ref c), (1, .int 0), (2, .int 0)]) (pc' := 4) dX12_calledOf_3 (by decide) rfl rfl ?_
  have loop : ∀ (j t : Nat), t + j = n → Go mX12_calledOf 0 0 0 4 [(0, .ref c), (1, .int (cnt4 P t)), (2, .int (nI t))] [] (SK, M, N) (fun r h' => h' = (SK, M, N) ∧ r = some (.int (cnt4 P n))) := by
    intro j
    induction j with
    | zero =>
      intro t ht
      refine g_iload_n (j := 2) (pc' := 5) dX12_calledOf_4 rfl rfl ?_
      refine g_aload_n (j := 0) (pc' := 6) dX12_calledOf_5 rfl rfl ?_
      refine g_iconst (v := 0) (pc' := 7) dX12_calledOf_6 (by decide) rfl ?_
      refine g_iald (n := 0) (pc' := 8) dX12_calledOf_7 hs rfl (by omega) rfl ?_
      refine g_top (y := nI n) (hn) ?_
      refine g_icmp_ge (tgt := 38) (pc' := 11) dX12_calledOf_8 (by decide) rfl (fun hc => ?_) (fun hc => (absurd (nI_le (a := n) (b := t) (by omega) (by omega)) hc))
      obtain rfl : t = n := by omega
      refine g_iload_n (j := 1) (pc' := 39) dX12_calledOf_38 rfl rfl ?_
      exact g_iret dX12_calledOf_39 rfl rfl (⟨rfl, rfl⟩)
    | succ j ih =>
      intro t ht
      refine g_iload_n (j := 2) (pc' := 5) dX12_calledOf_4 rfl rfl ?_
      refine g_aload_n (j := 0) (pc' := 6) dX12_calledOf_5 rfl rfl ?_
      refine g_iconst (v := 0) (pc' := 7) dX12_calledOf_6 (by decide) rfl ?_
      refine g_iald (n := 0) (pc' := 8) dX12_calledOf_7 hs rfl (by omega) rfl ?_
      refine g_top (y := nI n) (hn) ?_
      refine g_icmp_ge (tgt := 38) (pc' := 11) dX12_calledOf_8 (by decide) rfl (fun hc => (absurd hc (nI_ge (a := t) (b := n) (by omega) (by omega)))) (fun hc => ?_)
      have hnx := ih (t + 1) (by omega)
      refine g_iload_n (j := 1) (pc' := 12) dX12_calledOf_11 rfl rfl ?_
      refine g_aload_n (j := 0) (pc' := 13) dX12_calledOf_12 rfl rfl ?_
      refine g_bipush (v := 28) (pc' := 15) dX12_calledOf_13 (by decide) rfl ?_
      refine g_iload_n (j := 2) (pc' := 16) dX12_calledOf_15 rfl rfl ?_
      refine g_iadd (pc' := 17) dX12_calledOf_16 rfl ?_
      refine g_iald (n := 28 + t) (pc' := 18) dX12_calledOf_17 hs (nI_addE rfl rfl) (by omega) rfl ?_
      refine g_top (y := P (28 + t)) (hP _ (by omega)) ?_
      refine g_bipush (v := (-4)) (pc' := 20) dX12_calledOf_18 (by decide) rfl ?_
      refine g_icmp_ne (tgt := 27) (pc' := 23) dX12_calledOf_20 (by decide) rfl (fun hc5 => ?_) (fun hc5 => ?_)
      · rw [show cnt4 P (t + 1) = cnt4 P t ||| (1 : Int32) <<< (nI t &&& 31) by unfold cnt4; rw [setF, if_pos (decide_eq_true hc5)]] at hnx
        refine g_iconst (v := 1) (pc' := 28) dX12_calledOf_27 (by decide) rfl ?_
        refine g_iload_n (j := 2) (pc' := 29) dX12_calledOf_28 rfl rfl ?_
        refine g_ishl (pc' := 30) dX12_calledOf_29 rfl ?_
        refine g_ior (pc' := 31) dX12_calledOf_30 rfl ?_
        refine g_istore_n (L' := [(0, .ref c), (1, .int ((cnt4 P t) ||| (1 <<< ((nI t) &&& 31)))), (2, .int (nI t))]) (pc' := 32) dX12_calledOf_31 (by decide) rfl rfl ?_
        refine g_iinc (j := 2) (v := nI (t + 1)) (L' := [(0, .ref c), (1, .int ((cnt4 P t) ||| (1 <<< ((nI t) &&& 31)))), (2, .int (nI (t + 1)))]) (pc' := 35) dX12_calledOf_32 rfl (nI_1 t) (by decide) rfl rfl ?_
        refine g_goto (tgt := 4) dX12_calledOf_35 (by decide) ?_
        exact hnx
      · rw [show cnt4 P (t + 1) = cnt4 P t by unfold cnt4; rw [setF, if_neg (by rw [decide_eq_false (fun q => q hc5)]; decide)]] at hnx
        refine g_iconst (v := 0) (pc' := 24) dX12_calledOf_23 (by decide) rfl ?_
        refine g_goto (tgt := 30) dX12_calledOf_24 (by decide) ?_
        refine g_ior (pc' := 31) dX12_calledOf_30 rfl ?_
        refine g_top (y := cnt4 P t) (Int32.or_zero) ?_
        refine g_istore_n (L' := [(0, .ref c), (1, .int (cnt4 P t)), (2, .int (nI t))]) (pc' := 32) dX12_calledOf_31 (by decide) rfl rfl ?_
        refine g_iinc (j := 2) (v := nI (t + 1)) (L' := [(0, .ref c), (1, .int (cnt4 P t)), (2, .int (nI (t + 1)))]) (pc' := 35) dX12_calledOf_32 rfl (nI_1 t) (by decide) rfl rfl ?_
        refine g_goto (tgt := 4) dX12_calledOf_35 (by decide) ?_
        exact hnx
  exact loop n 0 (by omega)
set_option maxRecDepth 100000 in
set_option maxHeartbeats 1000000 in
theorem r_sumOf {M : Nat → Nat → Int32} {N : Nat → Nat → Int64} {c f : Nat} {P : Nat → Int32} (hs : SK[c]? = some (100, rep 352)) (hf : f + 6 ≤ 47) (hP : ∀ j, j < 47 → M c j = P j) : Run mX12_sumOf 0 0 0 [.ref c, .int (nI f)] (SK, M, N) (fun r h' => h' = (SK, M, N) ∧ r = some (.int (sumF (fun i => P (f + i)) 6))) := by
  refine Run.of (by decide) (Nat.le_of_ble_eq_true rfl) ?_
  refine g_iconst (v := 0) (pc' := 1) dX12_sumOf_0 (by decide) rfl ?_
  refine g_istore_n (L' := [(0, .ref c), (1, .int (nI f)), (2, .int 0)]) (pc' := 2) dX12_sumOf_1 (by decide) rfl rfl ?_
  refine g_iconst (v := 0) (pc' := 3) dX12_sumOf_2 (by decide) rfl ?_
  refine g_istore_n (L' := [(0, .ref c), (1, .int (nI f)), (2, .int 0), (3, .int 0)]) (pc' := 4) dX12_sumOf_3 (by decide) rfl rfl ?_
  have loop : ∀ (j t : Nat), t + j = 6 → Go mX12_sumOf 0 0 0 4 [(0, .ref c), (1, .int (nI f)), (2, .int (sumF (fun i => P (f + i)) t)), (3, .int (nI t))] [] (SK, M, N) (fun r h' => h' = (SK, M, N) ∧ r = some (.int (sumF (fun i => P (f + i)) 6))) := by
    intro j
    induction j with
    | zero =>
      intro t ht
      refine g_iload_n (j := 3) (pc' := 5) dX12_sumOf_4 rfl rfl ?_
      refine g_bipush (v := 6) (pc' := 7) dX12_sumOf_5 (by decide) rfl ?_
      refine g_icmp_ge (tgt := 24) (pc' := 10) dX12_sumOf_7 (by decide) rfl (fun hc => ?_) (fun hc => (absurd (nI_le (a := 6) (b := t) (by omega) (by omega)) hc))
      obtain rfl : t = 6 := by omega
      refine g_iload_n (j := 2) (pc' := 25) dX12_sumOf_24 rfl rfl ?_
      exact g_iret dX12_sumOf_25 rfl rfl (⟨rfl, rfl⟩)
    | succ j ih =>
      intro t ht
      refine g_iload_n (j := 3) (pc' := 5) dX12_sumOf_4 rfl rfl ?_
      refine g_bipush (v := 6) (pc' := 7) dX12_sumOf_5 (by decide) rfl ?_
      refine g_icmp_ge (tgt := 24) (pc' := 10) dX12_sumOf_7 (by decide) rfl (fun hc => (absurd hc (nI_ge (a := t) (b := 6) (by omega) (by omega)))) (fun hc => ?_)
      refine g_iload_n (j := 2) (pc' := 11) dX12_sumOf_10 rfl rfl ?_
      refine g_aload_n (j := 0) (pc' := 12) dX12_sumOf_11 rfl rfl ?_
      refine g_iload_n (j := 1) (pc' := 13) dX12_sumOf_12 rfl rfl ?_
      refine g_iload_n (j := 3) (pc' := 14) dX12_sumOf_13 rfl rfl ?_
      refine g_iadd (pc' := 15) dX12_sumOf_14 rfl ?_
      refine g_iald (n := f + t) (pc' := 16) dX12_sumOf_15 hs (nI_addE rfl rfl) (by omega) rfl ?_
      refine g_top (y := P (f + t)) (hP _ (by omega)) ?_
      refine g_iadd (pc' := 17) dX12_sumOf_16 rfl ?_
      refine g_istore_n (L' := [(0, .ref c), (1, .int (nI f)), (2, .int ((sumF (fun i => P (f + i)) t) + (P (f + t)))), (3, .int (nI t))]) (pc' := 18) dX12_sumOf_17 (by decide) rfl rfl ?_
      refine g_iinc (j := 3) (v := nI (t + 1)) (L' := [(0, .ref c), (1, .int (nI f)), (2, .int ((sumF (fun i => P (f + i)) t) + (P (f + t)))), (3, .int (nI (t + 1)))]) (pc' := 21) dX12_sumOf_18 rfl (nI_1 t) (by decide) rfl rfl ?_
      refine g_goto (tgt := 4) dX12_sumOf_21 (by decide) ?_
      exact ih (t + 1) (by omega)
  exact loop 6 0 (by omega)
theorem sumF_zero {f : Nat → Int32} {k : Nat} : ∀ j, (∀ i, k ≤ i → i < k + j → f i = 0) → sumF f (k + j) = sumF f k
  | 0, _ => rfl
  | j + 1, h => by
    show sumF f (k + j) + f (k + j) = _
    rw [h (k + j) (by omega) (by omega), Int32.add_zero, sumF_zero j (fun i h1 h2 => h i h1 (by omega))]
theorem sum6 {n k : Nat} {P : Nat → Int32} (h : OkP n k P) : sumF (fun i => P (34 + i)) 6 = sumF (fun i => P (34 + i)) k ∧ sumF (fun i => P (40 + i)) 6 = sumF (fun i => P (40 + i)) k := by
  have hk := h.2.1
  have h8 := h.2.2.2.2.2.2.2
  have e : 6 = k + (6 - k) := by omega
  constructor
  · rw [e]; exact sumF_zero (6 - k) (fun i h1 h2 => (h8 i h1 (by omega)).1)
  · rw [e]; exact sumF_zero (6 - k) (fun i h1 h2 => (h8 i h1 (by omega)).2)
