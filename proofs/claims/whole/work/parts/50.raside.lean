set_option maxRecDepth 100000 in
set_option maxHeartbeats 1000000 in
theorem r_layAside {M : Nat → Nat → Int32} {N : Nat → Nat → Int64} {P : Nat → Int32} (hP : ∀ j, j < 47 → M 190 j = P j) : Run mX12_layAside 1 0 0 [.ref 189] (SK, M, N) (fun r h' => ∃ M', h' = (SK, M', N) ∧ r = none ∧ (∀ j, j < 47 → M' 191 j = P j) ∧ ∀ a, a ≠ 191 → M' a = M a) := by
  refine Run.of (by decide) (Nat.le_of_ble_eq_true rfl) ?_
  refine g_aload_n (j := 0) (pc' := 1) dX12_layAside_0 rfl rfl ?_
  refine g_getR (pc' := 4) dX12_layAside_1 fX12_7 rfl rfl rfl ?_
  refine g_iconst (v := 0) (pc' := 5) dX12_layAside_4 (by decide) rfl ?_
  refine g_aload_n (j := 0) (pc' := 6) dX12_layAside_5 rfl rfl ?_
  refine g_getR (pc' := 9) dX12_layAside_6 fX12_13 rfl rfl rfl ?_
  refine g_iconst (v := 0) (pc' := 10) dX12_layAside_9 (by decide) rfl ?_
  refine g_bipush (v := 47) (pc' := 12) dX12_layAside_10 (by decide) rfl ?_
  refine g_callS (my := mX12_copies) (st := []) (av := [.ref 190, .int 0, .ref 191, .int 0, .int 47]) (mcr := 0) (msr := 0) (mc := 0) (ms := 0) (pc' := 15) dX12_layAside_12 kX12_copies wX12_152 rfl (Nat.le_of_ble_eq_true rfl) (by decide) (s_copies (k0 := 190) (i := 0) (k1 := 191) (j := 0) (n := 47) rfl rfl (by omega) (by omega) (by omega)) rfl ?_
  rintro _ _ ⟨rfl, rfl⟩
  show Go mX12_layAside _ _ _ 15 [(0, .ref 189)] [] (SK, (cpy2 M 190 0 191 0 47), N) _
  exact g_vret dX12_layAside_15 rfl (⟨_, rfl, rfl, fun j hj => by rw [cpy2_in (by omega) (by omega), Nat.zero_add, Nat.sub_zero]; exact hP j hj, fun a ha => cpy2_ne ha⟩)
set_option maxRecDepth 100000 in
set_option maxHeartbeats 1000000 in
theorem r_go {M : Nat → Nat → Int32} {N : Nat → Nat → Int64} {n k s t : Nat} {P : Nat → Int32} (hok : OkP n k P) (ht : t < 1000) (h0 : ∀ j, j < 47 → M 191 j = foreP n k P s j) : Run mX12_go 11 0 0 [.ref 189, .int (nI t)] (SK, M, N) (fun r h' => ∃ M', h' = (SK, M', N) ∧ r = none ∧ (∀ j, j < 47 → M' 191 j = foreP n k P (s + t) j) ∧ ∀ a, a ≠ 191 → a ≠ 198 → a ≠ 199 → a ≠ 200 → M' a = M a) := by
  refine Run.of (by decide) (Nat.le_of_ble_eq_true rfl) ?_
  refine g_iconst (v := 0) (pc' := 1) dX12_go_0 (by decide) rfl ?_
  refine g_istore_n (L' := [(0, .ref 189), (1, .int (nI t)), (2, .int 0)]) (pc' := 2) dX12_go_1 (by decide) rfl rfl ?_
  have loop : ∀ (j i : Nat) (M1 : Nat → Nat → Int32), i + j = t → (∀ j, j < 47 → M1 191 j = foreP n k P (s + i) j) → (∀ a, a ≠ 191 → a ≠ 198 → a ≠ 199 → a ≠ 200 → M1 a = M a) → Go mX12_go 11 0 0 2 [(0, .ref 189), (1, .int (nI t)), (2, .int (nI i))] [] (SK, M1, N) (fun r h' => ∃ M', h' = (SK, M', N) ∧ r = none ∧ (∀ j, j < 47 → M' 191 j = foreP n k P (s + t) j) ∧ ∀ a, a ≠ 191 → a ≠ 198 → a ≠ 199 → a ≠ 200 → M' a = M a) := by
    intro j
    induction j with
    | zero =>
      intro i M1 hij h1 hf
      refine g_iload_n (j := 2) (pc' := 3) dX12_go_2 rfl rfl ?_
      refine g_iload_n (j := 1) (pc' := 4) dX12_go_3 rfl rfl ?_
      refine g_icmp_ge (tgt := 27) (pc' := 7) dX12_go_4 (by decide) rfl (fun hc => ?_) (fun hc => (absurd (nI_le (a := t) (b := i) (by omega) (by omega)) hc))
      obtain rfl : i = t := by omega
      exact g_vret dX12_go_27 rfl (⟨M1, rfl, rfl, h1, hf⟩)
    | succ j ih =>
      intro i M1 hij h1 hf
      refine g_iload_n (j := 2) (pc' := 3) dX12_go_2 rfl rfl ?_
      refine g_iload_n (j := 1) (pc' := 4) dX12_go_3 rfl rfl ?_
      refine g_icmp_ge (tgt := 27) (pc' := 7) dX12_go_4 (by decide) rfl (fun hc => (absurd hc (nI_ge (a := i) (b := t) (by omega) (by omega)))) (fun hc => ?_)
      refine g_aload_n (j := 0) (pc' := 8) dX12_go_7 rfl rfl ?_
      refine g_aload_n (j := 0) (pc' := 9) dX12_go_8 rfl rfl ?_
      refine g_getR (pc' := 12) dX12_go_9 fX12_13 rfl rfl rfl ?_
      refine g_aload_n (j := 0) (pc' := 13) dX12_go_12 rfl rfl ?_
      refine g_getR (pc' := 16) dX12_go_13 fX12_13 rfl rfl rfl ?_
      refine g_iconst (v := 2) (pc' := 17) dX12_go_16 (by decide) rfl ?_
      refine g_iald (n := 2) (pc' := 18) dX12_go_17 rfl rfl (by omega) rfl ?_
      refine g_top (y := P 2) ((h1 2 (by omega)).trans (foreP_2 hok _)) ?_
      refine g_callV (my := mX12_goes) (k := 189) (st := []) (av := [.ref 191, .int (P 2)]) (mcr := 0) (msr := 0) (mc := 0) (ms := 0) (pc' := 21) dX12_go_18 kX12_goes wX12_171 rfl ⟨rfl, rfl⟩ rfl (Nat.le_of_ble_eq_true rfl) (by decide) (r_goes (c := 191) rfl (by omega) (foreP_ok hok (s + i)) h1 (P 2)) rfl ?_
      rintro _ _ ⟨M2, rfl, rfl, h2, -, hf2⟩
      show Go mX12_go _ _ _ 21 [(0, .ref 189), (1, .int (nI t)), (2, .int (nI i))] [] (SK, M2, N) _
      refine g_iinc (j := 2) (v := nI (i + 1)) (L' := [(0, .ref 189), (1, .int (nI t)), (2, .int (nI (i + 1)))]) (pc' := 24) dX12_go_21 rfl (nI_1 i) (by decide) rfl rfl ?_
      refine g_goto (tgt := 2) dX12_go_24 (by decide) ?_
      exact ih (i + 1) M2 (by omega) h2 (fun a a1 a2 a3 a4 => by rw [hf2 a a1 a2 a3 a4]; exact hf a a1 a2 a3 a4)
  exact loop t 0 M (by omega) h0 (fun _ _ _ _ _ => rfl)
