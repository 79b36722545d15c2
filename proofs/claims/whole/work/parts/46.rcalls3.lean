set_option maxRecDepth 100000 in
set_option maxHeartbeats 1000000 in
theorem r_whoIs {M : Nat → Nat → Int32} {N : Nat → Nat → Int64} {n : Nat} {P : Nat → Int32} (v : Int32) (h6 : n ≤ 6) (hn : M 190 0 = nI n) (hP : ∀ j, j < 47 → M 190 j = P j) : Run mX12_whoIs 0 0 0 [.ref 189, .int v] (SK, M, N) (fun r h' => h' = (SK, M, N) ∧ r = some (.int (optI (-4) (firstIx (fun m => P (28 + m) == v) 0 n)))) := by
  refine Run.of (by decide) (Nat.le_of_ble_eq_true rfl) ?_
  refine g_iconst (v := 0) (pc' := 1) dX12_whoIs_0 (by decide) rfl ?_
  refine g_istore_n (L' := [(0, .ref 189), (1, .int v), (2, .int 0)]) (pc' := 2) dX12_whoIs_1 (by decide) rfl rfl ?_
  have loop : ∀ (j t : Nat), t + j = n → Go mX12_whoIs 0 0 0 2 [(0, .ref 189), (1, .int v), (2, .int (nI t))] [] (SK, M, N) (fun r h' => h' = (SK, M, N) ∧ r = some (.int (optI (-4) (firstIx (fun m => P (28 + m) == v) t j)))) := by
    intro j
    induction j with
    | zero =>
      intro t ht
      refine g_iload_n (j := 2) (pc' := 3) dX12_whoIs_2 rfl rfl ?_
      refine g_aload_n (j := 0) (pc' := 4) dX12_whoIs_3 rfl rfl ?_
      refine g_getR (pc' := 7) dX12_whoIs_4 fX12_7 rfl rfl rfl ?_
      refine g_iconst (v := 0) (pc' := 8) dX12_whoIs_7 (by decide) rfl ?_
      refine g_iald (n := 0) (pc' := 9) dX12_whoIs_8 rfl rfl (by omega) rfl ?_
      refine g_top (y := nI n) (hn) ?_
      refine g_icmp_ge (tgt := 33) (pc' := 12) dX12_whoIs_9 (by decide) rfl (fun hc => ?_) (fun hc => (absurd (nI_le (a := n) (b := t) (by omega) (by omega)) hc))
      refine g_bipush (v := (-4)) (pc' := 35) dX12_whoIs_33 (by decide) rfl ?_
      exact g_iret dX12_whoIs_35 rfl rfl (⟨rfl, rfl⟩)
    | succ j ih =>
      intro t ht
      refine g_iload_n (j := 2) (pc' := 3) dX12_whoIs_2 rfl rfl ?_
      refine g_aload_n (j := 0) (pc' := 4) dX12_whoIs_3 rfl rfl ?_
      refine g_getR (pc' := 7) dX12_whoIs_4 fX12_7 rfl rfl rfl ?_
      refine g_iconst (v := 0) (pc' := 8) dX12_whoIs_7 (by decide) rfl ?_
      refine g_iald (n := 0) (pc' := 9) dX12_whoIs_8 rfl rfl (by omega) rfl ?_
      refine g_top (y := nI n) (hn) ?_
      refine g_icmp_ge (tgt := 33) (pc' := 12) dX12_whoIs_9 (by decide) rfl (fun hc => (absurd hc (nI_ge (a := t) (b := n) (by omega) (by omega)))) (fun hc => ?_)
      refine g_aload_n (j := 0) (pc' := 13) dX12_whoIs_12 rfl rfl ?_
      refine g_getR (pc' := 16) dX12_whoIs_13 fX12_7 rfl rfl rfl ?_
      refine g_bipush (v := 28) (pc' := 18) dX12_whoIs_16 (by decide) rfl ?_
      refine g_iload_n (j := 2) (pc' := 19) dX12_whoIs_18 rfl rfl ?_
      refine g_iadd (pc' := 20) dX12_whoIs_19 rfl ?_
      refine g_iald (n := 28 + t) (pc' := 21) dX12_whoIs_20 rfl (nI_addE rfl rfl) (by omega) rfl ?_
      refine g_top (y := P (28 + t)) (hP _ (by omega)) ?_
      unfold firstIx
      refine g_iload_n (j := 1) (pc' := 22) dX12_whoIs_21 rfl rfl ?_
      refine g_icmp_ne (tgt := 27) (pc' := 25) dX12_whoIs_22 (by decide) rfl (fun hc5 => ?_) (fun hc5 => ?_)
      · rw [if_neg (by rw [beq_iff_eq]; exact hc5)]
        refine g_iinc (j := 2) (v := nI (t + 1)) (L' := [(0, .ref 189), (1, .int v), (2, .int (nI (t + 1)))]) (pc' := 30) dX12_whoIs_27 rfl (nI_1 t) (by decide) rfl rfl ?_
        refine g_goto (tgt := 2) dX12_whoIs_30 (by decide) ?_
        exact ih (t + 1) (by omega)
      · rw [if_pos (by rw [beq_iff_eq]; exact hc5)]
        refine g_iload_n (j := 2) (pc' := 26) dX12_whoIs_25 rfl rfl ?_
        exact g_iret dX12_whoIs_26 rfl rfl (⟨rfl, rfl⟩)
  exact loop n 0 (by omega)
set_option maxRecDepth 100000 in
set_option maxHeartbeats 1000000 in
theorem r_named_2 {M : Nat → Nat → Int32} {N : Nat → Nat → Int64} {n k : Nat} {P : Nat → Int32} {pa : List (Nat → Int32)} {kp : Option YS} {tp : List Int32} {sh : Nat → Option (Nat × Nat × (Nat → Int64))} (hA : AOk ((n, k, P, pa), kp, tp, sh)) (hI : RI M N ((n, k, P, pa), kp, tp, sh)) {i : Nat} (hi : i < k) : Run mX12_named 30 0 0 [.ref 189, .int (nI i), .int (nI 2)] (SK, M, N) (RQ M N (whoP P n i) ((n, k, P, pa), kp, tp, sh)) := by
  refine Run.of (by decide) (Nat.le_of_ble_eq_true rfl) ?_
  have hok : OkP n k P := hA.1.1.1
  have hP : ∀ j, j < 47 → M 190 j = P j := hI.1.1
  have hn6 := hok.1
  have hk6 := hok.2.1
  have hn : M 190 0 = nI n := (hP 0 (by omega)).trans hok.2.2.1
  have hk : M 190 1 = nI k := (hP 1 (by omega)).trans hok.2.2.2.1
  refine g_aload_n (j := 0) (pc' := 1) dX12_named_0 rfl rfl ?_
  refine g_iload_n (j := 1) (pc' := 2) dX12_named_1 rfl rfl ?_
  refine g_callV (my := mX12_isName) (k := 189) (st := []) (av := [.int (nI i)]) (mcr := 0) (msr := 0) (mc := 0) (ms := 0) (pc' := 5) dX12_named_2 kX12_isName wX12_92 rfl ⟨rfl, rfl⟩ rfl (Nat.le_of_ble_eq_true rfl) (by decide) (s_isName1 hk hk6 (hi)) rfl ?_
  rintro _ _ ⟨rfl, rfl⟩
  show Go mX12_named _ _ _ 5 [(0, .ref 189), (1, .int (nI i)), (2, .int (nI 2))] [.int 1] (SK, M, N) _
  refine g_if_eq (tgt := 20) (pc' := 8) dX12_named_5 (by decide) rfl (fun hc => absurd hc (by decide)) (fun _ => ?_)
  refine g_iload_n (j := 2) (pc' := 9) dX12_named_8 rfl rfl ?_
  refine g_i2l (pc' := 10) dX12_named_9 rfl ?_
  refine g_lconst (v := 0) (pc' := 11) dX12_named_10 (by decide) rfl ?_
  refine g_ldc2 (v := 2) (pc' := 14) dX12_named_11 qX12_95 rfl ?_
  refine g_callS (my := mX12_in) (st := []) (av := [.long (Int32.toInt64 (nI 2)), .long 0, .long 2]) (mcr := 0) (msr := 0) (mc := 0) (ms := 0) (pc' := 17) dX12_named_14 kX12_in wX12_55 rfl (Nat.le_of_ble_eq_true rfl) (by decide) (r_in1 (lo := 0) (hi := 2) (by decide) (by decide) (by decide)) rfl ?_
  rintro _ _ ⟨rfl, rfl⟩
  show Go mX12_named _ _ _ 17 [(0, .ref 189), (1, .int (nI i)), (2, .int (nI 2))] [.int 1] (SK, M, N) _
  refine g_if_ne (tgt := 22) (pc' := 20) dX12_named_17 (by decide) rfl (fun _ => ?_) (fun hc => absurd hc (by decide))
  refine g_iload_n (j := 2) (pc' := 23) dX12_named_22 rfl rfl ?_
  refine g_if_ne (tgt := 38) (pc' := 26) dX12_named_23 (by decide) rfl (fun hc => ?_) (fun hc => (absurd hc (by decide)))
  refine g_iload_n (j := 2) (pc' := 39) dX12_named_38 rfl rfl ?_
  refine g_iconst (v := 1) (pc' := 40) dX12_named_39 (by decide) rfl ?_
  refine g_icmp_ne (tgt := 55) (pc' := 43) dX12_named_40 (by decide) rfl (fun hc => ?_) (fun hc => (absurd hc (by decide)))
  refine g_aload_n (j := 0) (pc' := 56) dX12_named_55 rfl rfl ?_
  refine g_iload_n (j := 1) (pc' := 57) dX12_named_56 rfl rfl ?_
  refine g_callV (my := mX12_whoIs) (k := 189) (st := []) (av := [.int (nI i)]) (mcr := 0) (msr := 0) (mc := 0) (ms := 0) (pc' := 60) dX12_named_57 kX12_whoIs wX12_97 rfl ⟨rfl, rfl⟩ rfl (Nat.le_of_ble_eq_true rfl) (by decide) (r_whoIs (nI i) hn6 hn hP) rfl ?_
  rintro _ _ ⟨rfl, rfl⟩
  show Go mX12_named _ _ _ 60 [(0, .ref 189), (1, .int (nI i)), (2, .int (nI 2))] [.int (whoP P n i)] (SK, M, N) _
  exact g_iret dX12_named_60 rfl rfl (RQ.same hI)
set_option maxRecDepth 100000 in
set_option maxHeartbeats 1000000 in
theorem r_placeOf {M : Nat → Nat → Int32} {N : Nat → Nat → Int64} {n k : Nat} {P : Nat → Int32} (hok : OkP n k P) (hP : ∀ j, j < 47 → M 190 j = P j) {m : Nat} (hm : m < n) : Run mX12_placeOf 3 0 0 [.ref 189, .int (nI m)] (SK, M, N) (fun r h' => ∃ M', h' = (SK, M', N) ∧ r = some (.int (nI (placF (offP P (P 2)) n m))) ∧ ∀ a, a ≠ 198 → a ≠ 199 → M' a = M a) := by
  refine Run.of (by decide) (Nat.le_of_ble_eq_true rfl) ?_
  have hn6 := hok.1
  refine g_aload_n (j := 0) (pc' := 1) dX12_placeOf_0 rfl rfl ?_
  refine g_aload_n (j := 0) (pc' := 2) dX12_placeOf_1 rfl rfl ?_
  refine g_getR (pc' := 5) dX12_placeOf_2 fX12_7 rfl rfl rfl ?_
  refine g_aload_n (j := 0) (pc' := 6) dX12_placeOf_5 rfl rfl ?_
  refine g_getR (pc' := 9) dX12_placeOf_6 fX12_7 rfl rfl rfl ?_
  refine g_iconst (v := 2) (pc' := 10) dX12_placeOf_9 (by decide) rfl ?_
  refine g_iald (n := 2) (pc' := 11) dX12_placeOf_10 rfl rfl (by omega) rfl ?_
  refine g_top (y := P 2) (hP 2 (by omega)) ?_
  refine g_callV (my := mX12_layOff) (k := 189) (st := []) (av := [.ref 190, .int (P 2)]) (mcr := 0) (msr := 0) (mc := 0) (ms := 0) (pc' := 14) dX12_placeOf_11 kX12_layOff wX12_70 rfl ⟨rfl, rfl⟩ rfl (Nat.le_of_ble_eq_true rfl) (by decide) (r_layOff (c := 190) rfl (by omega) hok hP (P 2)) rfl ?_
  rintro _ _ ⟨M1, rfl, rfl, h1, hf1⟩
  show Go mX12_placeOf _ _ _ 14 [(0, .ref 189), (1, .int (nI m))] [] (SK, M1, N) _
  refine g_aload_n (j := 0) (pc' := 15) dX12_placeOf_14 rfl rfl ?_
  refine g_aload_n (j := 0) (pc' := 16) dX12_placeOf_15 rfl rfl ?_
  refine g_getR (pc' := 19) dX12_placeOf_16 fX12_7 rfl rfl rfl ?_
  refine g_callV (my := mX12_layLine) (k := 189) (st := []) (av := [.ref 190]) (mcr := 0) (msr := 0) (mc := 0) (ms := 0) (pc' := 22) dX12_placeOf_19 kX12_layLine wX12_63 rfl ⟨rfl, rfl⟩ rfl (Nat.le_of_ble_eq_true rfl) (by decide) (r_layLine (c := 190) rfl (by omega) hn6 (by rw [hf1 190 (by omega), hP 0 (by omega)]; exact hok.2.2.1) h1) rfl ?_
  rintro _ _ ⟨M2, rfl, rfl, h2, hf2⟩
  show Go mX12_placeOf _ _ _ 22 [(0, .ref 189), (1, .int (nI m))] [] (SK, M2, N) _
  have hpl := fun i => @placF_of (fun m => offP P (P 2) m) n m i
  have hsu := (lineA_sorted (off := fun m => offP P (P 2) m) n).2 m hm
  change ∀ i, i < n → lineA (fun m => offP P (P 2) m) n i = m → placF (offP P (P 2)) n m = i at hpl
  have hll : ∀ {j}, j < n → lineA (fun m => offP P (P 2) m) n j < n := fun h => lineA_lt h
  generalize placF (offP P (P 2)) n m = pl at hpl
  generalize lineA (fun m => offP P (P 2) m) n = l at h2 hsu hpl hll
  obtain ⟨x, hx, hxm⟩ := hsu
  obtain rfl := hpl x hx hxm
  refine g_iconst (v := 0) (pc' := 23) dX12_placeOf_22 (by decide) rfl ?_
  refine g_istore_n (L' := [(0, .ref 189), (1, .int (nI m)), (2, .int 0)]) (pc' := 24) dX12_placeOf_23 (by decide) rfl rfl ?_
  have loop : ∀ (j t : Nat), t + j = pl → (∀ i, i < t → l i ≠ m) → Go mX12_placeOf 3 0 0 24 [(0, .ref 189), (1, .int (nI m)), (2, .int (nI t))] [] (SK, M2, N) (fun r h' => ∃ M', h' = (SK, M', N) ∧ r = some (.int (nI pl)) ∧ ∀ a, a ≠ 198 → a ≠ 199 → M' a = M a) := by
    intro j
    induction j with
    | zero =>
      intro t ht hne
      have hlt := hll (show t < n by omega)
      refine g_aload_n (j := 0) (pc' := 25) dX12_placeOf_24 rfl rfl ?_
      refine g_getR (pc' := 28) dX12_placeOf_25 fX12_38 rfl rfl rfl ?_
      refine g_iload_n (j := 2) (pc' := 29) dX12_placeOf_28 rfl rfl ?_
      refine g_iald (n := t) (pc' := 30) dX12_placeOf_29 rfl rfl (by omega) rfl ?_
      refine g_top (y := nI (l t)) (h2 t (by omega)) ?_
      obtain rfl : t = pl := by omega
      refine g_iload_n (j := 1) (pc' := 31) dX12_placeOf_30 rfl rfl ?_
      refine g_icmp_eq (tgt := 40) (pc' := 34) dX12_placeOf_31 (by decide) rfl (fun hc => ?_) (fun hc => (absurd (by rw [hxm]) hc))
      refine g_iload_n (j := 2) (pc' := 41) dX12_placeOf_40 rfl rfl ?_
      exact g_iret dX12_placeOf_41 rfl rfl (⟨M2, rfl, rfl, fun a a1 a2 => by rw [hf2 a a2]; exact hf1 a a1⟩)
    | succ j ih =>
      intro t ht hne
      have hlt := hll (show t < n by omega)
      refine g_aload_n (j := 0) (pc' := 25) dX12_placeOf_24 rfl rfl ?_
      refine g_getR (pc' := 28) dX12_placeOf_25 fX12_38 rfl rfl rfl ?_
      refine g_iload_n (j := 2) (pc' := 29) dX12_placeOf_28 rfl rfl ?_
      refine g_iald (n := t) (pc' := 30) dX12_placeOf_29 rfl rfl (by omega) rfl ?_
      refine g_top (y := nI (l t)) (h2 t (by omega)) ?_
      refine g_iload_n (j := 1) (pc' := 31) dX12_placeOf_30 rfl rfl ?_
      refine g_icmp_eq (tgt := 40) (pc' := 34) dX12_placeOf_31 (by decide) rfl (fun hc5 => ?_) (fun hc5 => ?_)
      · have e := (nI_eq (by omega) (by omega)).mp hc5
        have := hpl t (by omega) e
        omega
      · refine g_iinc (j := 2) (v := nI (t + 1)) (L' := [(0, .ref 189), (1, .int (nI m)), (2, .int (nI (t + 1)))]) (pc' := 37) dX12_placeOf_34 rfl (nI_1 t) (by decide) rfl rfl ?_
        refine g_goto (tgt := 24) dX12_placeOf_37 (by decide) ?_
        exact ih (t + 1) (by omega) (fun i hi e => by rcases Nat.lt_or_eq_of_le (Nat.le_of_lt_succ hi) with q | q; exact hne i q e; exact hc5 (by rw [← q, e]))
  exact loop pl 0 (by omega) (fun i hi => absurd hi (by omega))
set_option maxRecDepth 100000 in
set_option maxHeartbeats 1000000 in
theorem r_of_6 {M : Nat → Nat → Int32} {N : Nat → Nat → Int64} {n k : Nat} {P : Nat → Int32} {pa : List (Nat → Int32)} {kp : Option YS} {tp : List Int32} {sh : Nat → Option (Nat × Nat × (Nat → Int64))} (hA : AOk ((n, k, P, pa), kp, tp, sh)) (hI : RI M N ((n, k, P, pa), kp, tp, sh)) {m : Nat} (hm : m < n) : Run mX12_of 30 0 0 [.ref 189, .int (nI m), .int (nI 6)] (SK, M, N) (RQ M N (ofV P n m 6) ((n, k, P, pa), kp, tp, sh)) := by
  refine Run.of (by decide) (Nat.le_of_ble_eq_true rfl) ?_
  have hok : OkP n k P := hA.1.1.1
  have hP : ∀ j, j < 47 → M 190 j = P j := hI.1.1
  have hn6 := hok.1
  have hk6 := hok.2.1
  have hn : M 190 0 = nI n := (hP 0 (by omega)).trans hok.2.2.1
  have hk : M 190 1 = nI k := (hP 1 (by omega)).trans hok.2.2.2.1
  refine g_aload_n (j := 0) (pc' := 1) dX12_of_0 rfl rfl ?_
  refine g_iload_n (j := 1) (pc' := 2) dX12_of_1 rfl rfl ?_
  refine g_callV (my := mX12_isMan) (k := 189) (st := []) (av := [.int (nI m)]) (mcr := 0) (msr := 0) (mc := 0) (ms := 0) (pc' := 5) dX12_of_2 kX12_isMan wX12_84 rfl ⟨rfl, rfl⟩ rfl (Nat.le_of_ble_eq_true rfl) (by decide) (s_isMan1 hn hn6 (hm)) rfl ?_
  rintro _ _ ⟨rfl, rfl⟩
  show Go mX12_of _ _ _ 5 [(0, .ref 189), (1, .int (nI m)), (2, .int (nI 6))] [.int 1] (SK, M, N) _
  refine g_if_ne (tgt := 10) (pc' := 8) dX12_of_5 (by decide) rfl (fun _ => ?_) (fun hc => absurd hc (by decide))
  refine g_iload_n (j := 2) (pc' := 11) dX12_of_10 rfl rfl ?_
  refine g_tblIn (off := 109) (tgt := 120) dX12_of_11 (by decide) (by decide) (by decide) (by decide) ?_
  refine g_aload_n (j := 0) (pc' := 121) dX12_of_120 rfl rfl ?_
  refine g_iload_n (j := 1) (pc' := 122) dX12_of_121 rfl rfl ?_
  refine g_callV (my := mX12_placeOf) (k := 189) (st := []) (av := [.int (nI m)]) (mcr := 0) (msr := 0) (mc := 0) (ms := 0) (pc' := 125) dX12_of_122 kX12_placeOf wX12_88 rfl ⟨rfl, rfl⟩ rfl (Nat.le_of_ble_eq_true rfl) (by decide) (r_placeOf hok hP hm) rfl ?_
  rintro _ _ ⟨M1, rfl, rfl, hf⟩
  show Go mX12_of _ _ _ 125 [(0, .ref 189), (1, .int (nI m)), (2, .int (nI 6))] [.int (nI (placF (offP P (P 2)) n m))] (SK, M1, N) _
  exact g_iret dX12_of_125 rfl rfl (RQ.tmp hI (fun a ta => by unfold tmpR at ta; exact hf a (by omega) (by omega)))
