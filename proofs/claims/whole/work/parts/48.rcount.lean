set_option maxRecDepth 100000 in
set_option maxHeartbeats 1000000 in
theorem r_wouldBe {M : Nat → Nat → Int32} {N : Nat → Nat → Int64} {n k : Nat} {P : Nat → Int32} (hok : OkP n k P) (hP : ∀ j, j < 47 → M 190 j = P j) : Run mX12_wouldBe 4 0 0 [.ref 189] (SK, M, N) (fun r h' => ∃ M', h' = (SK, M', N) ∧ r = some (.int (cnt7 P n k)) ∧ ∀ a, a ≠ 198 → a ≠ 199 → a ≠ 200 → M' a = M a) := by
  refine Run.of (by decide) (Nat.le_of_ble_eq_true rfl) ?_
  have hn6 := hok.1
  have hk6 := hok.2.1
  refine g_aload_n (j := 0) (pc' := 1) dX12_wouldBe_0 rfl rfl ?_
  refine g_aload_n (j := 0) (pc' := 2) dX12_wouldBe_1 rfl rfl ?_
  refine g_getR (pc' := 5) dX12_wouldBe_2 fX12_7 rfl rfl rfl ?_
  refine g_aload_n (j := 0) (pc' := 6) dX12_wouldBe_5 rfl rfl ?_
  refine g_getR (pc' := 9) dX12_wouldBe_6 fX12_7 rfl rfl rfl ?_
  refine g_iconst (v := 2) (pc' := 10) dX12_wouldBe_9 (by decide) rfl ?_
  refine g_iald (n := 2) (pc' := 11) dX12_wouldBe_10 rfl rfl (by omega) rfl ?_
  refine g_top (y := P 2) (hP 2 (by omega)) ?_
  refine g_callV (my := mX12_layOff) (k := 189) (st := []) (av := [.ref 190, .int (P 2)]) (mcr := 0) (msr := 0) (mc := 0) (ms := 0) (pc' := 14) dX12_wouldBe_11 kX12_layOff wX12_70 rfl ⟨rfl, rfl⟩ rfl (Nat.le_of_ble_eq_true rfl) (by decide) (r_layOff (c := 190) rfl (by omega) hok hP (P 2)) rfl ?_
  rintro _ _ ⟨M1, rfl, rfl, h1, hf1⟩
  show Go mX12_wouldBe _ _ _ 14 [(0, .ref 189)] [] (SK, M1, N) _
  refine g_aload_n (j := 0) (pc' := 15) dX12_wouldBe_14 rfl rfl ?_
  refine g_aload_n (j := 0) (pc' := 16) dX12_wouldBe_15 rfl rfl ?_
  refine g_getR (pc' := 19) dX12_wouldBe_16 fX12_7 rfl rfl rfl ?_
  refine g_callV (my := mX12_chooses) (k := 189) (st := []) (av := [.ref 190]) (mcr := 0) (msr := 0) (mc := 0) (ms := 0) (pc' := 22) dX12_wouldBe_19 kX12_chooses wX12_74 rfl ⟨rfl, rfl⟩ rfl (Nat.le_of_ble_eq_true rfl) (by decide) (r_chooses (c := 190) rfl (by omega) (by omega) hok (fun j hj => by rw [hf1 190 (by omega)]; exact hP j hj) h1) rfl ?_
  rintro _ _ ⟨M2, rfl, rfl, h2, -, hf2⟩
  show Go mX12_wouldBe _ _ _ 22 [(0, .ref 189)] [.int ((chG P k (lineA (fun m => offP P (P 2) m) n) n).1)] (SK, M2, N) _
  have hn2 : M2 190 0 = nI n := by rw [hf2 190 (by omega) (by omega), hf1 190 (by omega), hP 0 (by omega)]; exact hok.2.2.1
  unfold cnt7 choP
  have hcl := @chG_lt P k (lineA (fun m => offP P (P 2) m) n) n
  change Go _ _ _ _ _ _ _ _ (fun r h' => ∃ M', h' = (SK, M', N) ∧ r = some (.int (setF (fun m => ((chG P k (lineA (fun m => offP P (P 2) m) n) n).2 m).isSome) n)) ∧ ∀ a, a ≠ 198 → a ≠ 199 → a ≠ 200 → M' a = M a)
  generalize (chG P k (lineA (fun m => offP P (P 2) m) n) n).2 = ch at h2 hcl ⊢
  generalize (chG P k (lineA (fun m => offP P (P 2) m) n) n).1 = s1
  refine g_istore_n (L' := [(0, .ref 189), (1, .int s1)]) (pc' := 23) dX12_wouldBe_22 (by decide) rfl rfl ?_
  refine g_iconst (v := 0) (pc' := 24) dX12_wouldBe_23 (by decide) rfl ?_
  refine g_istore_n (L' := [(0, .ref 189), (1, .int s1), (2, .int 0)]) (pc' := 25) dX12_wouldBe_24 (by decide) rfl rfl ?_
  refine g_iconst (v := 0) (pc' := 26) dX12_wouldBe_25 (by decide) rfl ?_
  refine g_istore_n (L' := [(0, .ref 189), (1, .int s1), (2, .int 0), (3, .int 0)]) (pc' := 27) dX12_wouldBe_26 (by decide) rfl rfl ?_
  refine g_less (L' := [(0, .ref 189), (2, .int 0), (3, .int 0)]) [0, 2, 3] rfl ?_
  have loop : ∀ (j t : Nat), t + j = n → Go mX12_wouldBe 4 0 0 27 [(0, .ref 189), (2, .int (setF (fun m => (ch m).isSome) t)), (3, .int (nI t))] [] (SK, M2, N) (fun r h' => ∃ M', h' = (SK, M', N) ∧ r = some (.int (setF (fun m => (ch m).isSome) n)) ∧ ∀ a, a ≠ 198 → a ≠ 199 → a ≠ 200 → M' a = M a) := by
    intro j
    induction j with
    | zero =>
      intro t ht
      refine g_iload_n (j := 2) (pc' := 28) dX12_wouldBe_27 rfl rfl ?_
      refine g_aload_n (j := 0) (pc' := 29) dX12_wouldBe_28 rfl rfl ?_
      refine g_getR (pc' := 32) dX12_wouldBe_29 fX12_7 rfl rfl rfl ?_
      refine g_iconst (v := 0) (pc' := 33) dX12_wouldBe_32 (by decide) rfl ?_
      refine g_iald (n := 0) (pc' := 34) dX12_wouldBe_33 rfl rfl (by omega) rfl ?_
      refine g_top (y := nI n) (hn2) ?_
      refine g_icmp_ge (tgt := 64) (pc' := 37) dX12_wouldBe_34 (by decide) rfl (fun hc => ?_) (fun hc => (absurd (nI_le (a := n) (b := t) (by omega) (by omega)) hc))
      obtain rfl : t = n := by omega
      refine g_iload_n (j := 1) (pc' := 65) dX12_wouldBe_64 rfl rfl ?_
      exact g_iret dX12_wouldBe_65 rfl rfl (⟨M2, rfl, rfl, fun a a1 a2 a3 => by rw [hf2 a a2 a3]; exact hf1 a a1⟩)
    | succ j ih =>
      intro t ht
      refine g_iload_n (j := 2) (pc' := 28) dX12_wouldBe_27 rfl rfl ?_
      refine g_aload_n (j := 0) (pc' := 29) dX12_wouldBe_28 rfl rfl ?_
      refine g_getR (pc' := 32) dX12_wouldBe_29 fX12_7 rfl rfl rfl ?_
      refine g_iconst (v := 0) (pc' := 33) dX12_wouldBe_32 (by decide) rfl ?_
      refine g_iald (n := 0) (pc' := 34) dX12_wouldBe_33 rfl rfl (by omega) rfl ?_
      refine g_top (y := nI n) (hn2) ?_
      refine g_icmp_ge (tgt := 64) (pc' := 37) dX12_wouldBe_34 (by decide) rfl (fun hc => (absurd hc (nI_ge (a := t) (b := n) (by omega) (by omega)))) (fun hc => ?_)
      have hnx := ih (t + 1) (by omega)
      have hct := @hcl t
      refine g_iload_n (j := 1) (pc' := 38) dX12_wouldBe_37 rfl rfl ?_
      refine g_aload_n (j := 0) (pc' := 39) dX12_wouldBe_38 rfl rfl ?_
      refine g_getR (pc' := 42) dX12_wouldBe_39 fX12_41 rfl rfl rfl ?_
      refine g_iload_n (j := 2) (pc' := 43) dX12_wouldBe_42 rfl rfl ?_
      refine g_iald (n := t) (pc' := 44) dX12_wouldBe_43 rfl rfl (by omega) rfl ?_
      refine g_top (y := optI (-4) (ch t)) (h2 t (by omega)) ?_
      cases ho : ch t with
      | none =>
        show Go mX12_wouldBe _ _ _ 44 [(0, .ref 189), (2, .int (setF (fun m => (ch m).isSome) t)), (3, .int (nI t))] [.int (-4), .int (setF (fun m => (ch m).isSome) t)] (SK, M2, N) _
        rw [show setF (fun m => (ch m).isSome) (t + 1) = setF (fun m => (ch m).isSome) t by rw [setF, ho]; rfl] at hnx
        refine g_bipush (v := (-4)) (pc' := 46) dX12_wouldBe_44 (by decide) rfl ?_
        refine g_icmp_ne (tgt := 53) (pc' := 49) dX12_wouldBe_46 (by decide) rfl (fun hc => (absurd rfl hc)) (fun hc => ?_)
        refine g_iconst (v := 0) (pc' := 50) dX12_wouldBe_49 (by decide) rfl ?_
        refine g_goto (tgt := 56) dX12_wouldBe_50 (by decide) ?_
        refine g_ior (pc' := 57) dX12_wouldBe_56 rfl ?_
        refine g_top (y := setF (fun m => (ch m).isSome) t) (Int32.or_zero) ?_
        refine g_istore_n (L' := [(0, .ref 189), (2, .int (setF (fun m => (ch m).isSome) t)), (3, .int (nI t))]) (pc' := 58) dX12_wouldBe_57 (by decide) rfl rfl ?_
        refine g_iinc (j := 2) (v := nI (t + 1)) (L' := [(0, .ref 189), (2, .int (setF (fun m => (ch m).isSome) t)), (3, .int (nI (t + 1)))]) (pc' := 61) dX12_wouldBe_58 rfl (nI_1 t) (by decide) rfl rfl ?_
        refine g_goto (tgt := 27) dX12_wouldBe_61 (by decide) ?_
        exact hnx
      | some x =>
        show Go mX12_wouldBe _ _ _ 44 [(0, .ref 189), (2, .int (setF (fun m => (ch m).isSome) t)), (3, .int (nI t))] [.int (nI x), .int (setF (fun m => (ch m).isSome) t)] (SK, M2, N) _
        have hx := hct ho
        rw [show setF (fun m => (ch m).isSome) (t + 1) = setF (fun m => (ch m).isSome) t ||| (1 : Int32) <<< (nI t &&& 31) by rw [setF, ho]; rfl] at hnx
        refine g_bipush (v := (-4)) (pc' := 46) dX12_wouldBe_44 (by decide) rfl ?_
        refine g_icmp_ne (tgt := 53) (pc' := 49) dX12_wouldBe_46 (by decide) rfl (fun hc => ?_) (fun hc => (absurd hc (nI_ne_m4 (by omega))))
        refine g_iconst (v := 1) (pc' := 54) dX12_wouldBe_53 (by decide) rfl ?_
        refine g_iload_n (j := 2) (pc' := 55) dX12_wouldBe_54 rfl rfl ?_
        refine g_ishl (pc' := 56) dX12_wouldBe_55 rfl ?_
        refine g_ior (pc' := 57) dX12_wouldBe_56 rfl ?_
        refine g_istore_n (L' := [(0, .ref 189), (2, .int ((setF (fun m => (ch m).isSome) t) ||| (1 <<< ((nI t) &&& 31)))), (3, .int (nI t))]) (pc' := 58) dX12_wouldBe_57 (by decide) rfl rfl ?_
        refine g_iinc (j := 2) (v := nI (t + 1)) (L' := [(0, .ref 189), (2, .int ((setF (fun m => (ch m).isSome) t) ||| (1 <<< ((nI t) &&& 31)))), (3, .int (nI (t + 1)))]) (pc' := 61) dX12_wouldBe_58 rfl (nI_1 t) (by decide) rfl rfl ?_
        refine g_goto (tgt := 27) dX12_wouldBe_61 (by decide) ?_
        exact hnx
  exact loop n 0 (by omega)
set_option maxRecDepth 100000 in
set_option maxHeartbeats 1000000 in
theorem r_count_b {M : Nat → Nat → Int32} {N : Nat → Nat → Int64} {n k : Nat} {P : Nat → Int32} {pa : List (Nat → Int32)} {kp : Option YS} {tp : List Int32} {sh : Nat → Option (Nat × Nat × (Nat → Int64))} (hA : AOk ((n, k, P, pa), kp, tp, sh)) (hI : RI M N ((n, k, P, pa), kp, tp, sh)) {u : Int32} (h1 : u.toInt < 0 ∨ 8 < u.toInt) : Run mX12_count 30 0 0 [.ref 189, .int u] (SK, M, N) (RQ M N (-1) ((n, k, P, pa), kp, tp, sh)) := by
  refine Run.of (by decide) (Nat.le_of_ble_eq_true rfl) ?_
  have hok : OkP n k P := hA.1.1.1
  have hP : ∀ j, j < 47 → M 190 j = P j := hI.1.1
  have hn6 := hok.1
  have hk6 := hok.2.1
  have hn : M 190 0 = nI n := (hP 0 (by omega)).trans hok.2.2.1
  have hk : M 190 1 = nI k := (hP 1 (by omega)).trans hok.2.2.2.1
  refine g_iload_n (j := 1) (pc' := 1) dX12_count_0 rfl rfl ?_
  refine g_tblOut (tgt := 121) dX12_count_1 (h1) (by decide) ?_
  refine g_iconst (v := (-1)) (pc' := 122) dX12_count_121 (by decide) rfl ?_
  exact g_iret dX12_count_122 rfl rfl (RQ.same hI)
set_option maxRecDepth 100000 in
set_option maxHeartbeats 1000000 in
theorem r_count_0 {M : Nat → Nat → Int32} {N : Nat → Nat → Int64} {n k : Nat} {P : Nat → Int32} {pa : List (Nat → Int32)} {kp : Option YS} {tp : List Int32} {sh : Nat → Option (Nat × Nat × (Nat → Int64))} (hA : AOk ((n, k, P, pa), kp, tp, sh)) (hI : RI M N ((n, k, P, pa), kp, tp, sh))  : Run mX12_count 30 0 0 [.ref 189, .int (nI 0)] (SK, M, N) (RQ M N (cntV P n k pa.length 0) ((n, k, P, pa), kp, tp, sh)) := by
  refine Run.of (by decide) (Nat.le_of_ble_eq_true rfl) ?_
  have hok : OkP n k P := hA.1.1.1
  have hP : ∀ j, j < 47 → M 190 j = P j := hI.1.1
  have hn6 := hok.1
  have hk6 := hok.2.1
  have hn : M 190 0 = nI n := (hP 0 (by omega)).trans hok.2.2.1
  have hk : M 190 1 = nI k := (hP 1 (by omega)).trans hok.2.2.2.1
  refine g_iload_n (j := 1) (pc' := 1) dX12_count_0 rfl rfl ?_
  refine g_tblIn (off := 51) (tgt := 52) dX12_count_1 (by decide) (by decide) (by decide) (by decide) ?_
  refine g_aload_n (j := 0) (pc' := 53) dX12_count_52 rfl rfl ?_
  refine g_getR (pc' := 56) dX12_count_53 fX12_7 rfl rfl rfl ?_
  refine g_iconst (v := 0) (pc' := 57) dX12_count_56 (by decide) rfl ?_
  refine g_iald (n := 0) (pc' := 58) dX12_count_57 rfl rfl (by omega) rfl ?_
  refine g_top (y := nI n) (hn) ?_
  exact g_iret dX12_count_58 rfl rfl (RQ.same hI)
set_option maxRecDepth 100000 in
set_option maxHeartbeats 1000000 in
theorem r_count_1 {M : Nat → Nat → Int32} {N : Nat → Nat → Int64} {n k : Nat} {P : Nat → Int32} {pa : List (Nat → Int32)} {kp : Option YS} {tp : List Int32} {sh : Nat → Option (Nat × Nat × (Nat → Int64))} (hA : AOk ((n, k, P, pa), kp, tp, sh)) (hI : RI M N ((n, k, P, pa), kp, tp, sh))  : Run mX12_count 30 0 0 [.ref 189, .int (nI 1)] (SK, M, N) (RQ M N (cntV P n k pa.length 1) ((n, k, P, pa), kp, tp, sh)) := by
  refine Run.of (by decide) (Nat.le_of_ble_eq_true rfl) ?_
  have hok : OkP n k P := hA.1.1.1
  have hP : ∀ j, j < 47 → M 190 j = P j := hI.1.1
  have hn6 := hok.1
  have hk6 := hok.2.1
  have hn : M 190 0 = nI n := (hP 0 (by omega)).trans hok.2.2.1
  have hk : M 190 1 = nI k := (hP 1 (by omega)).trans hok.2.2.2.1
  refine g_iload_n (j := 1) (pc' := 1) dX12_count_0 rfl rfl ?_
  refine g_tblIn (off := 58) (tgt := 59) dX12_count_1 (by decide) (by decide) (by decide) (by decide) ?_
  refine g_aload_n (j := 0) (pc' := 60) dX12_count_59 rfl rfl ?_
  refine g_getR (pc' := 63) dX12_count_60 fX12_7 rfl rfl rfl ?_
  refine g_iconst (v := 1) (pc' := 64) dX12_count_63 (by decide) rfl ?_
  refine g_iald (n := 1) (pc' := 65) dX12_count_64 rfl rfl (by omega) rfl ?_
  refine g_top (y := nI k) (hk) ?_
  exact g_iret dX12_count_65 rfl rfl (RQ.same hI)
set_option maxRecDepth 100000 in
set_option maxHeartbeats 1000000 in
theorem r_count_2 {M : Nat → Nat → Int32} {N : Nat → Nat → Int64} {n k : Nat} {P : Nat → Int32} {pa : List (Nat → Int32)} {kp : Option YS} {tp : List Int32} {sh : Nat → Option (Nat × Nat × (Nat → Int64))} (hA : AOk ((n, k, P, pa), kp, tp, sh)) (hI : RI M N ((n, k, P, pa), kp, tp, sh))  : Run mX12_count 30 0 0 [.ref 189, .int (nI 2)] (SK, M, N) (RQ M N (cntV P n k pa.length 2) ((n, k, P, pa), kp, tp, sh)) := by
  refine Run.of (by decide) (Nat.le_of_ble_eq_true rfl) ?_
  have hok : OkP n k P := hA.1.1.1
  have hP : ∀ j, j < 47 → M 190 j = P j := hI.1.1
  have hn6 := hok.1
  have hk6 := hok.2.1
  have hn : M 190 0 = nI n := (hP 0 (by omega)).trans hok.2.2.1
  have hk : M 190 1 = nI k := (hP 1 (by omega)).trans hok.2.2.2.1
  refine g_iload_n (j := 1) (pc' := 1) dX12_count_0 rfl rfl ?_
  refine g_tblIn (off := 65) (tgt := 66) dX12_count_1 (by decide) (by decide) (by decide) (by decide) ?_
  refine g_aload_n (j := 0) (pc' := 67) dX12_count_66 rfl rfl ?_
  refine g_getR (pc' := 70) dX12_count_67 fX12_7 rfl rfl rfl ?_
  refine g_iconst (v := 3) (pc' := 71) dX12_count_70 (by decide) rfl ?_
  refine g_iald (n := 3) (pc' := 72) dX12_count_71 rfl rfl (by omega) rfl ?_
  refine g_top (y := P 3) (hP 3 (by omega)) ?_
  exact g_iret dX12_count_72 rfl rfl (RQ.same hI)
set_option maxRecDepth 100000 in
set_option maxHeartbeats 1000000 in
theorem r_count_3 {M : Nat → Nat → Int32} {N : Nat → Nat → Int64} {n k : Nat} {P : Nat → Int32} {pa : List (Nat → Int32)} {kp : Option YS} {tp : List Int32} {sh : Nat → Option (Nat × Nat × (Nat → Int64))} (hA : AOk ((n, k, P, pa), kp, tp, sh)) (hI : RI M N ((n, k, P, pa), kp, tp, sh))  : Run mX12_count 30 0 0 [.ref 189, .int (nI 3)] (SK, M, N) (RQ M N (cntV P n k pa.length 3) ((n, k, P, pa), kp, tp, sh)) := by
  refine Run.of (by decide) (Nat.le_of_ble_eq_true rfl) ?_
  have hok : OkP n k P := hA.1.1.1
  have hP : ∀ j, j < 47 → M 190 j = P j := hI.1.1
  have hn6 := hok.1
  have hk6 := hok.2.1
  have hn : M 190 0 = nI n := (hP 0 (by omega)).trans hok.2.2.1
  have hk : M 190 1 = nI k := (hP 1 (by omega)).trans hok.2.2.2.1
  refine g_iload_n (j := 1) (pc' := 1) dX12_count_0 rfl rfl ?_
  refine g_tblIn (off := 72) (tgt := 73) dX12_count_1 (by decide) (by decide) (by decide) (by decide) ?_
  refine g_aload_n (j := 0) (pc' := 74) dX12_count_73 rfl rfl ?_
  refine g_getR (pc' := 77) dX12_count_74 fX12_7 rfl rfl rfl ?_
  refine g_iconst (v := 2) (pc' := 78) dX12_count_77 (by decide) rfl ?_
  refine g_iald (n := 2) (pc' := 79) dX12_count_78 rfl rfl (by omega) rfl ?_
  refine g_top (y := P 2) (hP 2 (by omega)) ?_
  exact g_iret dX12_count_79 rfl rfl (RQ.same hI)
set_option maxRecDepth 100000 in
set_option maxHeartbeats 1000000 in
theorem r_count_4 {M : Nat → Nat → Int32} {N : Nat → Nat → Int64} {n k : Nat} {P : Nat → Int32} {pa : List (Nat → Int32)} {kp : Option YS} {tp : List Int32} {sh : Nat → Option (Nat × Nat × (Nat → Int64))} (hA : AOk ((n, k, P, pa), kp, tp, sh)) (hI : RI M N ((n, k, P, pa), kp, tp, sh))  : Run mX12_count 30 0 0 [.ref 189, .int (nI 4)] (SK, M, N) (RQ M N (cntV P n k pa.length 4) ((n, k, P, pa), kp, tp, sh)) := by
  refine Run.of (by decide) (Nat.le_of_ble_eq_true rfl) ?_
  have hok : OkP n k P := hA.1.1.1
  have hP : ∀ j, j < 47 → M 190 j = P j := hI.1.1
  have hn6 := hok.1
  have hk6 := hok.2.1
  have hn : M 190 0 = nI n := (hP 0 (by omega)).trans hok.2.2.1
  have hk : M 190 1 = nI k := (hP 1 (by omega)).trans hok.2.2.2.1
  refine g_iload_n (j := 1) (pc' := 1) dX12_count_0 rfl rfl ?_
  refine g_tblIn (off := 79) (tgt := 80) dX12_count_1 (by decide) (by decide) (by decide) (by decide) ?_
  refine g_aload_n (j := 0) (pc' := 81) dX12_count_80 rfl rfl ?_
  refine g_getR (pc' := 84) dX12_count_81 fX12_7 rfl rfl rfl ?_
  refine g_callS (my := mX12_calledOf) (st := []) (av := [.ref 190]) (mcr := 0) (msr := 0) (mc := 0) (ms := 0) (pc' := 87) dX12_count_84 kX12_calledOf wX12_156 rfl (Nat.le_of_ble_eq_true rfl) (by decide) (r_calledOf (c := 190) rfl hn6 hn hP) rfl ?_
  rintro _ _ ⟨rfl, rfl⟩
  show Go mX12_count _ _ _ 87 [(0, .ref 189), (1, .int (nI 4))] [.int (cnt4 P n)] (SK, M, N) _
  exact g_iret dX12_count_87 rfl rfl (RQ.same hI)
set_option maxRecDepth 100000 in
set_option maxHeartbeats 1000000 in
theorem r_count_5 {M : Nat → Nat → Int32} {N : Nat → Nat → Int64} {n k : Nat} {P : Nat → Int32} {pa : List (Nat → Int32)} {kp : Option YS} {tp : List Int32} {sh : Nat → Option (Nat × Nat × (Nat → Int64))} (hA : AOk ((n, k, P, pa), kp, tp, sh)) (hI : RI M N ((n, k, P, pa), kp, tp, sh))  : Run mX12_count 30 0 0 [.ref 189, .int (nI 5)] (SK, M, N) (RQ M N (cntV P n k pa.length 5) ((n, k, P, pa), kp, tp, sh)) := by
  refine Run.of (by decide) (Nat.le_of_ble_eq_true rfl) ?_
  have hok : OkP n k P := hA.1.1.1
  have hP : ∀ j, j < 47 → M 190 j = P j := hI.1.1
  have hn6 := hok.1
  have hk6 := hok.2.1
  have hn : M 190 0 = nI n := (hP 0 (by omega)).trans hok.2.2.1
  have hk : M 190 1 = nI k := (hP 1 (by omega)).trans hok.2.2.2.1
  refine g_iload_n (j := 1) (pc' := 1) dX12_count_0 rfl rfl ?_
  refine g_tblIn (off := 87) (tgt := 88) dX12_count_1 (by decide) (by decide) (by decide) (by decide) ?_
  refine g_aload_n (j := 0) (pc' := 89) dX12_count_88 rfl rfl ?_
  refine g_getR (pc' := 92) dX12_count_89 fX12_7 rfl rfl rfl ?_
  refine g_bipush (v := 34) (pc' := 94) dX12_count_92 (by decide) rfl ?_
  refine g_callS (my := mX12_sumOf) (st := []) (av := [.ref 190, .int 34]) (mcr := 0) (msr := 0) (mc := 0) (ms := 0) (pc' := 97) dX12_count_94 kX12_sumOf wX12_159 rfl (Nat.le_of_ble_eq_true rfl) (by decide) (r_sumOf (c := 190) (f := 34) rfl (by omega) hP) rfl ?_
  rintro _ _ ⟨rfl, rfl⟩
  show Go mX12_count _ _ _ 97 [(0, .ref 189), (1, .int (nI 5))] [.int (sumF (fun i => P (34 + i)) 6)] (SK, M, N) _
  refine g_top (y := sumF (fun i => P (34 + i)) k) ((sum6 hok).1) ?_
  exact g_iret dX12_count_97 rfl rfl (RQ.same hI)
set_option maxRecDepth 100000 in
set_option maxHeartbeats 1000000 in
theorem r_count_6 {M : Nat → Nat → Int32} {N : Nat → Nat → Int64} {n k : Nat} {P : Nat → Int32} {pa : List (Nat → Int32)} {kp : Option YS} {tp : List Int32} {sh : Nat → Option (Nat × Nat × (Nat → Int64))} (hA : AOk ((n, k, P, pa), kp, tp, sh)) (hI : RI M N ((n, k, P, pa), kp, tp, sh))  : Run mX12_count 30 0 0 [.ref 189, .int (nI 6)] (SK, M, N) (RQ M N (cntV P n k pa.length 6) ((n, k, P, pa), kp, tp, sh)) := by
  refine Run.of (by decide) (Nat.le_of_ble_eq_true rfl) ?_
  have hok : OkP n k P := hA.1.1.1
  have hP : ∀ j, j < 47 → M 190 j = P j := hI.1.1
  have hn6 := hok.1
  have hk6 := hok.2.1
  have hn : M 190 0 = nI n := (hP 0 (by omega)).trans hok.2.2.1
  have hk : M 190 1 = nI k := (hP 1 (by omega)).trans hok.2.2.2.1
  refine g_iload_n (j := 1) (pc' := 1) dX12_count_0 rfl rfl ?_
  refine g_tblIn (off := 97) (tgt := 98) dX12_count_1 (by decide) (by decide) (by decide) (by decide) ?_
  refine g_aload_n (j := 0) (pc' := 99) dX12_count_98 rfl rfl ?_
  refine g_getR (pc' := 102) dX12_count_99 fX12_7 rfl rfl rfl ?_
  refine g_bipush (v := 40) (pc' := 104) dX12_count_102 (by decide) rfl ?_
  refine g_callS (my := mX12_sumOf) (st := []) (av := [.ref 190, .int 40]) (mcr := 0) (msr := 0) (mc := 0) (ms := 0) (pc' := 107) dX12_count_104 kX12_sumOf wX12_159 rfl (Nat.le_of_ble_eq_true rfl) (by decide) (r_sumOf (c := 190) (f := 40) rfl (by omega) hP) rfl ?_
  rintro _ _ ⟨rfl, rfl⟩
  show Go mX12_count _ _ _ 107 [(0, .ref 189), (1, .int (nI 6))] [.int (sumF (fun i => P (40 + i)) 6)] (SK, M, N) _
  refine g_top (y := sumF (fun i => P (40 + i)) k) ((sum6 hok).2) ?_
  exact g_iret dX12_count_107 rfl rfl (RQ.same hI)
set_option maxRecDepth 100000 in
set_option maxHeartbeats 1000000 in
theorem r_count_7 {M : Nat → Nat → Int32} {N : Nat → Nat → Int64} {n k : Nat} {P : Nat → Int32} {pa : List (Nat → Int32)} {kp : Option YS} {tp : List Int32} {sh : Nat → Option (Nat × Nat × (Nat → Int64))} (hA : AOk ((n, k, P, pa), kp, tp, sh)) (hI : RI M N ((n, k, P, pa), kp, tp, sh))  : Run mX12_count 30 0 0 [.ref 189, .int (nI 7)] (SK, M, N) (RQ M N (cntV P n k pa.length 7) ((n, k, P, pa), kp, tp, sh)) := by
  refine Run.of (by decide) (Nat.le_of_ble_eq_true rfl) ?_
  have hok : OkP n k P := hA.1.1.1
  have hP : ∀ j, j < 47 → M 190 j = P j := hI.1.1
  have hn6 := hok.1
  have hk6 := hok.2.1
  have hn : M 190 0 = nI n := (hP 0 (by omega)).trans hok.2.2.1
  have hk : M 190 1 = nI k := (hP 1 (by omega)).trans hok.2.2.2.1
  refine g_iload_n (j := 1) (pc' := 1) dX12_count_0 rfl rfl ?_
  refine g_tblIn (off := 107) (tgt := 108) dX12_count_1 (by decide) (by decide) (by decide) (by decide) ?_
  refine g_aload_n (j := 0) (pc' := 109) dX12_count_108 rfl rfl ?_
  refine g_callV (my := mX12_wouldBe) (k := 189) (st := []) (av := []) (mcr := 0) (msr := 0) (mc := 0) (ms := 0) (pc' := 112) dX12_count_109 kX12_wouldBe wX12_163 rfl ⟨rfl, rfl⟩ rfl (Nat.le_of_ble_eq_true rfl) (by decide) (r_wouldBe hok hP) rfl ?_
  rintro _ _ ⟨M1, rfl, rfl, hf⟩
  show Go mX12_count _ _ _ 112 [(0, .ref 189), (1, .int (nI 7))] [.int (cnt7 P n k)] (SK, M1, N) _
  exact g_iret dX12_count_112 rfl rfl (RQ.tmp hI (fun a ta => by unfold tmpR at ta; exact hf a (by omega) (by omega) (by omega)))
set_option maxRecDepth 100000 in
set_option maxHeartbeats 1000000 in
theorem r_count_8 {M : Nat → Nat → Int32} {N : Nat → Nat → Int64} {n k : Nat} {P : Nat → Int32} {pa : List (Nat → Int32)} {kp : Option YS} {tp : List Int32} {sh : Nat → Option (Nat × Nat × (Nat → Int64))} (hA : AOk ((n, k, P, pa), kp, tp, sh)) (hI : RI M N ((n, k, P, pa), kp, tp, sh))  : Run mX12_count 30 0 0 [.ref 189, .int (nI 8)] (SK, M, N) (RQ M N (cntV P n k pa.length 8) ((n, k, P, pa), kp, tp, sh)) := by
  refine Run.of (by decide) (Nat.le_of_ble_eq_true rfl) ?_
  have hok : OkP n k P := hA.1.1.1
  have hP : ∀ j, j < 47 → M 190 j = P j := hI.1.1
  have hn6 := hok.1
  have hk6 := hok.2.1
  have hn : M 190 0 = nI n := (hP 0 (by omega)).trans hok.2.2.1
  have hk : M 190 1 = nI k := (hP 1 (by omega)).trans hok.2.2.2.1
  refine g_iload_n (j := 1) (pc' := 1) dX12_count_0 rfl rfl ?_
  refine g_tblIn (off := 112) (tgt := 113) dX12_count_1 (by decide) (by decide) (by decide) (by decide) ?_
  refine g_aload_n (j := 0) (pc' := 114) dX12_count_113 rfl rfl ?_
  refine g_getR (pc' := 117) dX12_count_114 fX12_7 rfl rfl rfl ?_
  refine g_bipush (v := 47) (pc' := 119) dX12_count_117 (by decide) rfl ?_
  refine g_iald (n := 47) (pc' := 120) dX12_count_119 rfl rfl (by omega) rfl ?_
  refine g_top (y := nI pa.length) (hI.1.2.1) ?_
  exact g_iret dX12_count_120 rfl rfl (RQ.same hI)
