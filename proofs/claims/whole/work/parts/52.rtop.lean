set_option maxRecDepth 100000 in
set_option maxHeartbeats 1000000 in
theorem r_top_b1 {M : Nat → Nat → Int32} {N : Nat → Nat → Int64} {n k : Nat} {P : Nat → Int32} {pa : List (Nat → Int32)} {kp : Option YS} {tp : List Int32} {sh : Nat → Option (Nat × Nat × (Nat → Int64))} (hA : AOk ((n, k, P, pa), kp, tp, sh)) (hI : RI M N ((n, k, P, pa), kp, tp, sh)) {v : Int32} (u : Int32) (h1 : ∀ m, m < n → v ≠ nI m) : Run mX12_top 30 0 0 [.ref 189, .int v, .int u] (SK, M, N) (RQ M N (-1) ((n, k, P, pa), kp, tp, sh)) := by
  refine Run.of (by decide) (Nat.le_of_ble_eq_true rfl) ?_
  have hok : OkP n k P := hA.1.1.1
  have hP : ∀ j, j < 47 → M 190 j = P j := hI.1.1
  have hn6 := hok.1
  have hk6 := hok.2.1
  have hn : M 190 0 = nI n := (hP 0 (by omega)).trans hok.2.2.1
  have hk : M 190 1 = nI k := (hP 1 (by omega)).trans hok.2.2.2.1
  refine g_aload_n (j := 0) (pc' := 1) dX12_top_0 rfl rfl ?_
  refine g_iload_n (j := 1) (pc' := 2) dX12_top_1 rfl rfl ?_
  refine g_callV (my := mX12_isMan) (k := 189) (st := []) (av := [.int v]) (mcr := 0) (msr := 0) (mc := 0) (ms := 0) (pc' := 5) dX12_top_2 kX12_isMan wX12_84 rfl ⟨rfl, rfl⟩ rfl (Nat.le_of_ble_eq_true rfl) (by decide) (s_isMan0 hn hn6 (h1)) rfl ?_
  rintro _ _ ⟨rfl, rfl⟩
  show Go mX12_top _ _ _ 5 [(0, .ref 189), (1, .int v), (2, .int u)] [.int 0] (SK, M, N) _
  refine g_if_eq (tgt := 20) (pc' := 8) dX12_top_5 (by decide) rfl (fun _ => ?_) (fun hc => absurd rfl hc)
  refine g_iconst (v := (-1)) (pc' := 21) dX12_top_20 (by decide) rfl ?_
  exact g_iret dX12_top_21 rfl rfl (RQ.same hI)
set_option maxRecDepth 100000 in
set_option maxHeartbeats 1000000 in
theorem r_top_b2 {M : Nat → Nat → Int32} {N : Nat → Nat → Int64} {n k : Nat} {P : Nat → Int32} {pa : List (Nat → Int32)} {kp : Option YS} {tp : List Int32} {sh : Nat → Option (Nat × Nat × (Nat → Int64))} (hA : AOk ((n, k, P, pa), kp, tp, sh)) (hI : RI M N ((n, k, P, pa), kp, tp, sh)) {m : Nat} {u : Int32} (hm : m < n) (h1 : u < 1 ∨ 60 < u) : Run mX12_top 30 0 0 [.ref 189, .int (nI m), .int u] (SK, M, N) (RQ M N (-1) ((n, k, P, pa), kp, tp, sh)) := by
  refine Run.of (by decide) (Nat.le_of_ble_eq_true rfl) ?_
  have hok : OkP n k P := hA.1.1.1
  have hP : ∀ j, j < 47 → M 190 j = P j := hI.1.1
  have hn6 := hok.1
  have hk6 := hok.2.1
  have hn : M 190 0 = nI n := (hP 0 (by omega)).trans hok.2.2.1
  have hk : M 190 1 = nI k := (hP 1 (by omega)).trans hok.2.2.2.1
  refine g_aload_n (j := 0) (pc' := 1) dX12_top_0 rfl rfl ?_
  refine g_iload_n (j := 1) (pc' := 2) dX12_top_1 rfl rfl ?_
  refine g_callV (my := mX12_isMan) (k := 189) (st := []) (av := [.int (nI m)]) (mcr := 0) (msr := 0) (mc := 0) (ms := 0) (pc' := 5) dX12_top_2 kX12_isMan wX12_84 rfl ⟨rfl, rfl⟩ rfl (Nat.le_of_ble_eq_true rfl) (by decide) (s_isMan1 hn hn6 (hm)) rfl ?_
  rintro _ _ ⟨rfl, rfl⟩
  show Go mX12_top _ _ _ 5 [(0, .ref 189), (1, .int (nI m)), (2, .int u)] [.int 1] (SK, M, N) _
  refine g_if_eq (tgt := 20) (pc' := 8) dX12_top_5 (by decide) rfl (fun hc => absurd hc (by decide)) (fun _ => ?_)
  refine g_iload_n (j := 2) (pc' := 9) dX12_top_8 rfl rfl ?_
  refine g_i2l (pc' := 10) dX12_top_9 rfl ?_
  refine g_lconst (v := 1) (pc' := 11) dX12_top_10 (by decide) rfl ?_
  refine g_ldc2 (v := 60) (pc' := 14) dX12_top_11 qX12_181 rfl ?_
  refine g_callS (my := mX12_in) (st := []) (av := [.long (Int32.toInt64 u), .long 1, .long 60]) (mcr := 0) (msr := 0) (mc := 0) (ms := 0) (pc' := 17) dX12_top_14 kX12_in wX12_55 rfl (Nat.le_of_ble_eq_true rfl) (by decide) (r_in0 (lo := 1) (hi := 60) (by decide) (by decide) (h1)) rfl ?_
  rintro _ _ ⟨rfl, rfl⟩
  show Go mX12_top _ _ _ 17 [(0, .ref 189), (1, .int (nI m)), (2, .int u)] [.int 0] (SK, M, N) _
  refine g_if_ne (tgt := 22) (pc' := 20) dX12_top_17 (by decide) rfl (fun hc => absurd rfl hc) (fun _ => ?_)
  refine g_iconst (v := (-1)) (pc' := 21) dX12_top_20 (by decide) rfl ?_
  exact g_iret dX12_top_21 rfl rfl (RQ.same hI)
set_option maxRecDepth 100000 in
set_option maxHeartbeats 1000000 in
theorem r_top {M : Nat → Nat → Int32} {N : Nat → Nat → Int64} {n k : Nat} {P : Nat → Int32} {pa : List (Nat → Int32)} {kp : Option YS} {tp : List Int32} {sh : Nat → Option (Nat × Nat × (Nat → Int64))} (hA : AOk ((n, k, P, pa), kp, tp, sh)) (hI : RI M N ((n, k, P, pa), kp, tp, sh)) {m t : Nat} (hm : m < n) (ht1 : 1 ≤ t) (ht : t ≤ 60) : Run mX12_top 30 0 0 [.ref 189, .int (nI m), .int (nI t)] (SK, M, N) (RQ M N (nI (topS P n k m t).1) ((n, k, P, pa), kp, tp, sh)) := by
  refine Run.of (by decide) (Nat.le_of_ble_eq_true rfl) ?_
  have hok : OkP n k P := hA.1.1.1
  have hP : ∀ j, j < 47 → M 190 j = P j := hI.1.1
  have hn6 := hok.1
  have hk6 := hok.2.1
  have hn : M 190 0 = nI n := (hP 0 (by omega)).trans hok.2.2.1
  have hk : M 190 1 = nI k := (hP 1 (by omega)).trans hok.2.2.2.1
  refine g_aload_n (j := 0) (pc' := 1) dX12_top_0 rfl rfl ?_
  refine g_iload_n (j := 1) (pc' := 2) dX12_top_1 rfl rfl ?_
  refine g_callV (my := mX12_isMan) (k := 189) (st := []) (av := [.int (nI m)]) (mcr := 0) (msr := 0) (mc := 0) (ms := 0) (pc' := 5) dX12_top_2 kX12_isMan wX12_84 rfl ⟨rfl, rfl⟩ rfl (Nat.le_of_ble_eq_true rfl) (by decide) (s_isMan1 hn hn6 (hm)) rfl ?_
  rintro _ _ ⟨rfl, rfl⟩
  show Go mX12_top _ _ _ 5 [(0, .ref 189), (1, .int (nI m)), (2, .int (nI t))] [.int 1] (SK, M, N) _
  refine g_if_eq (tgt := 20) (pc' := 8) dX12_top_5 (by decide) rfl (fun hc => absurd hc (by decide)) (fun _ => ?_)
  refine g_iload_n (j := 2) (pc' := 9) dX12_top_8 rfl rfl ?_
  refine g_i2l (pc' := 10) dX12_top_9 rfl ?_
  refine g_lconst (v := 1) (pc' := 11) dX12_top_10 (by decide) rfl ?_
  refine g_ldc2 (v := 60) (pc' := 14) dX12_top_11 qX12_181 rfl ?_
  refine g_callS (my := mX12_in) (st := []) (av := [.long (Int32.toInt64 (nI t)), .long 1, .long 60]) (mcr := 0) (msr := 0) (mc := 0) (ms := 0) (pc' := 17) dX12_top_14 kX12_in wX12_55 rfl (Nat.le_of_ble_eq_true rfl) (by decide) (r_in1 (lo := 1) (hi := 60) (by decide) (by decide) (rng2 (lo := 1) (hi := 60) ht1 ht (by omega))) rfl ?_
  rintro _ _ ⟨rfl, rfl⟩
  show Go mX12_top _ _ _ 17 [(0, .ref 189), (1, .int (nI m)), (2, .int (nI t))] [.int 1] (SK, M, N) _
  refine g_if_ne (tgt := 22) (pc' := 20) dX12_top_17 (by decide) rfl (fun _ => ?_) (fun hc => absurd hc (by decide))
  refine g_aload_n (j := 0) (pc' := 23) dX12_top_22 rfl rfl ?_
  refine g_callV (my := mX12_layAside) (k := 189) (st := []) (av := []) (mcr := 0) (msr := 0) (mc := 0) (ms := 0) (pc' := 26) dX12_top_23 kX12_layAside wX12_183 rfl ⟨rfl, rfl⟩ rfl (Nat.le_of_ble_eq_true rfl) (by decide) (r_layAside hP) rfl ?_
  rintro _ _ ⟨M1, rfl, rfl, h1, hf1⟩
  show Go mX12_top _ _ _ 26 [(0, .ref 189), (1, .int (nI m)), (2, .int (nI t))] [] (SK, M1, N) _
  refine g_iconst (v := 0) (pc' := 27) dX12_top_26 (by decide) rfl ?_
  refine g_istore_n (L' := [(0, .ref 189), (1, .int (nI m)), (2, .int (nI t)), (3, .int 0)]) (pc' := 28) dX12_top_27 (by decide) rfl rfl ?_
  refine g_ldc (v := (-1000000)) (pc' := 30) dX12_top_28 qX12_193 rfl ?_
  refine g_istore (L' := [(0, .ref 189), (1, .int (nI m)), (2, .int (nI t)), (3, .int 0), (4, .int (-1000000))]) (pc' := 32) dX12_top_30 (by decide) rfl rfl ?_
  refine g_iconst (v := 1) (pc' := 33) dX12_top_32 (by decide) rfl ?_
  refine g_istore (L' := [(0, .ref 189), (1, .int (nI m)), (2, .int (nI t)), (3, .int 0), (4, .int (-1000000)), (5, .int 1)]) (pc' := 35) dX12_top_33 (by decide) rfl rfl ?_
  have loop : ∀ (j i : Nat) (M2 : Nat → Nat → Int32), i + j = t → (∀ j, j < 47 → M2 191 j = foreP n k P i j) → (∀ a, ¬ tmpR a → M2 a = M a) → Go mX12_top 30 0 0 35 [(0, .ref 189), (1, .int (nI m)), (2, .int (nI t)), (3, .int (nI (topS P n k m i).1)), (4, .int (topS P n k m i).2), (5, .int (nI (i + 1)))] [] (SK, M2, N) (RQ M N (nI (topS P n k m t).1) ((n, k, P, pa), kp, tp, sh)) := by
    intro j
    induction j with
    | zero =>
      intro i M2 hij h2 hf2
      refine g_iload (j := 5) (pc' := 37) dX12_top_35 rfl rfl ?_
      refine g_iload_n (j := 2) (pc' := 38) dX12_top_37 rfl rfl ?_
      refine g_icmp_gt (tgt := 103) (pc' := 41) dX12_top_38 (by decide) rfl (fun hc => ?_) (fun hc => (absurd (nI_lt (a := t) (b := i + 1) (by omega) (by omega)) hc))
      obtain rfl : i = t := by omega
      refine g_iload_n (j := 3) (pc' := 104) dX12_top_103 rfl rfl ?_
      exact g_iret dX12_top_104 rfl rfl (RQ.tmp hI hf2)
    | succ j ih =>
      intro i M2 hij h2 hf2
      refine g_iload (j := 5) (pc' := 37) dX12_top_35 rfl rfl ?_
      refine g_iload_n (j := 2) (pc' := 38) dX12_top_37 rfl rfl ?_
      refine g_icmp_gt (tgt := 103) (pc' := 41) dX12_top_38 (by decide) rfl (fun hc => (absurd hc (nI_nlt (a := t) (b := i + 1) (by omega) (by omega)))) (fun hc => ?_)
      refine g_aload_n (j := 0) (pc' := 42) dX12_top_41 rfl rfl ?_
      refine g_iconst (v := 1) (pc' := 43) dX12_top_42 (by decide) rfl ?_
      refine g_callV (my := mX12_go) (k := 189) (st := []) (av := [.int 1]) (mcr := 0) (msr := 0) (mc := 0) (ms := 0) (pc' := 46) dX12_top_43 kX12_go wX12_186 rfl ⟨rfl, rfl⟩ rfl (Nat.le_of_ble_eq_true rfl) (by decide) (r_go (s := i) (t := 1) hok (by omega) h2) rfl ?_
      rintro _ _ ⟨M3, rfl, rfl, h3, hf3⟩
      show Go mX12_top _ _ _ 46 [(0, .ref 189), (1, .int (nI m)), (2, .int (nI t)), (3, .int (nI ((topS P n k m i).1))), (4, .int ((topS P n k m i).2)), (5, .int (nI (i + 1)))] [] (SK, M3, N) _
      have hv := h3 (22 + m) (by omega)
      have hnx := ih (i + 1) M3 (by omega) h3 (fun a ta => by rw [hf3 a (by unfold tmpR at ta; omega) (by unfold tmpR at ta; omega) (by unfold tmpR at ta; omega) (by unfold tmpR at ta; omega)]; exact hf2 a ta)
      rw [show topS P n k m (i + 1) = if (topS P n k m i).2 < foreP n k P (i + 1) (22 + m) then (i + 1, foreP n k P (i + 1) (22 + m)) else topS P n k m i from rfl] at hnx
      refine g_aload_n (j := 0) (pc' := 47) dX12_top_46 rfl rfl ?_
      refine g_getR (pc' := 50) dX12_top_47 fX12_13 rfl rfl rfl ?_
      refine g_bipush (v := 22) (pc' := 52) dX12_top_50 (by decide) rfl ?_
      refine g_iload_n (j := 1) (pc' := 53) dX12_top_52 rfl rfl ?_
      refine g_iadd (pc' := 54) dX12_top_53 rfl ?_
      refine g_iald (n := 22 + m) (pc' := 55) dX12_top_54 rfl (nI_addE rfl rfl) (by omega) rfl ?_
      refine g_top (y := foreP n k P (i + 1) (22 + m)) (hv) ?_
      refine g_iload (j := 4) (pc' := 57) dX12_top_55 rfl rfl ?_
      refine g_icmp_le (tgt := 65) (pc' := 60) dX12_top_57 (by decide) rfl (fun hc5 => ?_) (fun hc5 => ?_)
      · rw [if_neg (Int32.not_lt.mpr hc5)] at hnx
        refine g_iload_n (j := 3) (pc' := 66) dX12_top_65 rfl rfl ?_
        refine g_istore_n (L' := [(0, .ref 189), (1, .int (nI m)), (2, .int (nI t)), (3, .int (nI ((topS P n k m i).1))), (4, .int ((topS P n k m i).2)), (5, .int (nI (i + 1)))]) (pc' := 67) dX12_top_66 (by decide) rfl rfl ?_
        refine g_aload_n (j := 0) (pc' := 68) dX12_top_67 rfl rfl ?_
        refine g_getR (pc' := 71) dX12_top_68 fX12_13 rfl rfl rfl ?_
        refine g_bipush (v := 22) (pc' := 73) dX12_top_71 (by decide) rfl ?_
        refine g_iload_n (j := 1) (pc' := 74) dX12_top_73 rfl rfl ?_
        refine g_iadd (pc' := 75) dX12_top_74 rfl ?_
        refine g_iald (n := 22 + m) (pc' := 76) dX12_top_75 rfl (nI_addE rfl rfl) (by omega) rfl ?_
        refine g_top (y := foreP n k P (i + 1) (22 + m)) (hv) ?_
        refine g_iload (j := 4) (pc' := 78) dX12_top_76 rfl rfl ?_
        refine g_icmp_le (tgt := 93) (pc' := 81) dX12_top_78 (by decide) rfl (fun hc => ?_) (fun hc => (absurd hc5 hc))
        refine g_iload (j := 4) (pc' := 95) dX12_top_93 rfl rfl ?_
        refine g_istore (L' := [(0, .ref 189), (1, .int (nI m)), (2, .int (nI t)), (3, .int (nI ((topS P n k m i).1))), (4, .int ((topS P n k m i).2)), (5, .int (nI (i + 1)))]) (pc' := 97) dX12_top_95 (by decide) rfl rfl ?_
        refine g_iinc (j := 5) (v := nI (i + 1 + 1)) (L' := [(0, .ref 189), (1, .int (nI m)), (2, .int (nI t)), (3, .int (nI ((topS P n k m i).1))), (4, .int ((topS P n k m i).2)), (5, .int (nI (i + 1 + 1)))]) (pc' := 100) dX12_top_97 rfl (nI_1 (i + 1)) (by decide) rfl rfl ?_
        refine g_goto (tgt := 35) dX12_top_100 (by decide) ?_
        exact hnx
      · rw [if_pos (Int32.not_le.mp hc5)] at hnx
        refine g_iload (j := 5) (pc' := 62) dX12_top_60 rfl rfl ?_
        refine g_goto (tgt := 66) dX12_top_62 (by decide) ?_
        refine g_istore_n (L' := [(0, .ref 189), (1, .int (nI m)), (2, .int (nI t)), (3, .int (nI (i + 1))), (4, .int ((topS P n k m i).2)), (5, .int (nI (i + 1)))]) (pc' := 67) dX12_top_66 (by decide) rfl rfl ?_
        refine g_aload_n (j := 0) (pc' := 68) dX12_top_67 rfl rfl ?_
        refine g_getR (pc' := 71) dX12_top_68 fX12_13 rfl rfl rfl ?_
        refine g_bipush (v := 22) (pc' := 73) dX12_top_71 (by decide) rfl ?_
        refine g_iload_n (j := 1) (pc' := 74) dX12_top_73 rfl rfl ?_
        refine g_iadd (pc' := 75) dX12_top_74 rfl ?_
        refine g_iald (n := 22 + m) (pc' := 76) dX12_top_75 rfl (nI_addE rfl rfl) (by omega) rfl ?_
        refine g_top (y := foreP n k P (i + 1) (22 + m)) (hv) ?_
        refine g_iload (j := 4) (pc' := 78) dX12_top_76 rfl rfl ?_
        refine g_icmp_le (tgt := 93) (pc' := 81) dX12_top_78 (by decide) rfl (fun hc => (absurd hc hc5)) (fun hc => ?_)
        refine g_aload_n (j := 0) (pc' := 82) dX12_top_81 rfl rfl ?_
        refine g_getR (pc' := 85) dX12_top_82 fX12_13 rfl rfl rfl ?_
        refine g_bipush (v := 22) (pc' := 87) dX12_top_85 (by decide) rfl ?_
        refine g_iload_n (j := 1) (pc' := 88) dX12_top_87 rfl rfl ?_
        refine g_iadd (pc' := 89) dX12_top_88 rfl ?_
        refine g_iald (n := 22 + m) (pc' := 90) dX12_top_89 rfl (nI_addE rfl rfl) (by omega) rfl ?_
        refine g_top (y := foreP n k P (i + 1) (22 + m)) (hv) ?_
        refine g_goto (tgt := 95) dX12_top_90 (by decide) ?_
        refine g_istore (L' := [(0, .ref 189), (1, .int (nI m)), (2, .int (nI t)), (3, .int (nI (i + 1))), (4, .int (foreP n k P (i + 1) (22 + m))), (5, .int (nI (i + 1)))]) (pc' := 97) dX12_top_95 (by decide) rfl rfl ?_
        refine g_iinc (j := 5) (v := nI (i + 1 + 1)) (L' := [(0, .ref 189), (1, .int (nI m)), (2, .int (nI t)), (3, .int (nI (i + 1))), (4, .int (foreP n k P (i + 1) (22 + m))), (5, .int (nI (i + 1 + 1)))]) (pc' := 100) dX12_top_97 rfl (nI_1 (i + 1)) (by decide) rfl rfl ?_
        refine g_goto (tgt := 35) dX12_top_100 (by decide) ?_
        exact hnx
  exact loop t 0 M1 (by omega) h1 (fun a ta => hf1 a (by unfold tmpR at ta; omega))
