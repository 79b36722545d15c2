set_option maxRecDepth 100000 in
set_option maxHeartbeats 1000000 in
theorem r_ahead_b1 {M : Nat → Nat → Int32} {N : Nat → Nat → Int64} {n k : Nat} {P : Nat → Int32} {pa : List (Nat → Int32)} {kp : Option YS} {tp : List Int32} {sh : Nat → Option (Nat × Nat × (Nat → Int64))} (hA : AOk ((n, k, P, pa), kp, tp, sh)) (hI : RI M N ((n, k, P, pa), kp, tp, sh)) {v : Int32} (u z : Int32) (h1 : ∀ m, m < n → v ≠ nI m) : Run mX12_ahead 30 0 0 [.ref 189, .int v, .int u, .int z] (SK, M, N) (RQ M N (-1) ((n, k, P, pa), kp, tp, sh)) := by
  refine Run.of (by decide) (Nat.le_of_ble_eq_true rfl) ?_
  have hok : OkP n k P := hA.1.1.1
  have hP : ∀ j, j < 47 → M 190 j = P j := hI.1.1
  have hn6 := hok.1
  have hk6 := hok.2.1
  have hn : M 190 0 = nI n := (hP 0 (by omega)).trans hok.2.2.1
  have hk : M 190 1 = nI k := (hP 1 (by omega)).trans hok.2.2.2.1
  refine g_aload_n (j := 0) (pc' := 1) dX12_ahead_0 rfl rfl ?_
  refine g_iload_n (j := 1) (pc' := 2) dX12_ahead_1 rfl rfl ?_
  refine g_callV (my := mX12_isMan) (k := 189) (st := []) (av := [.int v]) (mcr := 0) (msr := 0) (mc := 0) (ms := 0) (pc' := 5) dX12_ahead_2 kX12_isMan wX12_84 rfl ⟨rfl, rfl⟩ rfl (Nat.le_of_ble_eq_true rfl) (by decide) (s_isMan0 hn hn6 (h1)) rfl ?_
  rintro _ _ ⟨rfl, rfl⟩
  show Go mX12_ahead _ _ _ 5 [(0, .ref 189), (1, .int v), (2, .int u), (3, .int z)] [.int 0] (SK, M, N) _
  refine g_if_eq (tgt := 32) (pc' := 8) dX12_ahead_5 (by decide) rfl (fun _ => ?_) (fun hc => absurd rfl hc)
  refine g_iconst (v := (-1)) (pc' := 33) dX12_ahead_32 (by decide) rfl ?_
  exact g_iret dX12_ahead_33 rfl rfl (RQ.same hI)
set_option maxRecDepth 100000 in
set_option maxHeartbeats 1000000 in
theorem r_ahead_b2 {M : Nat → Nat → Int32} {N : Nat → Nat → Int64} {n k : Nat} {P : Nat → Int32} {pa : List (Nat → Int32)} {kp : Option YS} {tp : List Int32} {sh : Nat → Option (Nat × Nat × (Nat → Int64))} (hA : AOk ((n, k, P, pa), kp, tp, sh)) (hI : RI M N ((n, k, P, pa), kp, tp, sh)) {m : Nat} {u : Int32} (z : Int32) (hm : m < n) (h1 : u < 0 ∨ 60 < u) : Run mX12_ahead 30 0 0 [.ref 189, .int (nI m), .int u, .int z] (SK, M, N) (RQ M N (-1) ((n, k, P, pa), kp, tp, sh)) := by
  refine Run.of (by decide) (Nat.le_of_ble_eq_true rfl) ?_
  have hok : OkP n k P := hA.1.1.1
  have hP : ∀ j, j < 47 → M 190 j = P j := hI.1.1
  have hn6 := hok.1
  have hk6 := hok.2.1
  have hn : M 190 0 = nI n := (hP 0 (by omega)).trans hok.2.2.1
  have hk : M 190 1 = nI k := (hP 1 (by omega)).trans hok.2.2.2.1
  refine g_aload_n (j := 0) (pc' := 1) dX12_ahead_0 rfl rfl ?_
  refine g_iload_n (j := 1) (pc' := 2) dX12_ahead_1 rfl rfl ?_
  refine g_callV (my := mX12_isMan) (k := 189) (st := []) (av := [.int (nI m)]) (mcr := 0) (msr := 0) (mc := 0) (ms := 0) (pc' := 5) dX12_ahead_2 kX12_isMan wX12_84 rfl ⟨rfl, rfl⟩ rfl (Nat.le_of_ble_eq_true rfl) (by decide) (s_isMan1 hn hn6 (hm)) rfl ?_
  rintro _ _ ⟨rfl, rfl⟩
  show Go mX12_ahead _ _ _ 5 [(0, .ref 189), (1, .int (nI m)), (2, .int u), (3, .int z)] [.int 1] (SK, M, N) _
  refine g_if_eq (tgt := 32) (pc' := 8) dX12_ahead_5 (by decide) rfl (fun hc => absurd hc (by decide)) (fun _ => ?_)
  refine g_iload_n (j := 2) (pc' := 9) dX12_ahead_8 rfl rfl ?_
  refine g_i2l (pc' := 10) dX12_ahead_9 rfl ?_
  refine g_lconst (v := 0) (pc' := 11) dX12_ahead_10 (by decide) rfl ?_
  refine g_ldc2 (v := 60) (pc' := 14) dX12_ahead_11 qX12_181 rfl ?_
  refine g_callS (my := mX12_in) (st := []) (av := [.long (Int32.toInt64 u), .long 0, .long 60]) (mcr := 0) (msr := 0) (mc := 0) (ms := 0) (pc' := 17) dX12_ahead_14 kX12_in wX12_55 rfl (Nat.le_of_ble_eq_true rfl) (by decide) (r_in0 (lo := 0) (hi := 60) (by decide) (by decide) (h1)) rfl ?_
  rintro _ _ ⟨rfl, rfl⟩
  show Go mX12_ahead _ _ _ 17 [(0, .ref 189), (1, .int (nI m)), (2, .int u), (3, .int z)] [.int 0] (SK, M, N) _
  refine g_if_eq (tgt := 32) (pc' := 20) dX12_ahead_17 (by decide) rfl (fun _ => ?_) (fun hc => absurd rfl hc)
  refine g_iconst (v := (-1)) (pc' := 33) dX12_ahead_32 (by decide) rfl ?_
  exact g_iret dX12_ahead_33 rfl rfl (RQ.same hI)
set_option maxRecDepth 100000 in
set_option maxHeartbeats 1000000 in
theorem r_ahead_b3 {M : Nat → Nat → Int32} {N : Nat → Nat → Int64} {n k : Nat} {P : Nat → Int32} {pa : List (Nat → Int32)} {kp : Option YS} {tp : List Int32} {sh : Nat → Option (Nat × Nat × (Nat → Int64))} (hA : AOk ((n, k, P, pa), kp, tp, sh)) (hI : RI M N ((n, k, P, pa), kp, tp, sh)) {m : Nat} {u z : Int32} (hm : m < n) (h1 : ¬ (u < 0 ∨ 60 < u)) (h2 : z < 0 ∨ 2 < z) : Run mX12_ahead 30 0 0 [.ref 189, .int (nI m), .int u, .int z] (SK, M, N) (RQ M N (-1) ((n, k, P, pa), kp, tp, sh)) := by
  refine Run.of (by decide) (Nat.le_of_ble_eq_true rfl) ?_
  have hok : OkP n k P := hA.1.1.1
  have hP : ∀ j, j < 47 → M 190 j = P j := hI.1.1
  have hn6 := hok.1
  have hk6 := hok.2.1
  have hn : M 190 0 = nI n := (hP 0 (by omega)).trans hok.2.2.1
  have hk : M 190 1 = nI k := (hP 1 (by omega)).trans hok.2.2.2.1
  refine g_aload_n (j := 0) (pc' := 1) dX12_ahead_0 rfl rfl ?_
  refine g_iload_n (j := 1) (pc' := 2) dX12_ahead_1 rfl rfl ?_
  refine g_callV (my := mX12_isMan) (k := 189) (st := []) (av := [.int (nI m)]) (mcr := 0) (msr := 0) (mc := 0) (ms := 0) (pc' := 5) dX12_ahead_2 kX12_isMan wX12_84 rfl ⟨rfl, rfl⟩ rfl (Nat.le_of_ble_eq_true rfl) (by decide) (s_isMan1 hn hn6 (hm)) rfl ?_
  rintro _ _ ⟨rfl, rfl⟩
  show Go mX12_ahead _ _ _ 5 [(0, .ref 189), (1, .int (nI m)), (2, .int u), (3, .int z)] [.int 1] (SK, M, N) _
  refine g_if_eq (tgt := 32) (pc' := 8) dX12_ahead_5 (by decide) rfl (fun hc => absurd hc (by decide)) (fun _ => ?_)
  refine g_iload_n (j := 2) (pc' := 9) dX12_ahead_8 rfl rfl ?_
  refine g_i2l (pc' := 10) dX12_ahead_9 rfl ?_
  refine g_lconst (v := 0) (pc' := 11) dX12_ahead_10 (by decide) rfl ?_
  refine g_ldc2 (v := 60) (pc' := 14) dX12_ahead_11 qX12_181 rfl ?_
  refine g_callS (my := mX12_in) (st := []) (av := [.long (Int32.toInt64 u), .long 0, .long 60]) (mcr := 0) (msr := 0) (mc := 0) (ms := 0) (pc' := 17) dX12_ahead_14 kX12_in wX12_55 rfl (Nat.le_of_ble_eq_true rfl) (by decide) (r_in1 (lo := 0) (hi := 60) (by decide) (by decide) (h1)) rfl ?_
  rintro _ _ ⟨rfl, rfl⟩
  show Go mX12_ahead _ _ _ 17 [(0, .ref 189), (1, .int (nI m)), (2, .int u), (3, .int z)] [.int 1] (SK, M, N) _
  refine g_if_eq (tgt := 32) (pc' := 20) dX12_ahead_17 (by decide) rfl (fun hc => absurd hc (by decide)) (fun _ => ?_)
  refine g_iload_n (j := 3) (pc' := 21) dX12_ahead_20 rfl rfl ?_
  refine g_i2l (pc' := 22) dX12_ahead_21 rfl ?_
  refine g_lconst (v := 0) (pc' := 23) dX12_ahead_22 (by decide) rfl ?_
  refine g_ldc2 (v := 2) (pc' := 26) dX12_ahead_23 qX12_95 rfl ?_
  refine g_callS (my := mX12_in) (st := []) (av := [.long (Int32.toInt64 z), .long 0, .long 2]) (mcr := 0) (msr := 0) (mc := 0) (ms := 0) (pc' := 29) dX12_ahead_26 kX12_in wX12_55 rfl (Nat.le_of_ble_eq_true rfl) (by decide) (r_in0 (lo := 0) (hi := 2) (by decide) (by decide) (h2)) rfl ?_
  rintro _ _ ⟨rfl, rfl⟩
  show Go mX12_ahead _ _ _ 29 [(0, .ref 189), (1, .int (nI m)), (2, .int u), (3, .int z)] [.int 0] (SK, M, N) _
  refine g_if_ne (tgt := 34) (pc' := 32) dX12_ahead_29 (by decide) rfl (fun hc => absurd rfl hc) (fun _ => ?_)
  refine g_iconst (v := (-1)) (pc' := 33) dX12_ahead_32 (by decide) rfl ?_
  exact g_iret dX12_ahead_33 rfl rfl (RQ.same hI)
set_option maxRecDepth 100000 in
set_option maxHeartbeats 1000000 in
theorem r_ahead_0 {M : Nat → Nat → Int32} {N : Nat → Nat → Int64} {n k : Nat} {P : Nat → Int32} {pa : List (Nat → Int32)} {kp : Option YS} {tp : List Int32} {sh : Nat → Option (Nat × Nat × (Nat → Int64))} (hA : AOk ((n, k, P, pa), kp, tp, sh)) (hI : RI M N ((n, k, P, pa), kp, tp, sh)) {m t : Nat} (hm : m < n) (ht : t ≤ 60) : Run mX12_ahead 30 0 0 [.ref 189, .int (nI m), .int (nI t), .int (nI 0)] (SK, M, N) (RQ M N (ahV P n k m t 0) ((n, k, P, pa), kp, tp, sh)) := by
  refine Run.of (by decide) (Nat.le_of_ble_eq_true rfl) ?_
  have hok : OkP n k P := hA.1.1.1
  have hP : ∀ j, j < 47 → M 190 j = P j := hI.1.1
  have hn6 := hok.1
  have hk6 := hok.2.1
  have hn : M 190 0 = nI n := (hP 0 (by omega)).trans hok.2.2.1
  have hk : M 190 1 = nI k := (hP 1 (by omega)).trans hok.2.2.2.1
  refine g_aload_n (j := 0) (pc' := 1) dX12_ahead_0 rfl rfl ?_
  refine g_iload_n (j := 1) (pc' := 2) dX12_ahead_1 rfl rfl ?_
  refine g_callV (my := mX12_isMan) (k := 189) (st := []) (av := [.int (nI m)]) (mcr := 0) (msr := 0) (mc := 0) (ms := 0) (pc' := 5) dX12_ahead_2 kX12_isMan wX12_84 rfl ⟨rfl, rfl⟩ rfl (Nat.le_of_ble_eq_true rfl) (by decide) (s_isMan1 hn hn6 (hm)) rfl ?_
  rintro _ _ ⟨rfl, rfl⟩
  show Go mX12_ahead _ _ _ 5 [(0, .ref 189), (1, .int (nI m)), (2, .int (nI t)), (3, .int (nI 0))] [.int 1] (SK, M, N) _
  refine g_if_eq (tgt := 32) (pc' := 8) dX12_ahead_5 (by decide) rfl (fun hc => absurd hc (by decide)) (fun _ => ?_)
  refine g_iload_n (j := 2) (pc' := 9) dX12_ahead_8 rfl rfl ?_
  refine g_i2l (pc' := 10) dX12_ahead_9 rfl ?_
  refine g_lconst (v := 0) (pc' := 11) dX12_ahead_10 (by decide) rfl ?_
  refine g_ldc2 (v := 60) (pc' := 14) dX12_ahead_11 qX12_181 rfl ?_
  refine g_callS (my := mX12_in) (st := []) (av := [.long (Int32.toInt64 (nI t)), .long 0, .long 60]) (mcr := 0) (msr := 0) (mc := 0) (ms := 0) (pc' := 17) dX12_ahead_14 kX12_in wX12_55 rfl (Nat.le_of_ble_eq_true rfl) (by decide) (r_in1 (lo := 0) (hi := 60) (by decide) (by decide) (rng2 (lo := 0) (hi := 60) (Nat.zero_le _) ht (by omega))) rfl ?_
  rintro _ _ ⟨rfl, rfl⟩
  show Go mX12_ahead _ _ _ 17 [(0, .ref 189), (1, .int (nI m)), (2, .int (nI t)), (3, .int (nI 0))] [.int 1] (SK, M, N) _
  refine g_if_eq (tgt := 32) (pc' := 20) dX12_ahead_17 (by decide) rfl (fun hc => absurd hc (by decide)) (fun _ => ?_)
  refine g_iload_n (j := 3) (pc' := 21) dX12_ahead_20 rfl rfl ?_
  refine g_i2l (pc' := 22) dX12_ahead_21 rfl ?_
  refine g_lconst (v := 0) (pc' := 23) dX12_ahead_22 (by decide) rfl ?_
  refine g_ldc2 (v := 2) (pc' := 26) dX12_ahead_23 qX12_95 rfl ?_
  refine g_callS (my := mX12_in) (st := []) (av := [.long (Int32.toInt64 (nI 0)), .long 0, .long 2]) (mcr := 0) (msr := 0) (mc := 0) (ms := 0) (pc' := 29) dX12_ahead_26 kX12_in wX12_55 rfl (Nat.le_of_ble_eq_true rfl) (by decide) (r_in1 (lo := 0) (hi := 2) (by decide) (by decide) (by decide)) rfl ?_
  rintro _ _ ⟨rfl, rfl⟩
  show Go mX12_ahead _ _ _ 29 [(0, .ref 189), (1, .int (nI m)), (2, .int (nI t)), (3, .int (nI 0))] [.int 1] (SK, M, N) _
  refine g_if_ne (tgt := 34) (pc' := 32) dX12_ahead_29 (by decide) rfl (fun _ => ?_) (fun hc => absurd hc (by decide))
  refine g_aload_n (j := 0) (pc' := 35) dX12_ahead_34 rfl rfl ?_
  refine g_callV (my := mX12_layAside) (k := 189) (st := []) (av := []) (mcr := 0) (msr := 0) (mc := 0) (ms := 0) (pc' := 38) dX12_ahead_35 kX12_layAside wX12_183 rfl ⟨rfl, rfl⟩ rfl (Nat.le_of_ble_eq_true rfl) (by decide) (r_layAside hP) rfl ?_
  rintro _ _ ⟨M1, rfl, rfl, h1, hf1⟩
  show Go mX12_ahead _ _ _ 38 [(0, .ref 189), (1, .int (nI m)), (2, .int (nI t)), (3, .int (nI 0))] [] (SK, M1, N) _
  refine g_aload_n (j := 0) (pc' := 39) dX12_ahead_38 rfl rfl ?_
  refine g_iload_n (j := 2) (pc' := 40) dX12_ahead_39 rfl rfl ?_
  refine g_callV (my := mX12_go) (k := 189) (st := []) (av := [.int (nI t)]) (mcr := 0) (msr := 0) (mc := 0) (ms := 0) (pc' := 43) dX12_ahead_40 kX12_go wX12_186 rfl ⟨rfl, rfl⟩ rfl (Nat.le_of_ble_eq_true rfl) (by decide) (r_go (s := 0) (t := t) hok (by omega) (fun j hj => h1 j hj)) rfl ?_
  rintro _ _ ⟨M2, rfl, rfl, h2, hf2⟩
  show Go mX12_ahead _ _ _ 43 [(0, .ref 189), (1, .int (nI m)), (2, .int (nI t)), (3, .int (nI 0))] [] (SK, M2, N) _
  rw [Nat.zero_add] at h2
  refine g_iload_n (j := 3) (pc' := 44) dX12_ahead_43 rfl rfl ?_
  refine g_if_ne (tgt := 59) (pc' := 47) dX12_ahead_44 (by decide) rfl (fun hc => (absurd rfl hc)) (fun hc => ?_)
  refine g_aload_n (j := 0) (pc' := 48) dX12_ahead_47 rfl rfl ?_
  refine g_getR (pc' := 51) dX12_ahead_48 fX12_13 rfl rfl rfl ?_
  refine g_bipush (v := 28) (pc' := 53) dX12_ahead_51 (by decide) rfl ?_
  refine g_iload_n (j := 1) (pc' := 54) dX12_ahead_53 rfl rfl ?_
  refine g_iadd (pc' := 55) dX12_ahead_54 rfl ?_
  refine g_iald (n := 28 + m) (pc' := 56) dX12_ahead_55 rfl (nI_addE rfl rfl) (by omega) rfl ?_
  refine g_top (y := foreP n k P t (28 + m)) (h2 _ (by omega)) ?_
  refine g_goto (tgt := 89) dX12_ahead_56 (by decide) ?_
  exact g_iret dX12_ahead_89 rfl rfl (RQ.tmp hI (fun a ta => by unfold tmpR at ta; rw [hf2 a (by omega) (by omega) (by omega) (by omega)]; exact hf1 a (by omega)))
set_option maxRecDepth 100000 in
set_option maxHeartbeats 1000000 in
theorem r_ahead_1 {M : Nat → Nat → Int32} {N : Nat → Nat → Int64} {n k : Nat} {P : Nat → Int32} {pa : List (Nat → Int32)} {kp : Option YS} {tp : List Int32} {sh : Nat → Option (Nat × Nat × (Nat → Int64))} (hA : AOk ((n, k, P, pa), kp, tp, sh)) (hI : RI M N ((n, k, P, pa), kp, tp, sh)) {m t : Nat} (hm : m < n) (ht : t ≤ 60) : Run mX12_ahead 30 0 0 [.ref 189, .int (nI m), .int (nI t), .int (nI 1)] (SK, M, N) (RQ M N (ahV P n k m t 1) ((n, k, P, pa), kp, tp, sh)) := by
  refine Run.of (by decide) (Nat.le_of_ble_eq_true rfl) ?_
  have hok : OkP n k P := hA.1.1.1
  have hP : ∀ j, j < 47 → M 190 j = P j := hI.1.1
  have hn6 := hok.1
  have hk6 := hok.2.1
  have hn : M 190 0 = nI n := (hP 0 (by omega)).trans hok.2.2.1
  have hk : M 190 1 = nI k := (hP 1 (by omega)).trans hok.2.2.2.1
  refine g_aload_n (j := 0) (pc' := 1) dX12_ahead_0 rfl rfl ?_
  refine g_iload_n (j := 1) (pc' := 2) dX12_ahead_1 rfl rfl ?_
  refine g_callV (my := mX12_isMan) (k := 189) (st := []) (av := [.int (nI m)]) (mcr := 0) (msr := 0) (mc := 0) (ms := 0) (pc' := 5) dX12_ahead_2 kX12_isMan wX12_84 rfl ⟨rfl, rfl⟩ rfl (Nat.le_of_ble_eq_true rfl) (by decide) (s_isMan1 hn hn6 (hm)) rfl ?_
  rintro _ _ ⟨rfl, rfl⟩
  show Go mX12_ahead _ _ _ 5 [(0, .ref 189), (1, .int (nI m)), (2, .int (nI t)), (3, .int (nI 1))] [.int 1] (SK, M, N) _
  refine g_if_eq (tgt := 32) (pc' := 8) dX12_ahead_5 (by decide) rfl (fun hc => absurd hc (by decide)) (fun _ => ?_)
  refine g_iload_n (j := 2) (pc' := 9) dX12_ahead_8 rfl rfl ?_
  refine g_i2l (pc' := 10) dX12_ahead_9 rfl ?_
  refine g_lconst (v := 0) (pc' := 11) dX12_ahead_10 (by decide) rfl ?_
  refine g_ldc2 (v := 60) (pc' := 14) dX12_ahead_11 qX12_181 rfl ?_
  refine g_callS (my := mX12_in) (st := []) (av := [.long (Int32.toInt64 (nI t)), .long 0, .long 60]) (mcr := 0) (msr := 0) (mc := 0) (ms := 0) (pc' := 17) dX12_ahead_14 kX12_in wX12_55 rfl (Nat.le_of_ble_eq_true rfl) (by decide) (r_in1 (lo := 0) (hi := 60) (by decide) (by decide) (rng2 (lo := 0) (hi := 60) (Nat.zero_le _) ht (by omega))) rfl ?_
  rintro _ _ ⟨rfl, rfl⟩
  show Go mX12_ahead _ _ _ 17 [(0, .ref 189), (1, .int (nI m)), (2, .int (nI t)), (3, .int (nI 1))] [.int 1] (SK, M, N) _
  refine g_if_eq (tgt := 32) (pc' := 20) dX12_ahead_17 (by decide) rfl (fun hc => absurd hc (by decide)) (fun _ => ?_)
  refine g_iload_n (j := 3) (pc' := 21) dX12_ahead_20 rfl rfl ?_
  refine g_i2l (pc' := 22) dX12_ahead_21 rfl ?_
  refine g_lconst (v := 0) (pc' := 23) dX12_ahead_22 (by decide) rfl ?_
  refine g_ldc2 (v := 2) (pc' := 26) dX12_ahead_23 qX12_95 rfl ?_
  refine g_callS (my := mX12_in) (st := []) (av := [.long (Int32.toInt64 (nI 1)), .long 0, .long 2]) (mcr := 0) (msr := 0) (mc := 0) (ms := 0) (pc' := 29) dX12_ahead_26 kX12_in wX12_55 rfl (Nat.le_of_ble_eq_true rfl) (by decide) (r_in1 (lo := 0) (hi := 2) (by decide) (by decide) (by decide)) rfl ?_
  rintro _ _ ⟨rfl, rfl⟩
  show Go mX12_ahead _ _ _ 29 [(0, .ref 189), (1, .int (nI m)), (2, .int (nI t)), (3, .int (nI 1))] [.int 1] (SK, M, N) _
  refine g_if_ne (tgt := 34) (pc' := 32) dX12_ahead_29 (by decide) rfl (fun _ => ?_) (fun hc => absurd hc (by decide))
  refine g_aload_n (j := 0) (pc' := 35) dX12_ahead_34 rfl rfl ?_
  refine g_callV (my := mX12_layAside) (k := 189) (st := []) (av := []) (mcr := 0) (msr := 0) (mc := 0) (ms := 0) (pc' := 38) dX12_ahead_35 kX12_layAside wX12_183 rfl ⟨rfl, rfl⟩ rfl (Nat.le_of_ble_eq_true rfl) (by decide) (r_layAside hP) rfl ?_
  rintro _ _ ⟨M1, rfl, rfl, h1, hf1⟩
  show Go mX12_ahead _ _ _ 38 [(0, .ref 189), (1, .int (nI m)), (2, .int (nI t)), (3, .int (nI 1))] [] (SK, M1, N) _
  refine g_aload_n (j := 0) (pc' := 39) dX12_ahead_38 rfl rfl ?_
  refine g_iload_n (j := 2) (pc' := 40) dX12_ahead_39 rfl rfl ?_
  refine g_callV (my := mX12_go) (k := 189) (st := []) (av := [.int (nI t)]) (mcr := 0) (msr := 0) (mc := 0) (ms := 0) (pc' := 43) dX12_ahead_40 kX12_go wX12_186 rfl ⟨rfl, rfl⟩ rfl (Nat.le_of_ble_eq_true rfl) (by decide) (r_go (s := 0) (t := t) hok (by omega) (fun j hj => h1 j hj)) rfl ?_
  rintro _ _ ⟨M2, rfl, rfl, h2, hf2⟩
  show Go mX12_ahead _ _ _ 43 [(0, .ref 189), (1, .int (nI m)), (2, .int (nI t)), (3, .int (nI 1))] [] (SK, M2, N) _
  rw [Nat.zero_add] at h2
  refine g_iload_n (j := 3) (pc' := 44) dX12_ahead_43 rfl rfl ?_
  refine g_if_ne (tgt := 59) (pc' := 47) dX12_ahead_44 (by decide) rfl (fun hc => ?_) (fun hc => (absurd hc (by decide)))
  refine g_iload_n (j := 3) (pc' := 60) dX12_ahead_59 rfl rfl ?_
  refine g_iconst (v := 1) (pc' := 61) dX12_ahead_60 (by decide) rfl ?_
  refine g_icmp_ne (tgt := 80) (pc' := 64) dX12_ahead_61 (by decide) rfl (fun hc => (absurd rfl hc)) (fun hc => ?_)
  refine g_aload_n (j := 0) (pc' := 65) dX12_ahead_64 rfl rfl ?_
  refine g_getR (pc' := 68) dX12_ahead_65 fX12_13 rfl rfl rfl ?_
  refine g_bipush (v := 22) (pc' := 70) dX12_ahead_68 (by decide) rfl ?_
  refine g_iload_n (j := 1) (pc' := 71) dX12_ahead_70 rfl rfl ?_
  refine g_iadd (pc' := 72) dX12_ahead_71 rfl ?_
  refine g_iald (n := 22 + m) (pc' := 73) dX12_ahead_72 rfl (nI_addE rfl rfl) (by omega) rfl ?_
  refine g_top (y := foreP n k P t (22 + m)) (h2 _ (by omega)) ?_
  refine g_sipush (v := 10000) (pc' := 76) dX12_ahead_73 (by decide) rfl ?_
  refine g_iadd (pc' := 77) dX12_ahead_76 rfl ?_
  refine g_goto (tgt := 89) dX12_ahead_77 (by decide) ?_
  exact g_iret dX12_ahead_89 rfl rfl (RQ.tmp hI (fun a ta => by unfold tmpR at ta; rw [hf2 a (by omega) (by omega) (by omega) (by omega)]; exact hf1 a (by omega)))
set_option maxRecDepth 100000 in
set_option maxHeartbeats 1000000 in
theorem r_ahead_2 {M : Nat → Nat → Int32} {N : Nat → Nat → Int64} {n k : Nat} {P : Nat → Int32} {pa : List (Nat → Int32)} {kp : Option YS} {tp : List Int32} {sh : Nat → Option (Nat × Nat × (Nat → Int64))} (hA : AOk ((n, k, P, pa), kp, tp, sh)) (hI : RI M N ((n, k, P, pa), kp, tp, sh)) {m t : Nat} (hm : m < n) (ht : t ≤ 60) : Run mX12_ahead 30 0 0 [.ref 189, .int (nI m), .int (nI t), .int (nI 2)] (SK, M, N) (RQ M N (ahV P n k m t 2) ((n, k, P, pa), kp, tp, sh)) := by
  refine Run.of (by decide) (Nat.le_of_ble_eq_true rfl) ?_
  have hok : OkP n k P := hA.1.1.1
  have hP : ∀ j, j < 47 → M 190 j = P j := hI.1.1
  have hn6 := hok.1
  have hk6 := hok.2.1
  have hn : M 190 0 = nI n := (hP 0 (by omega)).trans hok.2.2.1
  have hk : M 190 1 = nI k := (hP 1 (by omega)).trans hok.2.2.2.1
  refine g_aload_n (j := 0) (pc' := 1) dX12_ahead_0 rfl rfl ?_
  refine g_iload_n (j := 1) (pc' := 2) dX12_ahead_1 rfl rfl ?_
  refine g_callV (my := mX12_isMan) (k := 189) (st := []) (av := [.int (nI m)]) (mcr := 0) (msr := 0) (mc := 0) (ms := 0) (pc' := 5) dX12_ahead_2 kX12_isMan wX12_84 rfl ⟨rfl, rfl⟩ rfl (Nat.le_of_ble_eq_true rfl) (by decide) (s_isMan1 hn hn6 (hm)) rfl ?_
  rintro _ _ ⟨rfl, rfl⟩
  show Go mX12_ahead _ _ _ 5 [(0, .ref 189), (1, .int (nI m)), (2, .int (nI t)), (3, .int (nI 2))] [.int 1] (SK, M, N) _
  refine g_if_eq (tgt := 32) (pc' := 8) dX12_ahead_5 (by decide) rfl (fun hc => absurd hc (by decide)) (fun _ => ?_)
  refine g_iload_n (j := 2) (pc' := 9) dX12_ahead_8 rfl rfl ?_
  refine g_i2l (pc' := 10) dX12_ahead_9 rfl ?_
  refine g_lconst (v := 0) (pc' := 11) dX12_ahead_10 (by decide) rfl ?_
  refine g_ldc2 (v := 60) (pc' := 14) dX12_ahead_11 qX12_181 rfl ?_
  refine g_callS (my := mX12_in) (st := []) (av := [.long (Int32.toInt64 (nI t)), .long 0, .long 60]) (mcr := 0) (msr := 0) (mc := 0) (ms := 0) (pc' := 17) dX12_ahead_14 kX12_in wX12_55 rfl (Nat.le_of_ble_eq_true rfl) (by decide) (r_in1 (lo := 0) (hi := 60) (by decide) (by decide) (rng2 (lo := 0) (hi := 60) (Nat.zero_le _) ht (by omega))) rfl ?_
  rintro _ _ ⟨rfl, rfl⟩
  show Go mX12_ahead _ _ _ 17 [(0, .ref 189), (1, .int (nI m)), (2, .int (nI t)), (3, .int (nI 2))] [.int 1] (SK, M, N) _
  refine g_if_eq (tgt := 32) (pc' := 20) dX12_ahead_17 (by decide) rfl (fun hc => absurd hc (by decide)) (fun _ => ?_)
  refine g_iload_n (j := 3) (pc' := 21) dX12_ahead_20 rfl rfl ?_
  refine g_i2l (pc' := 22) dX12_ahead_21 rfl ?_
  refine g_lconst (v := 0) (pc' := 23) dX12_ahead_22 (by decide) rfl ?_
  refine g_ldc2 (v := 2) (pc' := 26) dX12_ahead_23 qX12_95 rfl ?_
  refine g_callS (my := mX12_in) (st := []) (av := [.long (Int32.toInt64 (nI 2)), .long 0, .long 2]) (mcr := 0) (msr := 0) (mc := 0) (ms := 0) (pc' := 29) dX12_ahead_26 kX12_in wX12_55 rfl (Nat.le_of_ble_eq_true rfl) (by decide) (r_in1 (lo := 0) (hi := 2) (by decide) (by decide) (by decide)) rfl ?_
  rintro _ _ ⟨rfl, rfl⟩
  show Go mX12_ahead _ _ _ 29 [(0, .ref 189), (1, .int (nI m)), (2, .int (nI t)), (3, .int (nI 2))] [.int 1] (SK, M, N) _
  refine g_if_ne (tgt := 34) (pc' := 32) dX12_ahead_29 (by decide) rfl (fun _ => ?_) (fun hc => absurd hc (by decide))
  refine g_aload_n (j := 0) (pc' := 35) dX12_ahead_34 rfl rfl ?_
  refine g_callV (my := mX12_layAside) (k := 189) (st := []) (av := []) (mcr := 0) (msr := 0) (mc := 0) (ms := 0) (pc' := 38) dX12_ahead_35 kX12_layAside wX12_183 rfl ⟨rfl, rfl⟩ rfl (Nat.le_of_ble_eq_true rfl) (by decide) (r_layAside hP) rfl ?_
  rintro _ _ ⟨M1, rfl, rfl, h1, hf1⟩
  show Go mX12_ahead _ _ _ 38 [(0, .ref 189), (1, .int (nI m)), (2, .int (nI t)), (3, .int (nI 2))] [] (SK, M1, N) _
  refine g_aload_n (j := 0) (pc' := 39) dX12_ahead_38 rfl rfl ?_
  refine g_iload_n (j := 2) (pc' := 40) dX12_ahead_39 rfl rfl ?_
  refine g_callV (my := mX12_go) (k := 189) (st := []) (av := [.int (nI t)]) (mcr := 0) (msr := 0) (mc := 0) (ms := 0) (pc' := 43) dX12_ahead_40 kX12_go wX12_186 rfl ⟨rfl, rfl⟩ rfl (Nat.le_of_ble_eq_true rfl) (by decide) (r_go (s := 0) (t := t) hok (by omega) (fun j hj => h1 j hj)) rfl ?_
  rintro _ _ ⟨M2, rfl, rfl, h2, hf2⟩
  show Go mX12_ahead _ _ _ 43 [(0, .ref 189), (1, .int (nI m)), (2, .int (nI t)), (3, .int (nI 2))] [] (SK, M2, N) _
  rw [Nat.zero_add] at h2
  refine g_iload_n (j := 3) (pc' := 44) dX12_ahead_43 rfl rfl ?_
  refine g_if_ne (tgt := 59) (pc' := 47) dX12_ahead_44 (by decide) rfl (fun hc => ?_) (fun hc => (absurd hc (by decide)))
  refine g_iload_n (j := 3) (pc' := 60) dX12_ahead_59 rfl rfl ?_
  refine g_iconst (v := 1) (pc' := 61) dX12_ahead_60 (by decide) rfl ?_
  refine g_icmp_ne (tgt := 80) (pc' := 64) dX12_ahead_61 (by decide) rfl (fun hc => ?_) (fun hc => (absurd hc (by decide)))
  refine g_aload_n (j := 0) (pc' := 81) dX12_ahead_80 rfl rfl ?_
  refine g_getR (pc' := 84) dX12_ahead_81 fX12_13 rfl rfl rfl ?_
  refine g_bipush (v := 10) (pc' := 86) dX12_ahead_84 (by decide) rfl ?_
  refine g_iload_n (j := 1) (pc' := 87) dX12_ahead_86 rfl rfl ?_
  refine g_iadd (pc' := 88) dX12_ahead_87 rfl ?_
  refine g_iald (n := 10 + m) (pc' := 89) dX12_ahead_88 rfl (nI_addE rfl rfl) (by omega) rfl ?_
  refine g_top (y := foreP n k P t (10 + m)) (h2 _ (by omega)) ?_
  exact g_iret dX12_ahead_89 rfl rfl (RQ.tmp hI (fun a ta => by unfold tmpR at ta; rw [hf2 a (by omega) (by omega) (by omega) (by omega)]; exact hf1 a (by omega)))
set_option maxRecDepth 100000 in
set_option maxHeartbeats 1000000 in
theorem r_nameAhead_b1 {M : Nat → Nat → Int32} {N : Nat → Nat → Int64} {n k : Nat} {P : Nat → Int32} {pa : List (Nat → Int32)} {kp : Option YS} {tp : List Int32} {sh : Nat → Option (Nat × Nat × (Nat → Int64))} (hA : AOk ((n, k, P, pa), kp, tp, sh)) (hI : RI M N ((n, k, P, pa), kp, tp, sh)) {v : Int32} (u z : Int32) (h1 : ∀ m, m < k → v ≠ nI m) : Run mX12_nameAhead 30 0 0 [.ref 189, .int v, .int u, .int z] (SK, M, N) (RQ M N (-1) ((n, k, P, pa), kp, tp, sh)) := by
  refine Run.of (by decide) (Nat.le_of_ble_eq_true rfl) ?_
  have hok : OkP n k P := hA.1.1.1
  have hP : ∀ j, j < 47 → M 190 j = P j := hI.1.1
  have hn6 := hok.1
  have hk6 := hok.2.1
  have hn : M 190 0 = nI n := (hP 0 (by omega)).trans hok.2.2.1
  have hk : M 190 1 = nI k := (hP 1 (by omega)).trans hok.2.2.2.1
  refine g_aload_n (j := 0) (pc' := 1) dX12_nameAhead_0 rfl rfl ?_
  refine g_iload_n (j := 1) (pc' := 2) dX12_nameAhead_1 rfl rfl ?_
  refine g_callV (my := mX12_isName) (k := 189) (st := []) (av := [.int v]) (mcr := 0) (msr := 0) (mc := 0) (ms := 0) (pc' := 5) dX12_nameAhead_2 kX12_isName wX12_92 rfl ⟨rfl, rfl⟩ rfl (Nat.le_of_ble_eq_true rfl) (by decide) (s_isName0 hk hk6 (h1)) rfl ?_
  rintro _ _ ⟨rfl, rfl⟩
  show Go mX12_nameAhead _ _ _ 5 [(0, .ref 189), (1, .int v), (2, .int u), (3, .int z)] [.int 0] (SK, M, N) _
  refine g_if_eq (tgt := 27) (pc' := 8) dX12_nameAhead_5 (by decide) rfl (fun _ => ?_) (fun hc => absurd rfl hc)
  refine g_iconst (v := (-1)) (pc' := 28) dX12_nameAhead_27 (by decide) rfl ?_
  exact g_iret dX12_nameAhead_28 rfl rfl (RQ.same hI)
set_option maxRecDepth 100000 in
set_option maxHeartbeats 1000000 in
theorem r_nameAhead_b2 {M : Nat → Nat → Int32} {N : Nat → Nat → Int64} {n k : Nat} {P : Nat → Int32} {pa : List (Nat → Int32)} {kp : Option YS} {tp : List Int32} {sh : Nat → Option (Nat × Nat × (Nat → Int64))} (hA : AOk ((n, k, P, pa), kp, tp, sh)) (hI : RI M N ((n, k, P, pa), kp, tp, sh)) {i : Nat} {u : Int32} (z : Int32) (hi : i < k) (h1 : u < 0 ∨ 60 < u) : Run mX12_nameAhead 30 0 0 [.ref 189, .int (nI i), .int u, .int z] (SK, M, N) (RQ M N (-1) ((n, k, P, pa), kp, tp, sh)) := by
  refine Run.of (by decide) (Nat.le_of_ble_eq_true rfl) ?_
  have hok : OkP n k P := hA.1.1.1
  have hP : ∀ j, j < 47 → M 190 j = P j := hI.1.1
  have hn6 := hok.1
  have hk6 := hok.2.1
  have hn : M 190 0 = nI n := (hP 0 (by omega)).trans hok.2.2.1
  have hk : M 190 1 = nI k := (hP 1 (by omega)).trans hok.2.2.2.1
  refine g_aload_n (j := 0) (pc' := 1) dX12_nameAhead_0 rfl rfl ?_
  refine g_iload_n (j := 1) (pc' := 2) dX12_nameAhead_1 rfl rfl ?_
  refine g_callV (my := mX12_isName) (k := 189) (st := []) (av := [.int (nI i)]) (mcr := 0) (msr := 0) (mc := 0) (ms := 0) (pc' := 5) dX12_nameAhead_2 kX12_isName wX12_92 rfl ⟨rfl, rfl⟩ rfl (Nat.le_of_ble_eq_true rfl) (by decide) (s_isName1 hk hk6 (hi)) rfl ?_
  rintro _ _ ⟨rfl, rfl⟩
  show Go mX12_nameAhead _ _ _ 5 [(0, .ref 189), (1, .int (nI i)), (2, .int u), (3, .int z)] [.int 1] (SK, M, N) _
  refine g_if_eq (tgt := 27) (pc' := 8) dX12_nameAhead_5 (by decide) rfl (fun hc => absurd hc (by decide)) (fun _ => ?_)
  refine g_iload_n (j := 2) (pc' := 9) dX12_nameAhead_8 rfl rfl ?_
  refine g_i2l (pc' := 10) dX12_nameAhead_9 rfl ?_
  refine g_lconst (v := 0) (pc' := 11) dX12_nameAhead_10 (by decide) rfl ?_
  refine g_ldc2 (v := 60) (pc' := 14) dX12_nameAhead_11 qX12_181 rfl ?_
  refine g_callS (my := mX12_in) (st := []) (av := [.long (Int32.toInt64 u), .long 0, .long 60]) (mcr := 0) (msr := 0) (mc := 0) (ms := 0) (pc' := 17) dX12_nameAhead_14 kX12_in wX12_55 rfl (Nat.le_of_ble_eq_true rfl) (by decide) (r_in0 (lo := 0) (hi := 60) (by decide) (by decide) (h1)) rfl ?_
  rintro _ _ ⟨rfl, rfl⟩
  show Go mX12_nameAhead _ _ _ 17 [(0, .ref 189), (1, .int (nI i)), (2, .int u), (3, .int z)] [.int 0] (SK, M, N) _
  refine g_if_eq (tgt := 27) (pc' := 20) dX12_nameAhead_17 (by decide) rfl (fun _ => ?_) (fun hc => absurd rfl hc)
  refine g_iconst (v := (-1)) (pc' := 28) dX12_nameAhead_27 (by decide) rfl ?_
  exact g_iret dX12_nameAhead_28 rfl rfl (RQ.same hI)
set_option maxRecDepth 100000 in
set_option maxHeartbeats 1000000 in
theorem r_nameAhead_b3 {M : Nat → Nat → Int32} {N : Nat → Nat → Int64} {n k : Nat} {P : Nat → Int32} {pa : List (Nat → Int32)} {kp : Option YS} {tp : List Int32} {sh : Nat → Option (Nat × Nat × (Nat → Int64))} (hA : AOk ((n, k, P, pa), kp, tp, sh)) (hI : RI M N ((n, k, P, pa), kp, tp, sh)) {i : Nat} {u z : Int32} (hi : i < k) (h1 : ¬ (u < 0 ∨ 60 < u)) (h2 : z < 0 ∨ 1 < z) : Run mX12_nameAhead 30 0 0 [.ref 189, .int (nI i), .int u, .int z] (SK, M, N) (RQ M N (-1) ((n, k, P, pa), kp, tp, sh)) := by
  refine Run.of (by decide) (Nat.le_of_ble_eq_true rfl) ?_
  have hok : OkP n k P := hA.1.1.1
  have hP : ∀ j, j < 47 → M 190 j = P j := hI.1.1
  have hn6 := hok.1
  have hk6 := hok.2.1
  have hn : M 190 0 = nI n := (hP 0 (by omega)).trans hok.2.2.1
  have hk : M 190 1 = nI k := (hP 1 (by omega)).trans hok.2.2.2.1
  refine g_aload_n (j := 0) (pc' := 1) dX12_nameAhead_0 rfl rfl ?_
  refine g_iload_n (j := 1) (pc' := 2) dX12_nameAhead_1 rfl rfl ?_
  refine g_callV (my := mX12_isName) (k := 189) (st := []) (av := [.int (nI i)]) (mcr := 0) (msr := 0) (mc := 0) (ms := 0) (pc' := 5) dX12_nameAhead_2 kX12_isName wX12_92 rfl ⟨rfl, rfl⟩ rfl (Nat.le_of_ble_eq_true rfl) (by decide) (s_isName1 hk hk6 (hi)) rfl ?_
  rintro _ _ ⟨rfl, rfl⟩
  show Go mX12_nameAhead _ _ _ 5 [(0, .ref 189), (1, .int (nI i)), (2, .int u), (3, .int z)] [.int 1] (SK, M, N) _
  refine g_if_eq (tgt := 27) (pc' := 8) dX12_nameAhead_5 (by decide) rfl (fun hc => absurd hc (by decide)) (fun _ => ?_)
  refine g_iload_n (j := 2) (pc' := 9) dX12_nameAhead_8 rfl rfl ?_
  refine g_i2l (pc' := 10) dX12_nameAhead_9 rfl ?_
  refine g_lconst (v := 0) (pc' := 11) dX12_nameAhead_10 (by decide) rfl ?_
  refine g_ldc2 (v := 60) (pc' := 14) dX12_nameAhead_11 qX12_181 rfl ?_
  refine g_callS (my := mX12_in) (st := []) (av := [.long (Int32.toInt64 u), .long 0, .long 60]) (mcr := 0) (msr := 0) (mc := 0) (ms := 0) (pc' := 17) dX12_nameAhead_14 kX12_in wX12_55 rfl (Nat.le_of_ble_eq_true rfl) (by decide) (r_in1 (lo := 0) (hi := 60) (by decide) (by decide) (h1)) rfl ?_
  rintro _ _ ⟨rfl, rfl⟩
  show Go mX12_nameAhead _ _ _ 17 [(0, .ref 189), (1, .int (nI i)), (2, .int u), (3, .int z)] [.int 1] (SK, M, N) _
  refine g_if_eq (tgt := 27) (pc' := 20) dX12_nameAhead_17 (by decide) rfl (fun hc => absurd hc (by decide)) (fun _ => ?_)
  refine g_iload_n (j := 3) (pc' := 21) dX12_nameAhead_20 rfl rfl ?_
  refine g_callS (my := mX12_isTwo) (st := []) (av := [.int z]) (mcr := 0) (msr := 0) (mc := 0) (ms := 0) (pc' := 24) dX12_nameAhead_21 kX12_isTwo wX12_190 rfl (Nat.le_of_ble_eq_true rfl) (by decide) (s_isTwo0 (h2)) rfl ?_
  rintro _ _ ⟨rfl, rfl⟩
  show Go mX12_nameAhead _ _ _ 24 [(0, .ref 189), (1, .int (nI i)), (2, .int u), (3, .int z)] [.int 0] (SK, M, N) _
  refine g_if_ne (tgt := 29) (pc' := 27) dX12_nameAhead_24 (by decide) rfl (fun hc => absurd rfl hc) (fun _ => ?_)
  refine g_iconst (v := (-1)) (pc' := 28) dX12_nameAhead_27 (by decide) rfl ?_
  exact g_iret dX12_nameAhead_28 rfl rfl (RQ.same hI)
set_option maxRecDepth 100000 in
set_option maxHeartbeats 1000000 in
theorem r_nameAhead_0 {M : Nat → Nat → Int32} {N : Nat → Nat → Int64} {n k : Nat} {P : Nat → Int32} {pa : List (Nat → Int32)} {kp : Option YS} {tp : List Int32} {sh : Nat → Option (Nat × Nat × (Nat → Int64))} (hA : AOk ((n, k, P, pa), kp, tp, sh)) (hI : RI M N ((n, k, P, pa), kp, tp, sh)) {i t : Nat} (hi : i < k) (ht : t ≤ 60) : Run mX12_nameAhead 30 0 0 [.ref 189, .int (nI i), .int (nI t), .int (nI 0)] (SK, M, N) (RQ M N (foreP n k P t (34 + i)) ((n, k, P, pa), kp, tp, sh)) := by
  refine Run.of (by decide) (Nat.le_of_ble_eq_true rfl) ?_
  have hok : OkP n k P := hA.1.1.1
  have hP : ∀ j, j < 47 → M 190 j = P j := hI.1.1
  have hn6 := hok.1
  have hk6 := hok.2.1
  have hn : M 190 0 = nI n := (hP 0 (by omega)).trans hok.2.2.1
  have hk : M 190 1 = nI k := (hP 1 (by omega)).trans hok.2.2.2.1
  refine g_aload_n (j := 0) (pc' := 1) dX12_nameAhead_0 rfl rfl ?_
  refine g_iload_n (j := 1) (pc' := 2) dX12_nameAhead_1 rfl rfl ?_
  refine g_callV (my := mX12_isName) (k := 189) (st := []) (av := [.int (nI i)]) (mcr := 0) (msr := 0) (mc := 0) (ms := 0) (pc' := 5) dX12_nameAhead_2 kX12_isName wX12_92 rfl ⟨rfl, rfl⟩ rfl (Nat.le_of_ble_eq_true rfl) (by decide) (s_isName1 hk hk6 (hi)) rfl ?_
  rintro _ _ ⟨rfl, rfl⟩
  show Go mX12_nameAhead _ _ _ 5 [(0, .ref 189), (1, .int (nI i)), (2, .int (nI t)), (3, .int (nI 0))] [.int 1] (SK, M, N) _
  refine g_if_eq (tgt := 27) (pc' := 8) dX12_nameAhead_5 (by decide) rfl (fun hc => absurd hc (by decide)) (fun _ => ?_)
  refine g_iload_n (j := 2) (pc' := 9) dX12_nameAhead_8 rfl rfl ?_
  refine g_i2l (pc' := 10) dX12_nameAhead_9 rfl ?_
  refine g_lconst (v := 0) (pc' := 11) dX12_nameAhead_10 (by decide) rfl ?_
  refine g_ldc2 (v := 60) (pc' := 14) dX12_nameAhead_11 qX12_181 rfl ?_
  refine g_callS (my := mX12_in) (st := []) (av := [.long (Int32.toInt64 (nI t)), .long 0, .long 60]) (mcr := 0) (msr := 0) (mc := 0) (ms := 0) (pc' := 17) dX12_nameAhead_14 kX12_in wX12_55 rfl (Nat.le_of_ble_eq_true rfl) (by decide) (r_in1 (lo := 0) (hi := 60) (by decide) (by decide) (rng2 (lo := 0) (hi := 60) (Nat.zero_le _) ht (by omega))) rfl ?_
  rintro _ _ ⟨rfl, rfl⟩
  show Go mX12_nameAhead _ _ _ 17 [(0, .ref 189), (1, .int (nI i)), (2, .int (nI t)), (3, .int (nI 0))] [.int 1] (SK, M, N) _
  refine g_if_eq (tgt := 27) (pc' := 20) dX12_nameAhead_17 (by decide) rfl (fun hc => absurd hc (by decide)) (fun _ => ?_)
  refine g_iload_n (j := 3) (pc' := 21) dX12_nameAhead_20 rfl rfl ?_
  refine g_callS (my := mX12_isTwo) (st := []) (av := [.int (nI 0)]) (mcr := 0) (msr := 0) (mc := 0) (ms := 0) (pc' := 24) dX12_nameAhead_21 kX12_isTwo wX12_190 rfl (Nat.le_of_ble_eq_true rfl) (by decide) (s_isTwo1 (by decide)) rfl ?_
  rintro _ _ ⟨rfl, rfl⟩
  show Go mX12_nameAhead _ _ _ 24 [(0, .ref 189), (1, .int (nI i)), (2, .int (nI t)), (3, .int (nI 0))] [.int 1] (SK, M, N) _
  refine g_if_ne (tgt := 29) (pc' := 27) dX12_nameAhead_24 (by decide) rfl (fun _ => ?_) (fun hc => absurd hc (by decide))
  refine g_aload_n (j := 0) (pc' := 30) dX12_nameAhead_29 rfl rfl ?_
  refine g_callV (my := mX12_layAside) (k := 189) (st := []) (av := []) (mcr := 0) (msr := 0) (mc := 0) (ms := 0) (pc' := 33) dX12_nameAhead_30 kX12_layAside wX12_183 rfl ⟨rfl, rfl⟩ rfl (Nat.le_of_ble_eq_true rfl) (by decide) (r_layAside hP) rfl ?_
  rintro _ _ ⟨M1, rfl, rfl, h1, hf1⟩
  show Go mX12_nameAhead _ _ _ 33 [(0, .ref 189), (1, .int (nI i)), (2, .int (nI t)), (3, .int (nI 0))] [] (SK, M1, N) _
  refine g_aload_n (j := 0) (pc' := 34) dX12_nameAhead_33 rfl rfl ?_
  refine g_iload_n (j := 2) (pc' := 35) dX12_nameAhead_34 rfl rfl ?_
  refine g_callV (my := mX12_go) (k := 189) (st := []) (av := [.int (nI t)]) (mcr := 0) (msr := 0) (mc := 0) (ms := 0) (pc' := 38) dX12_nameAhead_35 kX12_go wX12_186 rfl ⟨rfl, rfl⟩ rfl (Nat.le_of_ble_eq_true rfl) (by decide) (r_go (s := 0) (t := t) hok (by omega) (fun j hj => h1 j hj)) rfl ?_
  rintro _ _ ⟨M2, rfl, rfl, h2, hf2⟩
  show Go mX12_nameAhead _ _ _ 38 [(0, .ref 189), (1, .int (nI i)), (2, .int (nI t)), (3, .int (nI 0))] [] (SK, M2, N) _
  rw [Nat.zero_add] at h2
  refine g_aload_n (j := 0) (pc' := 39) dX12_nameAhead_38 rfl rfl ?_
  refine g_getR (pc' := 42) dX12_nameAhead_39 fX12_13 rfl rfl rfl ?_
  refine g_iload_n (j := 3) (pc' := 43) dX12_nameAhead_42 rfl rfl ?_
  refine g_if_ne (tgt := 51) (pc' := 46) dX12_nameAhead_43 (by decide) rfl (fun hc => (absurd rfl hc)) (fun hc => ?_)
  refine g_bipush (v := 34) (pc' := 48) dX12_nameAhead_46 (by decide) rfl ?_
  refine g_goto (tgt := 53) dX12_nameAhead_48 (by decide) ?_
  refine g_iload_n (j := 1) (pc' := 54) dX12_nameAhead_53 rfl rfl ?_
  refine g_iadd (pc' := 55) dX12_nameAhead_54 rfl ?_
  refine g_iald (n := 34 + i) (pc' := 56) dX12_nameAhead_55 rfl (nI_addE rfl rfl) (by omega) rfl ?_
  refine g_top (y := foreP n k P t (34 + i)) (h2 _ (by omega)) ?_
  exact g_iret dX12_nameAhead_56 rfl rfl (RQ.tmp hI (fun a ta => by unfold tmpR at ta; rw [hf2 a (by omega) (by omega) (by omega) (by omega)]; exact hf1 a (by omega)))
set_option maxRecDepth 100000 in
set_option maxHeartbeats 1000000 in
theorem r_nameAhead_1 {M : Nat → Nat → Int32} {N : Nat → Nat → Int64} {n k : Nat} {P : Nat → Int32} {pa : List (Nat → Int32)} {kp : Option YS} {tp : List Int32} {sh : Nat → Option (Nat × Nat × (Nat → Int64))} (hA : AOk ((n, k, P, pa), kp, tp, sh)) (hI : RI M N ((n, k, P, pa), kp, tp, sh)) {i t : Nat} (hi : i < k) (ht : t ≤ 60) : Run mX12_nameAhead 30 0 0 [.ref 189, .int (nI i), .int (nI t), .int (nI 1)] (SK, M, N) (RQ M N (foreP n k P t (40 + i)) ((n, k, P, pa), kp, tp, sh)) := by
  refine Run.of (by decide) (Nat.le_of_ble_eq_true rfl) ?_
  have hok : OkP n k P := hA.1.1.1
  have hP : ∀ j, j < 47 → M 190 j = P j := hI.1.1
  have hn6 := hok.1
  have hk6 := hok.2.1
  have hn : M 190 0 = nI n := (hP 0 (by omega)).trans hok.2.2.1
  have hk : M 190 1 = nI k := (hP 1 (by omega)).trans hok.2.2.2.1
  refine g_aload_n (j := 0) (pc' := 1) dX12_nameAhead_0 rfl rfl ?_
  refine g_iload_n (j := 1) (pc' := 2) dX12_nameAhead_1 rfl rfl ?_
  refine g_callV (my := mX12_isName) (k := 189) (st := []) (av := [.int (nI i)]) (mcr := 0) (msr := 0) (mc := 0) (ms := 0) (pc' := 5) dX12_nameAhead_2 kX12_isName wX12_92 rfl ⟨rfl, rfl⟩ rfl (Nat.le_of_ble_eq_true rfl) (by decide) (s_isName1 hk hk6 (hi)) rfl ?_
  rintro _ _ ⟨rfl, rfl⟩
  show Go mX12_nameAhead _ _ _ 5 [(0, .ref 189), (1, .int (nI i)), (2, .int (nI t)), (3, .int (nI 1))] [.int 1] (SK, M, N) _
  refine g_if_eq (tgt := 27) (pc' := 8) dX12_nameAhead_5 (by decide) rfl (fun hc => absurd hc (by decide)) (fun _ => ?_)
  refine g_iload_n (j := 2) (pc' := 9) dX12_nameAhead_8 rfl rfl ?_
  refine g_i2l (pc' := 10) dX12_nameAhead_9 rfl ?_
  refine g_lconst (v := 0) (pc' := 11) dX12_nameAhead_10 (by decide) rfl ?_
  refine g_ldc2 (v := 60) (pc' := 14) dX12_nameAhead_11 qX12_181 rfl ?_
  refine g_callS (my := mX12_in) (st := []) (av := [.long (Int32.toInt64 (nI t)), .long 0, .long 60]) (mcr := 0) (msr := 0) (mc := 0) (ms := 0) (pc' := 17) dX12_nameAhead_14 kX12_in wX12_55 rfl (Nat.le_of_ble_eq_true rfl) (by decide) (r_in1 (lo := 0) (hi := 60) (by decide) (by decide) (rng2 (lo := 0) (hi := 60) (Nat.zero_le _) ht (by omega))) rfl ?_
  rintro _ _ ⟨rfl, rfl⟩
  show Go mX12_nameAhead _ _ _ 17 [(0, .ref 189), (1, .int (nI i)), (2, .int (nI t)), (3, .int (nI 1))] [.int 1] (SK, M, N) _
  refine g_if_eq (tgt := 27) (pc' := 20) dX12_nameAhead_17 (by decide) rfl (fun hc => absurd hc (by decide)) (fun _ => ?_)
  refine g_iload_n (j := 3) (pc' := 21) dX12_nameAhead_20 rfl rfl ?_
  refine g_callS (my := mX12_isTwo) (st := []) (av := [.int (nI 1)]) (mcr := 0) (msr := 0) (mc := 0) (ms := 0) (pc' := 24) dX12_nameAhead_21 kX12_isTwo wX12_190 rfl (Nat.le_of_ble_eq_true rfl) (by decide) (s_isTwo1 (by decide)) rfl ?_
  rintro _ _ ⟨rfl, rfl⟩
  show Go mX12_nameAhead _ _ _ 24 [(0, .ref 189), (1, .int (nI i)), (2, .int (nI t)), (3, .int (nI 1))] [.int 1] (SK, M, N) _
  refine g_if_ne (tgt := 29) (pc' := 27) dX12_nameAhead_24 (by decide) rfl (fun _ => ?_) (fun hc => absurd hc (by decide))
  refine g_aload_n (j := 0) (pc' := 30) dX12_nameAhead_29 rfl rfl ?_
  refine g_callV (my := mX12_layAside) (k := 189) (st := []) (av := []) (mcr := 0) (msr := 0) (mc := 0) (ms := 0) (pc' := 33) dX12_nameAhead_30 kX12_layAside wX12_183 rfl ⟨rfl, rfl⟩ rfl (Nat.le_of_ble_eq_true rfl) (by decide) (r_layAside hP) rfl ?_
  rintro _ _ ⟨M1, rfl, rfl, h1, hf1⟩
  show Go mX12_nameAhead _ _ _ 33 [(0, .ref 189), (1, .int (nI i)), (2, .int (nI t)), (3, .int (nI 1))] [] (SK, M1, N) _
  refine g_aload_n (j := 0) (pc' := 34) dX12_nameAhead_33 rfl rfl ?_
  refine g_iload_n (j := 2) (pc' := 35) dX12_nameAhead_34 rfl rfl ?_
  refine g_callV (my := mX12_go) (k := 189) (st := []) (av := [.int (nI t)]) (mcr := 0) (msr := 0) (mc := 0) (ms := 0) (pc' := 38) dX12_nameAhead_35 kX12_go wX12_186 rfl ⟨rfl, rfl⟩ rfl (Nat.le_of_ble_eq_true rfl) (by decide) (r_go (s := 0) (t := t) hok (by omega) (fun j hj => h1 j hj)) rfl ?_
  rintro _ _ ⟨M2, rfl, rfl, h2, hf2⟩
  show Go mX12_nameAhead _ _ _ 38 [(0, .ref 189), (1, .int (nI i)), (2, .int (nI t)), (3, .int (nI 1))] [] (SK, M2, N) _
  rw [Nat.zero_add] at h2
  refine g_aload_n (j := 0) (pc' := 39) dX12_nameAhead_38 rfl rfl ?_
  refine g_getR (pc' := 42) dX12_nameAhead_39 fX12_13 rfl rfl rfl ?_
  refine g_iload_n (j := 3) (pc' := 43) dX12_nameAhead_42 rfl rfl ?_
  refine g_if_ne (tgt := 51) (pc' := 46) dX12_nameAhead_43 (by decide) rfl (fun hc => ?_) (fun hc => (absurd hc (by decide)))
  refine g_bipush (v := 40) (pc' := 53) dX12_nameAhead_51 (by decide) rfl ?_
  refine g_iload_n (j := 1) (pc' := 54) dX12_nameAhead_53 rfl rfl ?_
  refine g_iadd (pc' := 55) dX12_nameAhead_54 rfl ?_
  refine g_iald (n := 40 + i) (pc' := 56) dX12_nameAhead_55 rfl (nI_addE rfl rfl) (by omega) rfl ?_
  refine g_top (y := foreP n k P t (40 + i)) (h2 _ (by omega)) ?_
  exact g_iret dX12_nameAhead_56 rfl rfl (RQ.tmp hI (fun a ta => by unfold tmpR at ta; rw [hf2 a (by omega) (by omega) (by omega) (by omega)]; exact hf1 a (by omega)))
