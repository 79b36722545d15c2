set_option maxRecDepth 100000 in
set_option maxHeartbeats 1000000 in
theorem r_train_b {M : Nat → Nat → Int32} {N : Nat → Nat → Int64} {n k : Nat} {P : Nat → Int32} {pa : List (Nat → Int32)} {kp : Option YS} {tp : List Int32} {sh : Nat → Option (Nat × Nat × (Nat → Int64))} (hA : AOk ((n, k, P, pa), kp, tp, sh)) (hI : RI M N ((n, k, P, pa), kp, tp, sh)) {v : Int32} (h1 : ∀ m, m < n → v ≠ nI m) : Run mX12_train 30 0 0 [.ref 189, .int v] (SK, M, N) (RQ M N (-1) ((n, k, P, pa), kp, tp, sh)) := by
  refine Run.of (by decide) (Nat.le_of_ble_eq_true rfl) ?_
  have hok : OkP n k P := hA.1.1.1
  have hP : ∀ j, j < 47 → M 190 j = P j := hI.1.1
  have hn6 := hok.1
  have hk6 := hok.2.1
  have hn : M 190 0 = nI n := (hP 0 (by omega)).trans hok.2.2.1
  have hk : M 190 1 = nI k := (hP 1 (by omega)).trans hok.2.2.2.1
  refine g_aload_n (j := 0) (pc' := 1) dX12_train_0 rfl rfl ?_
  refine g_iload_n (j := 1) (pc' := 2) dX12_train_1 rfl rfl ?_
  refine g_callV (my := mX12_isMan) (k := 189) (st := []) (av := [.int v]) (mcr := 0) (msr := 0) (mc := 0) (ms := 0) (pc' := 5) dX12_train_2 kX12_isMan wX12_84 rfl ⟨rfl, rfl⟩ rfl (Nat.le_of_ble_eq_true rfl) (by decide) (s_isMan0 hn hn6 (h1)) rfl ?_
  rintro _ _ ⟨rfl, rfl⟩
  show Go mX12_train _ _ _ 5 [(0, .ref 189), (1, .int v)] [.int 0] (SK, M, N) _
  refine g_if_ne (tgt := 10) (pc' := 8) dX12_train_5 (by decide) rfl (fun hc => absurd rfl hc) (fun _ => ?_)
  refine g_iconst (v := (-1)) (pc' := 9) dX12_train_8 (by decide) rfl ?_
  exact g_iret dX12_train_9 rfl rfl (RQ.same hI)
set_option maxRecDepth 100000 in
set_option maxHeartbeats 1000000 in
theorem r_train_n {M : Nat → Nat → Int32} {N : Nat → Nat → Int64} {n k : Nat} {P : Nat → Int32} {pa : List (Nat → Int32)} {kp : Option YS} {tp : List Int32} {sh : Nat → Option (Nat × Nat × (Nat → Int64))} (hA : AOk ((n, k, P, pa), kp, tp, sh)) (hI : RI M N ((n, k, P, pa), kp, tp, sh)) {m : Nat} (hm : m < n) (h9 : P (10 + m) = 9) : Run mX12_train 30 0 0 [.ref 189, .int (nI m)] (SK, M, N) (RQ M N (-2) ((n, k, P, pa), kp, tp, sh)) := by
  refine Run.of (by decide) (Nat.le_of_ble_eq_true rfl) ?_
  have hok : OkP n k P := hA.1.1.1
  have hP : ∀ j, j < 47 → M 190 j = P j := hI.1.1
  have hn6 := hok.1
  have hk6 := hok.2.1
  have hn : M 190 0 = nI n := (hP 0 (by omega)).trans hok.2.2.1
  have hk : M 190 1 = nI k := (hP 1 (by omega)).trans hok.2.2.2.1
  refine g_aload_n (j := 0) (pc' := 1) dX12_train_0 rfl rfl ?_
  refine g_iload_n (j := 1) (pc' := 2) dX12_train_1 rfl rfl ?_
  refine g_callV (my := mX12_isMan) (k := 189) (st := []) (av := [.int (nI m)]) (mcr := 0) (msr := 0) (mc := 0) (ms := 0) (pc' := 5) dX12_train_2 kX12_isMan wX12_84 rfl ⟨rfl, rfl⟩ rfl (Nat.le_of_ble_eq_true rfl) (by decide) (s_isMan1 hn hn6 (hm)) rfl ?_
  rintro _ _ ⟨rfl, rfl⟩
  show Go mX12_train _ _ _ 5 [(0, .ref 189), (1, .int (nI m))] [.int 1] (SK, M, N) _
  refine g_if_ne (tgt := 10) (pc' := 8) dX12_train_5 (by decide) rfl (fun _ => ?_) (fun hc => absurd hc (by decide))
  refine g_aload_n (j := 0) (pc' := 11) dX12_train_10 rfl rfl ?_
  refine g_getR (pc' := 14) dX12_train_11 fX12_7 rfl rfl rfl ?_
  refine g_bipush (v := 10) (pc' := 16) dX12_train_14 (by decide) rfl ?_
  refine g_iload_n (j := 1) (pc' := 17) dX12_train_16 rfl rfl ?_
  refine g_iadd (pc' := 18) dX12_train_17 rfl ?_
  refine g_iald (n := 10 + m) (pc' := 19) dX12_train_18 rfl (nI_addE rfl rfl) (by omega) rfl ?_
  refine g_top (y := 9) ((hP _ (by omega)).trans h9) ?_
  refine g_bipush (v := 9) (pc' := 21) dX12_train_19 (by decide) rfl ?_
  refine g_icmp_ne (tgt := 27) (pc' := 24) dX12_train_21 (by decide) rfl (fun hc => (absurd rfl hc)) (fun hc => ?_)
  refine g_bipush (v := (-2)) (pc' := 26) dX12_train_24 (by decide) rfl ?_
  exact g_iret dX12_train_26 rfl rfl (RQ.same hI)
set_option maxRecDepth 100000 in
set_option maxHeartbeats 1000000 in
theorem r_train {M : Nat → Nat → Int32} {N : Nat → Nat → Int64} {n k : Nat} {P : Nat → Int32} {pa : List (Nat → Int32)} {kp : Option YS} {tp : List Int32} {sh : Nat → Option (Nat × Nat × (Nat → Int64))} (hA : AOk ((n, k, P, pa), kp, tp, sh)) (hI : RI M N ((n, k, P, pa), kp, tp, sh)) {m : Nat} (hm : m < n) (h9 : P (10 + m) < 9) : Run mX12_train 30 0 0 [.ref 189, .int (nI m)] (SK, M, N) (RQ M N (P (10 + m) + 1) ((n, k, upP P (10 + m) (P (10 + m) + 1), keepL P pa), kp, tp, sh)) := by
  refine Run.of (by decide) (Nat.le_of_ble_eq_true rfl) ?_
  have hok : OkP n k P := hA.1.1.1
  have hP : ∀ j, j < 47 → M 190 j = P j := hI.1.1
  have hn6 := hok.1
  have hk6 := hok.2.1
  have hn : M 190 0 = nI n := (hP 0 (by omega)).trans hok.2.2.1
  have hk : M 190 1 = nI k := (hP 1 (by omega)).trans hok.2.2.2.1
  refine g_aload_n (j := 0) (pc' := 1) dX12_train_0 rfl rfl ?_
  refine g_iload_n (j := 1) (pc' := 2) dX12_train_1 rfl rfl ?_
  refine g_callV (my := mX12_isMan) (k := 189) (st := []) (av := [.int (nI m)]) (mcr := 0) (msr := 0) (mc := 0) (ms := 0) (pc' := 5) dX12_train_2 kX12_isMan wX12_84 rfl ⟨rfl, rfl⟩ rfl (Nat.le_of_ble_eq_true rfl) (by decide) (s_isMan1 hn hn6 (hm)) rfl ?_
  rintro _ _ ⟨rfl, rfl⟩
  show Go mX12_train _ _ _ 5 [(0, .ref 189), (1, .int (nI m))] [.int 1] (SK, M, N) _
  refine g_if_ne (tgt := 10) (pc' := 8) dX12_train_5 (by decide) rfl (fun _ => ?_) (fun hc => absurd hc (by decide))
  refine g_aload_n (j := 0) (pc' := 11) dX12_train_10 rfl rfl ?_
  refine g_getR (pc' := 14) dX12_train_11 fX12_7 rfl rfl rfl ?_
  refine g_bipush (v := 10) (pc' := 16) dX12_train_14 (by decide) rfl ?_
  refine g_iload_n (j := 1) (pc' := 17) dX12_train_16 rfl rfl ?_
  refine g_iadd (pc' := 18) dX12_train_17 rfl ?_
  refine g_iald (n := 10 + m) (pc' := 19) dX12_train_18 rfl (nI_addE rfl rfl) (by omega) rfl ?_
  refine g_top (y := P (10 + m)) (hP _ (by omega)) ?_
  refine g_bipush (v := 9) (pc' := 21) dX12_train_19 (by decide) rfl ?_
  refine g_icmp_ne (tgt := 27) (pc' := 24) dX12_train_21 (by decide) rfl (fun hc => ?_) (fun hc => (absurd h9 (by rw [hc]; decide)))
  refine g_aload_n (j := 0) (pc' := 28) dX12_train_27 rfl rfl ?_
  refine g_callV (my := mX12_remember) (k := 189) (st := []) (av := []) (mcr := 0) (msr := 0) (mc := 0) (ms := 0) (pc' := 31) dX12_train_28 kX12_remember wX12_168 rfl ⟨rfl, rfl⟩ rfl (Nat.le_of_ble_eq_true rfl) (by decide) (r_remember hA.1.2.1 hI.1) rfl ?_
  rintro _ _ ⟨M1, rfl, rfl, hY, hf1⟩
  show Go mX12_train _ _ _ 31 [(0, .ref 189), (1, .int (nI m))] [] (SK, M1, N) _
  have hP1 : ∀ j, j < 47 → M1 190 j = P j := hY.1
  refine g_aload_n (j := 0) (pc' := 32) dX12_train_31 rfl rfl ?_
  refine g_getR (pc' := 35) dX12_train_32 fX12_7 rfl rfl rfl ?_
  refine g_bipush (v := 10) (pc' := 37) dX12_train_35 (by decide) rfl ?_
  refine g_iload_n (j := 1) (pc' := 38) dX12_train_37 rfl rfl ?_
  refine g_iadd (pc' := 39) dX12_train_38 rfl ?_
  refine g_dup2 (pc' := 40) dX12_train_39 rfl rfl rfl ?_
  refine g_iald (n := 10 + m) (pc' := 41) dX12_train_40 rfl (nI_addE rfl rfl) (by omega) rfl ?_
  refine g_top (y := P (10 + m)) (hP1 _ (by omega)) ?_
  refine g_iconst (v := 1) (pc' := 42) dX12_train_41 (by decide) rfl ?_
  refine g_iadd (pc' := 43) dX12_train_42 rfl ?_
  refine g_iast (n := 10 + m) (pc' := 44) dX12_train_43 rfl (nI_addE rfl rfl) (by omega) rfl ?_
  refine g_aload_n (j := 0) (pc' := 45) dX12_train_44 rfl rfl ?_
  refine g_getR (pc' := 48) dX12_train_45 fX12_7 rfl rfl rfl ?_
  refine g_bipush (v := 10) (pc' := 50) dX12_train_48 (by decide) rfl ?_
  refine g_iload_n (j := 1) (pc' := 51) dX12_train_50 rfl rfl ?_
  refine g_iadd (pc' := 52) dX12_train_51 rfl ?_
  refine g_iald (n := 10 + m) (pc' := 53) dX12_train_52 rfl (nI_addE rfl rfl) (by omega) rfl ?_
  refine g_top (y := (P (10 + m)) + 1) (by simp (disch := omega) only [um_ne, um_at, um_at2, cpy2_ne]) ?_
  exact g_iret dX12_train_53 rfl rfl (RQ.now hI (hY.up (by omega)) (fun a _ ha => by rw [um_ne ha]; exact hf1 a ha))
set_option maxRecDepth 100000 in
set_option maxHeartbeats 1000000 in
theorem r_hire_b1 {M : Nat → Nat → Int32} {N : Nat → Nat → Int64} {n k : Nat} {P : Nat → Int32} {pa : List (Nat → Int32)} {kp : Option YS} {tp : List Int32} {sh : Nat → Option (Nat × Nat × (Nat → Int64))} (hA : AOk ((n, k, P, pa), kp, tp, sh)) (hI : RI M N ((n, k, P, pa), kp, tp, sh)) {v : Int32} (u : Int32) (h1 : ∀ m, m < n → v ≠ nI m) : Run mX12_hire 30 0 0 [.ref 189, .int v, .int u] (SK, M, N) (RQ M N (-1) ((n, k, P, pa), kp, tp, sh)) := by
  refine Run.of (by decide) (Nat.le_of_ble_eq_true rfl) ?_
  have hok : OkP n k P := hA.1.1.1
  have hP : ∀ j, j < 47 → M 190 j = P j := hI.1.1
  have hn6 := hok.1
  have hk6 := hok.2.1
  have hn : M 190 0 = nI n := (hP 0 (by omega)).trans hok.2.2.1
  have hk : M 190 1 = nI k := (hP 1 (by omega)).trans hok.2.2.2.1
  refine g_aload_n (j := 0) (pc' := 1) dX12_hire_0 rfl rfl ?_
  refine g_iload_n (j := 1) (pc' := 2) dX12_hire_1 rfl rfl ?_
  refine g_callV (my := mX12_isMan) (k := 189) (st := []) (av := [.int v]) (mcr := 0) (msr := 0) (mc := 0) (ms := 0) (pc' := 5) dX12_hire_2 kX12_isMan wX12_84 rfl ⟨rfl, rfl⟩ rfl (Nat.le_of_ble_eq_true rfl) (by decide) (s_isMan0 hn hn6 (h1)) rfl ?_
  rintro _ _ ⟨rfl, rfl⟩
  show Go mX12_hire _ _ _ 5 [(0, .ref 189), (1, .int v), (2, .int u)] [.int 0] (SK, M, N) _
  refine g_if_eq (tgt := 20) (pc' := 8) dX12_hire_5 (by decide) rfl (fun _ => ?_) (fun hc => absurd rfl hc)
  refine g_iconst (v := (-1)) (pc' := 21) dX12_hire_20 (by decide) rfl ?_
  exact g_iret dX12_hire_21 rfl rfl (RQ.same hI)
set_option maxRecDepth 100000 in
set_option maxHeartbeats 1000000 in
theorem r_hire_b2 {M : Nat → Nat → Int32} {N : Nat → Nat → Int64} {n k : Nat} {P : Nat → Int32} {pa : List (Nat → Int32)} {kp : Option YS} {tp : List Int32} {sh : Nat → Option (Nat × Nat × (Nat → Int64))} (hA : AOk ((n, k, P, pa), kp, tp, sh)) (hI : RI M N ((n, k, P, pa), kp, tp, sh)) {m : Nat} {u : Int32} (hm : m < n) (h1 : u < 1 ∨ 4 < u) : Run mX12_hire 30 0 0 [.ref 189, .int (nI m), .int u] (SK, M, N) (RQ M N (-1) ((n, k, P, pa), kp, tp, sh)) := by
  refine Run.of (by decide) (Nat.le_of_ble_eq_true rfl) ?_
  have hok : OkP n k P := hA.1.1.1
  have hP : ∀ j, j < 47 → M 190 j = P j := hI.1.1
  have hn6 := hok.1
  have hk6 := hok.2.1
  have hn : M 190 0 = nI n := (hP 0 (by omega)).trans hok.2.2.1
  have hk : M 190 1 = nI k := (hP 1 (by omega)).trans hok.2.2.2.1
  refine g_aload_n (j := 0) (pc' := 1) dX12_hire_0 rfl rfl ?_
  refine g_iload_n (j := 1) (pc' := 2) dX12_hire_1 rfl rfl ?_
  refine g_callV (my := mX12_isMan) (k := 189) (st := []) (av := [.int (nI m)]) (mcr := 0) (msr := 0) (mc := 0) (ms := 0) (pc' := 5) dX12_hire_2 kX12_isMan wX12_84 rfl ⟨rfl, rfl⟩ rfl (Nat.le_of_ble_eq_true rfl) (by decide) (s_isMan1 hn hn6 (hm)) rfl ?_
  rintro _ _ ⟨rfl, rfl⟩
  show Go mX12_hire _ _ _ 5 [(0, .ref 189), (1, .int (nI m)), (2, .int u)] [.int 1] (SK, M, N) _
  refine g_if_eq (tgt := 20) (pc' := 8) dX12_hire_5 (by decide) rfl (fun hc => absurd hc (by decide)) (fun _ => ?_)
  refine g_iload_n (j := 2) (pc' := 9) dX12_hire_8 rfl rfl ?_
  refine g_i2l (pc' := 10) dX12_hire_9 rfl ?_
  refine g_lconst (v := 1) (pc' := 11) dX12_hire_10 (by decide) rfl ?_
  refine g_ldc2 (v := 4) (pc' := 14) dX12_hire_11 qX12_78 rfl ?_
  refine g_callS (my := mX12_in) (st := []) (av := [.long (Int32.toInt64 u), .long 1, .long 4]) (mcr := 0) (msr := 0) (mc := 0) (ms := 0) (pc' := 17) dX12_hire_14 kX12_in wX12_55 rfl (Nat.le_of_ble_eq_true rfl) (by decide) (r_in0 (lo := 1) (hi := 4) (by decide) (by decide) (h1)) rfl ?_
  rintro _ _ ⟨rfl, rfl⟩
  show Go mX12_hire _ _ _ 17 [(0, .ref 189), (1, .int (nI m)), (2, .int u)] [.int 0] (SK, M, N) _
  refine g_if_ne (tgt := 22) (pc' := 20) dX12_hire_17 (by decide) rfl (fun hc => absurd rfl hc) (fun _ => ?_)
  refine g_iconst (v := (-1)) (pc' := 21) dX12_hire_20 (by decide) rfl ?_
  exact g_iret dX12_hire_21 rfl rfl (RQ.same hI)
set_option maxRecDepth 100000 in
set_option maxHeartbeats 1000000 in
theorem r_hire {M : Nat → Nat → Int32} {N : Nat → Nat → Int64} {n k : Nat} {P : Nat → Int32} {pa : List (Nat → Int32)} {kp : Option YS} {tp : List Int32} {sh : Nat → Option (Nat × Nat × (Nat → Int64))} (hA : AOk ((n, k, P, pa), kp, tp, sh)) (hI : RI M N ((n, k, P, pa), kp, tp, sh)) {m : Nat} {u : Int32} (hm : m < n) (h1 : ¬ (u < 1 ∨ 4 < u)) : Run mX12_hire 30 0 0 [.ref 189, .int (nI m), .int u] (SK, M, N) (RQ M N (P (16 + m)) ((n, k, upP P (16 + m) u, keepL P pa), kp, tp, sh)) := by
  refine Run.of (by decide) (Nat.le_of_ble_eq_true rfl) ?_
  have hok : OkP n k P := hA.1.1.1
  have hP : ∀ j, j < 47 → M 190 j = P j := hI.1.1
  have hn6 := hok.1
  have hk6 := hok.2.1
  have hn : M 190 0 = nI n := (hP 0 (by omega)).trans hok.2.2.1
  have hk : M 190 1 = nI k := (hP 1 (by omega)).trans hok.2.2.2.1
  refine g_aload_n (j := 0) (pc' := 1) dX12_hire_0 rfl rfl ?_
  refine g_iload_n (j := 1) (pc' := 2) dX12_hire_1 rfl rfl ?_
  refine g_callV (my := mX12_isMan) (k := 189) (st := []) (av := [.int (nI m)]) (mcr := 0) (msr := 0) (mc := 0) (ms := 0) (pc' := 5) dX12_hire_2 kX12_isMan wX12_84 rfl ⟨rfl, rfl⟩ rfl (Nat.le_of_ble_eq_true rfl) (by decide) (s_isMan1 hn hn6 (hm)) rfl ?_
  rintro _ _ ⟨rfl, rfl⟩
  show Go mX12_hire _ _ _ 5 [(0, .ref 189), (1, .int (nI m)), (2, .int u)] [.int 1] (SK, M, N) _
  refine g_if_eq (tgt := 20) (pc' := 8) dX12_hire_5 (by decide) rfl (fun hc => absurd hc (by decide)) (fun _ => ?_)
  refine g_iload_n (j := 2) (pc' := 9) dX12_hire_8 rfl rfl ?_
  refine g_i2l (pc' := 10) dX12_hire_9 rfl ?_
  refine g_lconst (v := 1) (pc' := 11) dX12_hire_10 (by decide) rfl ?_
  refine g_ldc2 (v := 4) (pc' := 14) dX12_hire_11 qX12_78 rfl ?_
  refine g_callS (my := mX12_in) (st := []) (av := [.long (Int32.toInt64 u), .long 1, .long 4]) (mcr := 0) (msr := 0) (mc := 0) (ms := 0) (pc' := 17) dX12_hire_14 kX12_in wX12_55 rfl (Nat.le_of_ble_eq_true rfl) (by decide) (r_in1 (lo := 1) (hi := 4) (by decide) (by decide) (h1)) rfl ?_
  rintro _ _ ⟨rfl, rfl⟩
  show Go mX12_hire _ _ _ 17 [(0, .ref 189), (1, .int (nI m)), (2, .int u)] [.int 1] (SK, M, N) _
  refine g_if_ne (tgt := 22) (pc' := 20) dX12_hire_17 (by decide) rfl (fun _ => ?_) (fun hc => absurd hc (by decide))
  refine g_aload_n (j := 0) (pc' := 23) dX12_hire_22 rfl rfl ?_
  refine g_callV (my := mX12_remember) (k := 189) (st := []) (av := []) (mcr := 0) (msr := 0) (mc := 0) (ms := 0) (pc' := 26) dX12_hire_23 kX12_remember wX12_168 rfl ⟨rfl, rfl⟩ rfl (Nat.le_of_ble_eq_true rfl) (by decide) (r_remember hA.1.2.1 hI.1) rfl ?_
  rintro _ _ ⟨M1, rfl, rfl, hY, hf1⟩
  show Go mX12_hire _ _ _ 26 [(0, .ref 189), (1, .int (nI m)), (2, .int u)] [] (SK, M1, N) _
  have hP1 : ∀ j, j < 47 → M1 190 j = P j := hY.1
  refine g_aload_n (j := 0) (pc' := 27) dX12_hire_26 rfl rfl ?_
  refine g_bipush (v := 16) (pc' := 29) dX12_hire_27 (by decide) rfl ?_
  refine g_iload_n (j := 1) (pc' := 30) dX12_hire_29 rfl rfl ?_
  refine g_iadd (pc' := 31) dX12_hire_30 rfl ?_
  refine g_top (y := nI (16 + m)) (nI_add 16 m) ?_
  refine g_iload_n (j := 2) (pc' := 32) dX12_hire_31 rfl rfl ?_
  refine g_callV (my := mX12_becomes) (k := 189) (st := []) (av := [.int (nI (16 + m)), .int u]) (mcr := 0) (msr := 0) (mc := 0) (ms := 0) (pc' := 35) dX12_hire_32 kX12_becomes wX12_100 rfl ⟨rfl, rfl⟩ rfl (Nat.le_of_ble_eq_true rfl) (by decide) (s_becomes (w := 16 + m) u (by omega)) rfl ?_
  rintro _ _ ⟨rfl, rfl⟩
  show Go mX12_hire _ _ _ 35 [(0, .ref 189), (1, .int (nI m)), (2, .int u)] [.int (M1 190 (16 + m))] (SK, (um M1 190 (16 + m) u), N) _
  refine g_top (y := P (16 + m)) (hP1 _ (by omega)) ?_
  exact g_iret dX12_hire_35 rfl rfl (RQ.now hI (hY.up (by omega)) (fun a _ ha => by rw [um_ne ha]; exact hf1 a ha))
