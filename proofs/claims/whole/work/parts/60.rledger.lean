theorem ldB_0 {P : Nat → Int32} {n k m i q : Nat} {f : Nat → Int64} : ldB P n k m f i 0 q = true := decide_eq_true (fun t ht => absurd ht (Nat.not_lt_zero _))
theorem ldB_y {P : Nat → Int32} {n k m i t q : Nat} {f : Nat → Int64} (h : ldB P n k m f i t q = true) (h1 : (unN (foreP n k (upP P (4 + m) (nI q)) (t + 1) (28 + m))).toInt64 = f (i + t)) : ldB P n k m f i (t + 1) q = true := by
  have h2 := of_decide_eq_true h
  refine decide_eq_true (fun u hu => ?_)
  by_cases e : u = t
  · subst e; exact h1
  · exact h2 u (by omega)
theorem ldB_n {P : Nat → Int32} {n k m i t q : Nat} {f : Nat → Int64} (h1 : ¬ (unN (foreP n k (upP P (4 + m) (nI q)) (t + 1) (28 + m))).toInt64 = f (i + t)) : ldB P n k m f i (t + 1) q = false := decide_eq_false (fun h => h1 (h t (by omega)))
theorem ldB_f {P : Nat → Int32} {n k m i t q : Nat} {f : Nat → Int64} (h : ldB P n k m f i t q = false) : ldB P n k m f i (t + 1) q = false := by
  have h2 := of_decide_eq_false h
  exact decide_eq_false (fun h3 => h2 (fun u hu => h3 u (by omega)))
set_option maxRecDepth 100000 in
set_option maxHeartbeats 1000000 in
theorem r_ledger_b1 {M : Nat → Nat → Int32} {N : Nat → Nat → Int64} {n k : Nat} {P : Nat → Int32} {pa : List (Nat → Int32)} {kp : Option YS} {tp : List Int32} {sh : Nat → Option (Nat × Nat × (Nat → Int64))} (hA : AOk ((n, k, P, pa), kp, tp, sh)) (hI : RI M N ((n, k, P, pa), kp, tp, sh)) {v : Int32} (u z i x : Int32) (h1 : ∀ m, m < n → v ≠ nI m) : Run mX12_ledger 30 0 0 [.ref 189, .int v, .int u, .int z, .int i, .int x] (SK, M, N) (RQ M N (-1) ((n, k, P, pa), kp, tp, sh)) := by
  refine Run.of (by decide) (Nat.le_of_ble_eq_true rfl) ?_
  have hok : OkP n k P := hA.1.1.1
  have hP : ∀ j, j < 47 → M 190 j = P j := hI.1.1
  have hn6 := hok.1
  have hk6 := hok.2.1
  have hn : M 190 0 = nI n := (hP 0 (by omega)).trans hok.2.2.1
  have hk : M 190 1 = nI k := (hP 1 (by omega)).trans hok.2.2.2.1
  refine g_aload_n (j := 0) (pc' := 1) dX12_ledger_0 rfl rfl ?_
  refine g_iload_n (j := 1) (pc' := 2) dX12_ledger_1 rfl rfl ?_
  refine g_callV (my := mX12_isMan) (k := 189) (st := []) (av := [.int v]) (mcr := 0) (msr := 0) (mc := 0) (ms := 0) (pc' := 5) dX12_ledger_2 kX12_isMan wX12_84 rfl ⟨rfl, rfl⟩ rfl (Nat.le_of_ble_eq_true rfl) (by decide) (s_isMan0 hn hn6 (h1)) rfl ?_
  rintro _ _ ⟨rfl, rfl⟩
  show Go mX12_ledger _ _ _ 5 [(0, .ref 189), (1, .int v), (2, .int u), (3, .int z), (4, .int i), (5, .int x)] [.int 0] (SK, M, N) _
  refine g_if_eq (tgt := 29) (pc' := 8) dX12_ledger_5 (by decide) rfl (fun _ => ?_) (fun hc => absurd rfl hc)
  refine g_iconst (v := (-1)) (pc' := 30) dX12_ledger_29 (by decide) rfl ?_
  exact g_iret dX12_ledger_30 rfl rfl (RQ.same hI)
set_option maxRecDepth 100000 in
set_option maxHeartbeats 1000000 in
theorem r_ledger_b2 {M : Nat → Nat → Int32} {N : Nat → Nat → Int64} {n k : Nat} {P : Nat → Int32} {pa : List (Nat → Int32)} {kp : Option YS} {tp : List Int32} {sh : Nat → Option (Nat × Nat × (Nat → Int64))} (hA : AOk ((n, k, P, pa), kp, tp, sh)) (hI : RI M N ((n, k, P, pa), kp, tp, sh)) {m : Nat} (u z i : Int32) {x : Int32} (hm : m < n) (h1 : x < 1 ∨ 8 < x) : Run mX12_ledger 30 0 0 [.ref 189, .int (nI m), .int u, .int z, .int i, .int x] (SK, M, N) (RQ M N (-1) ((n, k, P, pa), kp, tp, sh)) := by
  refine Run.of (by decide) (Nat.le_of_ble_eq_true rfl) ?_
  have hok : OkP n k P := hA.1.1.1
  have hP : ∀ j, j < 47 → M 190 j = P j := hI.1.1
  have hn6 := hok.1
  have hk6 := hok.2.1
  have hn : M 190 0 = nI n := (hP 0 (by omega)).trans hok.2.2.1
  have hk : M 190 1 = nI k := (hP 1 (by omega)).trans hok.2.2.2.1
  refine g_aload_n (j := 0) (pc' := 1) dX12_ledger_0 rfl rfl ?_
  refine g_iload_n (j := 1) (pc' := 2) dX12_ledger_1 rfl rfl ?_
  refine g_callV (my := mX12_isMan) (k := 189) (st := []) (av := [.int (nI m)]) (mcr := 0) (msr := 0) (mc := 0) (ms := 0) (pc' := 5) dX12_ledger_2 kX12_isMan wX12_84 rfl ⟨rfl, rfl⟩ rfl (Nat.le_of_ble_eq_true rfl) (by decide) (s_isMan1 hn hn6 (hm)) rfl ?_
  rintro _ _ ⟨rfl, rfl⟩
  show Go mX12_ledger _ _ _ 5 [(0, .ref 189), (1, .int (nI m)), (2, .int u), (3, .int z), (4, .int i), (5, .int x)] [.int 1] (SK, M, N) _
  refine g_if_eq (tgt := 29) (pc' := 8) dX12_ledger_5 (by decide) rfl (fun hc => absurd hc (by decide)) (fun _ => ?_)
  by_cases hq : (u < 0 ∨ 3 < u) ∨ (z < 0 ∨ 3 < z)
  · refine g_iload_n (j := 2) (pc' := 9) dX12_ledger_8 rfl rfl ?_
    refine g_iload_n (j := 3) (pc' := 10) dX12_ledger_9 rfl rfl ?_
    refine g_callS (my := mX12_isSheet) (st := []) (av := [.int u, .int z]) (mcr := 0) (msr := 0) (mc := 0) (ms := 0) (pc' := 13) dX12_ledger_10 kX12_isSheet wX12_207 rfl (Nat.le_of_ble_eq_true rfl) (by decide) (s_isSheet0 hq) rfl ?_
    rintro _ _ ⟨rfl, rfl⟩
    show Go mX12_ledger _ _ _ 13 [(0, .ref 189), (1, .int (nI m)), (2, .int u), (3, .int z), (4, .int i), (5, .int x)] [.int 0] (SK, M, N) _
    refine g_if_eq (tgt := 29) (pc' := 16) dX12_ledger_13 (by decide) rfl (fun _ => ?_) (fun hc => absurd rfl hc)
    refine g_iconst (v := (-1)) (pc' := 30) dX12_ledger_29 (by decide) rfl ?_
    exact g_iret dX12_ledger_30 rfl rfl (RQ.same hI)
  · refine g_iload_n (j := 2) (pc' := 9) dX12_ledger_8 rfl rfl ?_
    refine g_iload_n (j := 3) (pc' := 10) dX12_ledger_9 rfl rfl ?_
    refine g_callS (my := mX12_isSheet) (st := []) (av := [.int u, .int z]) (mcr := 0) (msr := 0) (mc := 0) (ms := 0) (pc' := 13) dX12_ledger_10 kX12_isSheet wX12_207 rfl (Nat.le_of_ble_eq_true rfl) (by decide) (s_isSheet1 (fun q => hq (Or.inl q)) (fun q => hq (Or.inr q))) rfl ?_
    rintro _ _ ⟨rfl, rfl⟩
    show Go mX12_ledger _ _ _ 13 [(0, .ref 189), (1, .int (nI m)), (2, .int u), (3, .int z), (4, .int i), (5, .int x)] [.int 1] (SK, M, N) _
    refine g_if_eq (tgt := 29) (pc' := 16) dX12_ledger_13 (by decide) rfl (fun hc => absurd hc (by decide)) (fun _ => ?_)
    refine g_iload (j := 5) (pc' := 18) dX12_ledger_16 rfl rfl ?_
    refine g_i2l (pc' := 19) dX12_ledger_18 rfl ?_
    refine g_lconst (v := 1) (pc' := 20) dX12_ledger_19 (by decide) rfl ?_
    refine g_ldc2 (v := 8) (pc' := 23) dX12_ledger_20 qX12_211 rfl ?_
    refine g_callS (my := mX12_in) (st := []) (av := [.long (Int32.toInt64 x), .long 1, .long 8]) (mcr := 0) (msr := 0) (mc := 0) (ms := 0) (pc' := 26) dX12_ledger_23 kX12_in wX12_55 rfl (Nat.le_of_ble_eq_true rfl) (by decide) (r_in0 (lo := 1) (hi := 8) (by decide) (by decide) (h1)) rfl ?_
    rintro _ _ ⟨rfl, rfl⟩
    show Go mX12_ledger _ _ _ 26 [(0, .ref 189), (1, .int (nI m)), (2, .int u), (3, .int z), (4, .int i), (5, .int x)] [.int 0] (SK, M, N) _
    refine g_if_ne (tgt := 31) (pc' := 29) dX12_ledger_26 (by decide) rfl (fun hc => absurd rfl hc) (fun _ => ?_)
    refine g_iconst (v := (-1)) (pc' := 30) dX12_ledger_29 (by decide) rfl ?_
    exact g_iret dX12_ledger_30 rfl rfl (RQ.same hI)
set_option maxRecDepth 100000 in
set_option maxHeartbeats 1000000 in
theorem r_ledger_b3 {M : Nat → Nat → Int32} {N : Nat → Nat → Int64} {n k : Nat} {P : Nat → Int32} {pa : List (Nat → Int32)} {kp : Option YS} {tp : List Int32} {sh : Nat → Option (Nat × Nat × (Nat → Int64))} (hA : AOk ((n, k, P, pa), kp, tp, sh)) (hI : RI M N ((n, k, P, pa), kp, tp, sh)) {m : Nat} {u z : Int32} (i : Int32) {x : Int32} (hm : m < n) (h1 : ¬ (x < 1 ∨ 8 < x)) (h2 : (∀ a, a < 4 → u ≠ nI a) ∨ ∀ b, b < 4 → z ≠ nI b) : Run mX12_ledger 30 0 0 [.ref 189, .int (nI m), .int u, .int z, .int i, .int x] (SK, M, N) (RQ M N (-1) ((n, k, P, pa), kp, tp, sh)) := by
  refine Run.of (by decide) (Nat.le_of_ble_eq_true rfl) ?_
  have hok : OkP n k P := hA.1.1.1
  have hP : ∀ j, j < 47 → M 190 j = P j := hI.1.1
  have hn6 := hok.1
  have hk6 := hok.2.1
  have hn : M 190 0 = nI n := (hP 0 (by omega)).trans hok.2.2.1
  have hk : M 190 1 = nI k := (hP 1 (by omega)).trans hok.2.2.2.1
  refine g_aload_n (j := 0) (pc' := 1) dX12_ledger_0 rfl rfl ?_
  refine g_iload_n (j := 1) (pc' := 2) dX12_ledger_1 rfl rfl ?_
  refine g_callV (my := mX12_isMan) (k := 189) (st := []) (av := [.int (nI m)]) (mcr := 0) (msr := 0) (mc := 0) (ms := 0) (pc' := 5) dX12_ledger_2 kX12_isMan wX12_84 rfl ⟨rfl, rfl⟩ rfl (Nat.le_of_ble_eq_true rfl) (by decide) (s_isMan1 hn hn6 (hm)) rfl ?_
  rintro _ _ ⟨rfl, rfl⟩
  show Go mX12_ledger _ _ _ 5 [(0, .ref 189), (1, .int (nI m)), (2, .int u), (3, .int z), (4, .int i), (5, .int x)] [.int 1] (SK, M, N) _
  refine g_if_eq (tgt := 29) (pc' := 8) dX12_ledger_5 (by decide) rfl (fun hc => absurd hc (by decide)) (fun _ => ?_)
  refine g_iload_n (j := 2) (pc' := 9) dX12_ledger_8 rfl rfl ?_
  refine g_iload_n (j := 3) (pc' := 10) dX12_ledger_9 rfl rfl ?_
  refine g_callS (my := mX12_isSheet) (st := []) (av := [.int u, .int z]) (mcr := 0) (msr := 0) (mc := 0) (ms := 0) (pc' := 13) dX12_ledger_10 kX12_isSheet wX12_207 rfl (Nat.le_of_ble_eq_true rfl) (by decide) (s_isSheet0 (h2.imp out4 out4)) rfl ?_
  rintro _ _ ⟨rfl, rfl⟩
  show Go mX12_ledger _ _ _ 13 [(0, .ref 189), (1, .int (nI m)), (2, .int u), (3, .int z), (4, .int i), (5, .int x)] [.int 0] (SK, M, N) _
  refine g_if_eq (tgt := 29) (pc' := 16) dX12_ledger_13 (by decide) rfl (fun _ => ?_) (fun hc => absurd rfl hc)
  refine g_iconst (v := (-1)) (pc' := 30) dX12_ledger_29 (by decide) rfl ?_
  exact g_iret dX12_ledger_30 rfl rfl (RQ.same hI)
theorem pos1 {x : Int32} {h : Int32} (h1 : ¬ (x < 1 ∨ h < x)) : ¬ x < 0 := fun q => h1 (Or.inl (Int32.lt_trans q (by decide)))
set_option maxRecDepth 100000 in
set_option maxHeartbeats 1000000 in
theorem r_ledger_w {M : Nat → Nat → Int32} {N : Nat → Nat → Int64} {n k : Nat} {P : Nat → Int32} {pa : List (Nat → Int32)} {kp : Option YS} {tp : List Int32} {sh : Nat → Option (Nat × Nat × (Nat → Int64))} (hA : AOk ((n, k, P, pa), kp, tp, sh)) (hI : RI M N ((n, k, P, pa), kp, tp, sh)) {m a b : Nat} {i x : Int32} (hm : m < n) (h1 : ¬ (x < 1 ∨ 8 < x)) (ha : a < 4) (hb : b < 4) (h2 : ¬ wrS (sh a) b i x = 0) : Run mX12_ledger 30 0 0 [.ref 189, .int (nI m), .int (nI a), .int (nI b), .int i, .int x] (SK, M, N) (RQ M N (wrS (sh a) b i x) ((n, k, P, pa), kp, tp, sh)) := by
  refine Run.of (by decide) (Nat.le_of_ble_eq_true rfl) ?_
  have hok : OkP n k P := hA.1.1.1
  have hP : ∀ j, j < 47 → M 190 j = P j := hI.1.1
  have hn6 := hok.1
  have hk6 := hok.2.1
  have hn : M 190 0 = nI n := (hP 0 (by omega)).trans hok.2.2.1
  have hk : M 190 1 = nI k := (hP 1 (by omega)).trans hok.2.2.2.1
  refine g_aload_n (j := 0) (pc' := 1) dX12_ledger_0 rfl rfl ?_
  refine g_iload_n (j := 1) (pc' := 2) dX12_ledger_1 rfl rfl ?_
  refine g_callV (my := mX12_isMan) (k := 189) (st := []) (av := [.int (nI m)]) (mcr := 0) (msr := 0) (mc := 0) (ms := 0) (pc' := 5) dX12_ledger_2 kX12_isMan wX12_84 rfl ⟨rfl, rfl⟩ rfl (Nat.le_of_ble_eq_true rfl) (by decide) (s_isMan1 hn hn6 (hm)) rfl ?_
  rintro _ _ ⟨rfl, rfl⟩
  show Go mX12_ledger _ _ _ 5 [(0, .ref 189), (1, .int (nI m)), (2, .int (nI a)), (3, .int (nI b)), (4, .int i), (5, .int x)] [.int 1] (SK, M, N) _
  refine g_if_eq (tgt := 29) (pc' := 8) dX12_ledger_5 (by decide) rfl (fun hc => absurd hc (by decide)) (fun _ => ?_)
  refine g_iload_n (j := 2) (pc' := 9) dX12_ledger_8 rfl rfl ?_
  refine g_iload_n (j := 3) (pc' := 10) dX12_ledger_9 rfl rfl ?_
  refine g_callS (my := mX12_isSheet) (st := []) (av := [.int (nI a), .int (nI b)]) (mcr := 0) (msr := 0) (mc := 0) (ms := 0) (pc' := 13) dX12_ledger_10 kX12_isSheet wX12_207 rfl (Nat.le_of_ble_eq_true rfl) (by decide) (s_isSheet1 (not_rng (hi := 3) (by omega) (by omega)) (not_rng (hi := 3) (by omega) (by omega))) rfl ?_
  rintro _ _ ⟨rfl, rfl⟩
  show Go mX12_ledger _ _ _ 13 [(0, .ref 189), (1, .int (nI m)), (2, .int (nI a)), (3, .int (nI b)), (4, .int i), (5, .int x)] [.int 1] (SK, M, N) _
  refine g_if_eq (tgt := 29) (pc' := 16) dX12_ledger_13 (by decide) rfl (fun hc => absurd hc (by decide)) (fun _ => ?_)
  refine g_iload (j := 5) (pc' := 18) dX12_ledger_16 rfl rfl ?_
  refine g_i2l (pc' := 19) dX12_ledger_18 rfl ?_
  refine g_lconst (v := 1) (pc' := 20) dX12_ledger_19 (by decide) rfl ?_
  refine g_ldc2 (v := 8) (pc' := 23) dX12_ledger_20 qX12_211 rfl ?_
  refine g_callS (my := mX12_in) (st := []) (av := [.long (Int32.toInt64 x), .long 1, .long 8]) (mcr := 0) (msr := 0) (mc := 0) (ms := 0) (pc' := 26) dX12_ledger_23 kX12_in wX12_55 rfl (Nat.le_of_ble_eq_true rfl) (by decide) (r_in1 (lo := 1) (hi := 8) (by decide) (by decide) (h1)) rfl ?_
  rintro _ _ ⟨rfl, rfl⟩
  show Go mX12_ledger _ _ _ 26 [(0, .ref 189), (1, .int (nI m)), (2, .int (nI a)), (3, .int (nI b)), (4, .int i), (5, .int x)] [.int 1] (SK, M, N) _
  refine g_if_ne (tgt := 31) (pc' := 29) dX12_ledger_26 (by decide) rfl (fun _ => ?_) (fun hc => absurd hc (by decide))
  refine g_aload_n (j := 0) (pc' := 32) dX12_ledger_31 rfl rfl ?_
  refine g_iload_n (j := 2) (pc' := 33) dX12_ledger_32 rfl rfl ?_
  refine g_iload_n (j := 3) (pc' := 34) dX12_ledger_33 rfl rfl ?_
  refine g_iload (j := 4) (pc' := 36) dX12_ledger_34 rfl rfl ?_
  refine g_iload (j := 5) (pc' := 38) dX12_ledger_36 rfl rfl ?_
  refine g_callV (my := mX12_found) (k := 189) (st := []) (av := [.int (nI a), .int (nI b), .int i, .int x]) (mcr := 0) (msr := 0) (mc := 0) (ms := 0) (pc' := 41) dX12_ledger_38 kX12_found wX12_213 rfl ⟨rfl, rfl⟩ rfl (Nat.le_of_ble_eq_true rfl) (by decide) (r_found hA hI ha hb i (pos1 h1)) rfl ?_
  rintro _ _ ⟨rfl, rfl⟩
  show Go mX12_ledger _ _ _ 41 [(0, .ref 189), (1, .int (nI m)), (2, .int (nI a)), (3, .int (nI b)), (4, .int i), (5, .int x)] [.int (wrS (sh a) b i x)] (SK, M, N) _
  refine g_istore (L' := [(0, .ref 189), (1, .int (nI m)), (2, .int (nI a)), (3, .int (nI b)), (4, .int i), (5, .int x), (6, .int (wrS (sh a) b i x))]) (pc' := 43) dX12_ledger_41 (by decide) rfl rfl ?_
  refine g_iload (j := 6) (pc' := 45) dX12_ledger_43 rfl rfl ?_
  refine g_if_ge (tgt := 51) (pc' := 48) dX12_ledger_45 (by decide) rfl (fun hc => (absurd (wrS_neg h2) (Int32.not_lt.mpr hc))) (fun hc => ?_)
  refine g_iload (j := 6) (pc' := 50) dX12_ledger_48 rfl rfl ?_
  exact g_iret dX12_ledger_50 rfl rfl (RQ.same hI)
set_option maxRecDepth 100000 in
set_option maxHeartbeats 1000000 in
theorem r_ledger {M : Nat → Nat → Int32} {N : Nat → Nat → Int64} {n k : Nat} {P : Nat → Int32} {pa : List (Nat → Int32)} {kp : Option YS} {tp : List Int32} {sh : Nat → Option (Nat × Nat × (Nat → Int64))} (hA : AOk ((n, k, P, pa), kp, tp, sh)) (hI : RI M N ((n, k, P, pa), kp, tp, sh)) {m a b q c ln : Nat} {f : Nat → Int64} (hm : m < n) (hc1 : 1 ≤ c) (hc8 : c ≤ 8) (ha : a < 4) (hb : b < 4) (hs : sh a = some (b, ln, f)) (hq : q + c ≤ ln) (hl : ln ≤ 24) : Run mX12_ledger 30 0 0 [.ref 189, .int (nI m), .int (nI a), .int (nI b), .int (nI q), .int (nI c)] (SK, M, N) (RQ M N (setF (ldB P n k m f q c) 5) ((n, k, P, pa), kp, tp, sh)) := by
  refine Run.of (by decide) (Nat.le_of_ble_eq_true rfl) ?_
  have hok : OkP n k P := hA.1.1.1
  have hP : ∀ j, j < 47 → M 190 j = P j := hI.1.1
  have hn6 := hok.1
  have hk6 := hok.2.1
  have hn : M 190 0 = nI n := (hP 0 (by omega)).trans hok.2.2.1
  have hk : M 190 1 = nI k := (hP 1 (by omega)).trans hok.2.2.2.1
  have h0 : ShR M N a (some (b, ln, f)) := by
    have h := hI.2.2.2 a ha
    rw [show (((n, k, P, pa), kp, tp, sh) : AS).2.2.2 a = some (b, ln, f) from hs] at h
    exact h
  obtain ⟨h6, h5, h7⟩ := h0
  refine g_aload_n (j := 0) (pc' := 1) dX12_ledger_0 rfl rfl ?_
  refine g_iload_n (j := 1) (pc' := 2) dX12_ledger_1 rfl rfl ?_
  refine g_callV (my := mX12_isMan) (k := 189) (st := []) (av := [.int (nI m)]) (mcr := 0) (msr := 0) (mc := 0) (ms := 0) (pc' := 5) dX12_ledger_2 kX12_isMan wX12_84 rfl ⟨rfl, rfl⟩ rfl (Nat.le_of_ble_eq_true rfl) (by decide) (s_isMan1 hn hn6 (hm)) rfl ?_
  rintro _ _ ⟨rfl, rfl⟩
  show Go mX12_ledger _ _ _ 5 [(0, .ref 189), (1, .int (nI m)), (2, .int (nI a)), (3, .int (nI b)), (4, .int (nI q)), (5, .int (nI c))] [.int 1] (SK, M, N) _
  refine g_if_eq (tgt := 29) (pc' := 8) dX12_ledger_5 (by decide) rfl (fun hc => absurd hc (by decide)) (fun _ => ?_)
  refine g_iload_n (j := 2) (pc' := 9) dX12_ledger_8 rfl rfl ?_
  refine g_iload_n (j := 3) (pc' := 10) dX12_ledger_9 rfl rfl ?_
  refine g_callS (my := mX12_isSheet) (st := []) (av := [.int (nI a), .int (nI b)]) (mcr := 0) (msr := 0) (mc := 0) (ms := 0) (pc' := 13) dX12_ledger_10 kX12_isSheet wX12_207 rfl (Nat.le_of_ble_eq_true rfl) (by decide) (s_isSheet1 (not_rng (hi := 3) (by omega) (by omega)) (not_rng (hi := 3) (by omega) (by omega))) rfl ?_
  rintro _ _ ⟨rfl, rfl⟩
  show Go mX12_ledger _ _ _ 13 [(0, .ref 189), (1, .int (nI m)), (2, .int (nI a)), (3, .int (nI b)), (4, .int (nI q)), (5, .int (nI c))] [.int 1] (SK, M, N) _
  refine g_if_eq (tgt := 29) (pc' := 16) dX12_ledger_13 (by decide) rfl (fun hc => absurd hc (by decide)) (fun _ => ?_)
  refine g_iload (j := 5) (pc' := 18) dX12_ledger_16 rfl rfl ?_
  refine g_i2l (pc' := 19) dX12_ledger_18 rfl ?_
  refine g_lconst (v := 1) (pc' := 20) dX12_ledger_19 (by decide) rfl ?_
  refine g_ldc2 (v := 8) (pc' := 23) dX12_ledger_20 qX12_211 rfl ?_
  refine g_callS (my := mX12_in) (st := []) (av := [.long (Int32.toInt64 (nI c)), .long 1, .long 8]) (mcr := 0) (msr := 0) (mc := 0) (ms := 0) (pc' := 26) dX12_ledger_23 kX12_in wX12_55 rfl (Nat.le_of_ble_eq_true rfl) (by decide) (r_in1 (lo := 1) (hi := 8) (by decide) (by decide) (rng2 (lo := 1) (hi := 8) hc1 hc8 (by omega))) rfl ?_
  rintro _ _ ⟨rfl, rfl⟩
  show Go mX12_ledger _ _ _ 26 [(0, .ref 189), (1, .int (nI m)), (2, .int (nI a)), (3, .int (nI b)), (4, .int (nI q)), (5, .int (nI c))] [.int 1] (SK, M, N) _
  refine g_if_ne (tgt := 31) (pc' := 29) dX12_ledger_26 (by decide) rfl (fun _ => ?_) (fun hc => absurd hc (by decide))
  refine g_aload_n (j := 0) (pc' := 32) dX12_ledger_31 rfl rfl ?_
  refine g_iload_n (j := 2) (pc' := 33) dX12_ledger_32 rfl rfl ?_
  refine g_iload_n (j := 3) (pc' := 34) dX12_ledger_33 rfl rfl ?_
  refine g_iload (j := 4) (pc' := 36) dX12_ledger_34 rfl rfl ?_
  refine g_iload (j := 5) (pc' := 38) dX12_ledger_36 rfl rfl ?_
  refine g_callV (my := mX12_found) (k := 189) (st := []) (av := [.int (nI a), .int (nI b), .int (nI q), .int (nI c)]) (mcr := 0) (msr := 0) (mc := 0) (ms := 0) (pc' := 41) dX12_ledger_38 kX12_found wX12_213 rfl ⟨rfl, rfl⟩ rfl (Nat.le_of_ble_eq_true rfl) (by decide) (r_found hA hI ha hb (nI q) (n := nI c) (nI_pos (by omega))) rfl ?_
  rintro _ _ ⟨rfl, rfl⟩
  show Go mX12_ledger _ _ _ 41 [(0, .ref 189), (1, .int (nI m)), (2, .int (nI a)), (3, .int (nI b)), (4, .int (nI q)), (5, .int (nI c))] [.int (wrS (sh a) b (nI q) (nI c))] (SK, M, N) _
  refine g_top (y := 0) (wrS_of hs hq hl) ?_
  refine g_istore (L' := [(0, .ref 189), (1, .int (nI m)), (2, .int (nI a)), (3, .int (nI b)), (4, .int (nI q)), (5, .int (nI c)), (6, .int 0)]) (pc' := 43) dX12_ledger_41 (by decide) rfl rfl ?_
  refine g_iload (j := 6) (pc' := 45) dX12_ledger_43 rfl rfl ?_
  refine g_if_ge (tgt := 51) (pc' := 48) dX12_ledger_45 (by decide) rfl (fun hc => ?_) (fun hc => (absurd (by decide) hc))
  refine g_less (L' := [(0, .ref 189), (1, .int (nI m)), (2, .int (nI a)), (3, .int (nI b)), (4, .int (nI q)), (5, .int (nI c))]) [0, 1, 2, 3, 4, 5] rfl ?_
  refine g_iconst (v := 0) (pc' := 52) dX12_ledger_51 (by decide) rfl ?_
  refine g_istore (L' := [(0, .ref 189), (1, .int (nI m)), (2, .int (nI a)), (3, .int (nI b)), (4, .int (nI q)), (5, .int (nI c)), (7, .int 0)]) (pc' := 54) dX12_ledger_52 (by decide) rfl rfl ?_
  refine g_iconst (v := 0) (pc' := 55) dX12_ledger_54 (by decide) rfl ?_
  refine g_istore (L' := [(0, .ref 189), (1, .int (nI m)), (2, .int (nI a)), (3, .int (nI b)), (4, .int (nI q)), (5, .int (nI c)), (7, .int 0), (8, .int 0)]) (pc' := 57) dX12_ledger_55 (by decide) rfl rfl ?_
  have loop : ∀ (e u d : Nat) (M1 : Nat → Nat → Int32), e = 5 → d + u = e → (∀ a, ¬ tmpR a → M1 a = M a) → Go mX12_ledger 30 0 0 57 [(0, .ref 189), (1, .int (nI m)), (2, .int (nI a)), (3, .int (nI b)), (4, .int (nI q)), (5, .int (nI c)), (7, .int (setF (ldB P n k m f q c) d)), (8, .int (nI d))] [] (SK, M1, N) (RQ M N (setF (ldB P n k m f q c) e) ((n, k, P, pa), kp, tp, sh)) := by
    intro e u
    induction u with
    | zero =>
      intro d M1 he hd hf
      refine g_iload (j := 7) (pc' := 59) dX12_ledger_57 rfl rfl ?_
      refine g_iconst (v := 5) (pc' := 60) dX12_ledger_59 (by decide) rfl ?_
      refine g_icmp_ge (tgt := 169) (pc' := 63) dX12_ledger_60 (by decide) rfl (fun hc => ?_) (fun hc => (absurd (nI_le (a := 5) (b := d) (by omega) (by omega)) hc))
      obtain rfl : d = e := by omega
      refine g_iload (j := 6) (pc' := 171) dX12_ledger_169 rfl rfl ?_
      exact g_iret dX12_ledger_171 rfl rfl (RQ.tmp hI hf)
    | succ u ih =>
      intro d M1 he hd hf
      refine g_iload (j := 7) (pc' := 59) dX12_ledger_57 rfl rfl ?_
      refine g_iconst (v := 5) (pc' := 60) dX12_ledger_59 (by decide) rfl ?_
      refine g_icmp_ge (tgt := 169) (pc' := 63) dX12_ledger_60 (by decide) rfl (fun hc => (absurd hc (nI_ge (a := d) (b := 5) (by omega) (by omega)))) (fun hc => ?_)
      have hP2 : ∀ j, j < 47 → M1 190 j = P j := fun j hj => by rw [hf 190 (by unfold tmpR; omega)]; exact hP j hj
      refine g_aload_n (j := 0) (pc' := 64) dX12_ledger_63 rfl rfl ?_
      refine g_callV (my := mX12_layAside) (k := 189) (st := []) (av := []) (mcr := 0) (msr := 0) (mc := 0) (ms := 0) (pc' := 67) dX12_ledger_64 kX12_layAside wX12_183 rfl ⟨rfl, rfl⟩ rfl (Nat.le_of_ble_eq_true rfl) (by decide) (r_layAside hP2) rfl ?_
      rintro _ _ ⟨M3, rfl, rfl, h3, hf3⟩
      show Go mX12_ledger _ _ _ 67 [(0, .ref 189), (1, .int (nI m)), (2, .int (nI a)), (3, .int (nI b)), (4, .int (nI q)), (5, .int (nI c)), (7, .int (setF (ldB P n k m f q c) d)), (8, .int (nI d))] [] (SK, M3, N) _
      refine g_aload_n (j := 0) (pc' := 68) dX12_ledger_67 rfl rfl ?_
      refine g_getR (pc' := 71) dX12_ledger_68 fX12_13 rfl rfl rfl ?_
      refine g_iconst (v := 4) (pc' := 72) dX12_ledger_71 (by decide) rfl ?_
      refine g_iload_n (j := 1) (pc' := 73) dX12_ledger_72 rfl rfl ?_
      refine g_iadd (pc' := 74) dX12_ledger_73 rfl ?_
      refine g_iload (j := 7) (pc' := 76) dX12_ledger_74 rfl rfl ?_
      refine g_iast (n := 4 + m) (pc' := 77) dX12_ledger_76 rfl (nI_addE rfl rfl) (by omega) rfl ?_
      generalize hM4 : (um M3 191 (4 + m) (nI d)) = M4
      have h4 : ∀ j, j < 47 → M4 191 j = (upP P (4 + m) (nI d)) j := fun j hj => by
        rw [← hM4]
        by_cases e : j = 4 + m
        · subst e; rw [um_at, upP_at]
        · rw [um_at2 e, upP_ne e]; exact h3 j hj
      have hf4 : ∀ a, ¬ tmpR a → M4 a = M a := fun a ta => by
        unfold tmpR at ta
        rw [← hM4, um_ne (by omega), hf3 a (by omega)]
        exact hf a (by unfold tmpR; omega)
      have hok4 := hok.kind hm (q := d) (by omega)
      generalize hPd : (upP P (4 + m) (nI d)) = Pd at h4 hok4
      refine g_iconst (v := 1) (pc' := 78) dX12_ledger_77 (by decide) rfl ?_
      refine g_istore (L' := [(0, .ref 189), (1, .int (nI m)), (2, .int (nI a)), (3, .int (nI b)), (4, .int (nI q)), (5, .int (nI c)), (7, .int (setF (ldB P n k m f q c) d)), (8, .int (nI d)), (9, .int 1)]) (pc' := 80) dX12_ledger_78 (by decide) rfl rfl ?_
      refine g_iconst (v := 0) (pc' := 81) dX12_ledger_80 (by decide) rfl ?_
      refine g_istore (L' := [(0, .ref 189), (1, .int (nI m)), (2, .int (nI a)), (3, .int (nI b)), (4, .int (nI q)), (5, .int (nI c)), (7, .int (setF (ldB P n k m f q c) d)), (8, .int (nI d)), (9, .int 1), (10, .int 0)]) (pc' := 83) dX12_ledger_81 (by decide) rfl rfl ?_
      have inner : ∀ (u2 t : Nat) (M5 : Nat → Nat → Int32), t + u2 = c → (∀ j, j < 47 → M5 191 j = foreP n k Pd t j) → (∀ a, ¬ tmpR a → M5 a = M a) → Go mX12_ledger 30 0 0 83 [(0, .ref 189), (1, .int (nI m)), (2, .int (nI a)), (3, .int (nI b)), (4, .int (nI q)), (5, .int (nI c)), (7, .int (setF (ldB P n k m f q c) d)), (8, .int (nI d)), (9, .int (b2I (ldB P n k m f q t d))), (10, .int (nI t))] [] (SK, M5, N) (RQ M N (setF (ldB P n k m f q c) e) ((n, k, P, pa), kp, tp, sh)) := by
        intro u2
        induction u2 with
        | zero =>
          intro t M5 ht h5a hf5
          refine g_iload (j := 9) (pc' := 85) dX12_ledger_83 rfl rfl ?_
          refine g_iload (j := 5) (pc' := 87) dX12_ledger_85 rfl rfl ?_
          refine g_icmp_ge (tgt := 145) (pc' := 90) dX12_ledger_87 (by decide) rfl (fun hc => ?_) (fun hc => (absurd (nI_le (a := c) (b := t) (by omega) (by omega)) hc))
          obtain rfl : c = t := by omega
          refine g_less (L' := [(0, .ref 189), (1, .int (nI m)), (2, .int (nI a)), (3, .int (nI b)), (4, .int (nI q)), (5, .int (nI c)), (7, .int (setF (ldB P n k m f q c) d)), (8, .int (nI d)), (9, .int (b2I (ldB P n k m f q c d)))]) [0, 1, 2, 3, 4, 5, 6, 7, 8] rfl ?_
          have h9 := ih (d + 1) M5 he (by omega) hf5
          refine g_iload (j := 6) (pc' := 147) dX12_ledger_145 rfl rfl ?_
          cases hb9 : ldB P n k m f q c d with
          | false =>
            rw [show setF (ldB P n k m f q c) (d + 1) = setF (ldB P n k m f q c) d by rw [setF, if_neg (by rw [hb9]; decide)]] at h9
            show Go mX12_ledger _ _ _ 147 [(0, .ref 189), (1, .int (nI m)), (2, .int (nI a)), (3, .int (nI b)), (4, .int (nI q)), (5, .int (nI c)), (7, .int (setF (ldB P n k m f q c) d)), (8, .int (nI d)), (9, .int 0)] [.int (setF (ldB P n k m f q c) d)] (SK, M5, N) _
            refine g_iload (j := 8) (pc' := 149) dX12_ledger_147 rfl rfl ?_
            refine g_if_eq (tgt := 159) (pc' := 152) dX12_ledger_149 (by decide) rfl (fun _ => ?_) (fun hc => absurd rfl hc)
            refine g_iconst (v := 0) (pc' := 160) dX12_ledger_159 (by decide) rfl ?_
            refine g_ior (pc' := 161) dX12_ledger_160 rfl ?_
            refine g_top (y := setF (ldB P n k m f q c) d) (Int32.or_zero) ?_
            refine g_istore (L' := [(0, .ref 189), (1, .int (nI m)), (2, .int (nI a)), (3, .int (nI b)), (4, .int (nI q)), (5, .int (nI c)), (7, .int (setF (ldB P n k m f q c) d)), (8, .int (nI d)), (9, .int 0)]) (pc' := 163) dX12_ledger_161 (by decide) rfl rfl ?_
            refine g_less (L' := [(0, .ref 189), (1, .int (nI m)), (2, .int (nI a)), (3, .int (nI b)), (4, .int (nI q)), (5, .int (nI c)), (7, .int (setF (ldB P n k m f q c) d)), (8, .int (nI d))]) [0, 1, 2, 3, 4, 5, 6, 7] rfl ?_
            refine g_iinc (j := 7) (v := nI (d + 1)) (L' := [(0, .ref 189), (1, .int (nI m)), (2, .int (nI a)), (3, .int (nI b)), (4, .int (nI q)), (5, .int (nI c)), (7, .int (setF (ldB P n k m f q c) d)), (8, .int (nI (d + 1)))]) (pc' := 166) dX12_ledger_163 rfl (nI_1 d) (by decide) rfl rfl ?_
            refine g_goto (tgt := 57) dX12_ledger_166 (by decide) ?_
            exact h9
          | true =>
            rw [show setF (ldB P n k m f q c) (d + 1) = setF (ldB P n k m f q c) d ||| (1 : Int32) <<< (nI d &&& 31) by rw [setF, if_pos hb9]] at h9
            show Go mX12_ledger _ _ _ 147 [(0, .ref 189), (1, .int (nI m)), (2, .int (nI a)), (3, .int (nI b)), (4, .int (nI q)), (5, .int (nI c)), (7, .int (setF (ldB P n k m f q c) d)), (8, .int (nI d)), (9, .int 1)] [.int (setF (ldB P n k m f q c) d)] (SK, M5, N) _
            refine g_iload (j := 8) (pc' := 149) dX12_ledger_147 rfl rfl ?_
            refine g_if_eq (tgt := 159) (pc' := 152) dX12_ledger_149 (by decide) rfl (fun hc => absurd hc (by decide)) (fun _ => ?_)
            refine g_iconst (v := 1) (pc' := 153) dX12_ledger_152 (by decide) rfl ?_
            refine g_iload (j := 7) (pc' := 155) dX12_ledger_153 rfl rfl ?_
            refine g_ishl (pc' := 156) dX12_ledger_155 rfl ?_
            refine g_goto (tgt := 160) dX12_ledger_156 (by decide) ?_
            refine g_ior (pc' := 161) dX12_ledger_160 rfl ?_
            refine g_istore (L' := [(0, .ref 189), (1, .int (nI m)), (2, .int (nI a)), (3, .int (nI b)), (4, .int (nI q)), (5, .int (nI c)), (7, .int ((setF (ldB P n k m f q c) d) ||| (1 <<< ((nI d) &&& 31)))), (8, .int (nI d)), (9, .int 1)]) (pc' := 163) dX12_ledger_161 (by decide) rfl rfl ?_
            refine g_less (L' := [(0, .ref 189), (1, .int (nI m)), (2, .int (nI a)), (3, .int (nI b)), (4, .int (nI q)), (5, .int (nI c)), (7, .int ((setF (ldB P n k m f q c) d) ||| (1 <<< ((nI d) &&& 31)))), (8, .int (nI d))]) [0, 1, 2, 3, 4, 5, 6, 7] rfl ?_
            refine g_iinc (j := 7) (v := nI (d + 1)) (L' := [(0, .ref 189), (1, .int (nI m)), (2, .int (nI a)), (3, .int (nI b)), (4, .int (nI q)), (5, .int (nI c)), (7, .int ((setF (ldB P n k m f q c) d) ||| (1 <<< ((nI d) &&& 31)))), (8, .int (nI (d + 1)))]) (pc' := 166) dX12_ledger_163 rfl (nI_1 d) (by decide) rfl rfl ?_
            refine g_goto (tgt := 57) dX12_ledger_166 (by decide) ?_
            exact h9
        | succ u2 ih2 =>
          intro t M5 ht h5a hf5
          refine g_iload (j := 9) (pc' := 85) dX12_ledger_83 rfl rfl ?_
          refine g_iload (j := 5) (pc' := 87) dX12_ledger_85 rfl rfl ?_
          refine g_icmp_ge (tgt := 145) (pc' := 90) dX12_ledger_87 (by decide) rfl (fun hc => (absurd hc (nI_ge (a := t) (b := c) (by omega) (by omega)))) (fun hc => ?_)
          refine g_aload_n (j := 0) (pc' := 91) dX12_ledger_90 rfl rfl ?_
          refine g_iconst (v := 1) (pc' := 92) dX12_ledger_91 (by decide) rfl ?_
          refine g_callV (my := mX12_go) (k := 189) (st := []) (av := [.int 1]) (mcr := 0) (msr := 0) (mc := 0) (ms := 0) (pc' := 95) dX12_ledger_92 kX12_go wX12_186 rfl ⟨rfl, rfl⟩ rfl (Nat.le_of_ble_eq_true rfl) (by decide) (r_go (s := t) (t := 1) hok4 (by omega) h5a) rfl ?_
          rintro _ _ ⟨M6, rfl, rfl, h6a, hf6⟩
          show Go mX12_ledger _ _ _ 95 [(0, .ref 189), (1, .int (nI m)), (2, .int (nI a)), (3, .int (nI b)), (4, .int (nI q)), (5, .int (nI c)), (7, .int (setF (ldB P n k m f q c) d)), (8, .int (nI d)), (9, .int (b2I (ldB P n k m f q t d))), (10, .int (nI t))] [] (SK, M6, N) _
          have hf7 : ∀ a, ¬ tmpR a → M6 a = M a := fun a ta => by
            have tb := ta
            unfold tmpR at tb
            rw [hf6 a (by omega) (by omega) (by omega) (by omega)]
            exact hf5 a ta
          have h9 := ih2 (t + 1) M6 (by omega) h6a hf7
          cases hb9 : ldB P n k m f q t d with
          | false =>
            rw [ldB_f hb9] at h9
            show Go mX12_ledger _ _ _ 95 [(0, .ref 189), (1, .int (nI m)), (2, .int (nI a)), (3, .int (nI b)), (4, .int (nI q)), (5, .int (nI c)), (7, .int (setF (ldB P n k m f q c) d)), (8, .int (nI d)), (9, .int 0), (10, .int (nI t))] [] (SK, M6, N) _
            refine g_iload (j := 8) (pc' := 97) dX12_ledger_95 rfl rfl ?_
            refine g_if_eq (tgt := 136) (pc' := 100) dX12_ledger_97 (by decide) rfl (fun _ => ?_) (fun hc => absurd rfl hc)
            refine g_iconst (v := 0) (pc' := 137) dX12_ledger_136 (by decide) rfl ?_
            refine g_istore (L' := [(0, .ref 189), (1, .int (nI m)), (2, .int (nI a)), (3, .int (nI b)), (4, .int (nI q)), (5, .int (nI c)), (7, .int (setF (ldB P n k m f q c) d)), (8, .int (nI d)), (9, .int 0), (10, .int (nI t))]) (pc' := 139) dX12_ledger_137 (by decide) rfl rfl ?_
            refine g_iinc (j := 9) (v := nI (t + 1)) (L' := [(0, .ref 189), (1, .int (nI m)), (2, .int (nI a)), (3, .int (nI b)), (4, .int (nI q)), (5, .int (nI c)), (7, .int (setF (ldB P n k m f q c) d)), (8, .int (nI d)), (9, .int 0), (10, .int (nI (t + 1)))]) (pc' := 142) dX12_ledger_139 rfl (nI_1 t) (by decide) rfl rfl ?_
            refine g_goto (tgt := 83) dX12_ledger_142 (by decide) ?_
            exact h9
          | true =>
            show Go mX12_ledger _ _ _ 95 [(0, .ref 189), (1, .int (nI m)), (2, .int (nI a)), (3, .int (nI b)), (4, .int (nI q)), (5, .int (nI c)), (7, .int (setF (ldB P n k m f q c) d)), (8, .int (nI d)), (9, .int 1), (10, .int (nI t))] [] (SK, M6, N) _
            refine g_iload (j := 8) (pc' := 97) dX12_ledger_95 rfl rfl ?_
            refine g_if_eq (tgt := 136) (pc' := 100) dX12_ledger_97 (by decide) rfl (fun hc => absurd hc (by decide)) (fun _ => ?_)
            refine g_aload_n (j := 0) (pc' := 101) dX12_ledger_100 rfl rfl ?_
            refine g_getR (pc' := 104) dX12_ledger_101 fX12_31 rfl rfl rfl ?_
            refine g_bipush (v := 24) (pc' := 106) dX12_ledger_104 (by decide) rfl ?_
            refine g_iload_n (j := 2) (pc' := 107) dX12_ledger_106 rfl rfl ?_
            refine g_imul (pc' := 108) dX12_ledger_107 rfl ?_
            refine g_iload (j := 4) (pc' := 110) dX12_ledger_108 rfl rfl ?_
            refine g_iadd (pc' := 111) dX12_ledger_110 rfl ?_
            refine g_iload (j := 9) (pc' := 113) dX12_ledger_111 rfl rfl ?_
            refine g_iadd (pc' := 114) dX12_ledger_113 rfl ?_
            refine g_lald (n := ((24 * a) + q) + t) (pc' := 115) dX12_ledger_114 rfl (nI_addE (nI_addE (nI_mulE rfl rfl) rfl) rfl) (by omega) rfl ?_
            refine g_topL (y := f (q + t)) (by rw [show 24 * a + q + t = 24 * a + (q + t) by omega]; exact h7 (q + t) (by omega)) ?_
            refine g_aload_n (j := 0) (pc' := 116) dX12_ledger_115 rfl rfl ?_
            refine g_getR (pc' := 119) dX12_ledger_116 fX12_13 rfl rfl rfl ?_
            refine g_bipush (v := 28) (pc' := 121) dX12_ledger_119 (by decide) rfl ?_
            refine g_iload_n (j := 1) (pc' := 122) dX12_ledger_121 rfl rfl ?_
            refine g_iadd (pc' := 123) dX12_ledger_122 rfl ?_
            refine g_iald (n := 28 + m) (pc' := 124) dX12_ledger_123 rfl (nI_addE rfl rfl) (by omega) rfl ?_
            refine g_top (y := foreP n k Pd (t + 1) (28 + m)) (h6a _ (by omega)) ?_
            refine g_callS (my := mX12_told) (st := [.long (f (q + t))]) (av := [.int (foreP n k Pd (t + 1) (28 + m))]) (mcr := 0) (msr := 0) (mc := 0) (ms := 0) (pc' := 127) dX12_ledger_124 kX12_told wX12_217 rfl (Nat.le_of_ble_eq_true rfl) (by decide) (s_told (foreP n k Pd (t + 1) (28 + m)) (SK, M6, N)) rfl ?_
            rintro _ _ ⟨rfl, rfl⟩
            show Go mX12_ledger _ _ _ 127 [(0, .ref 189), (1, .int (nI m)), (2, .int (nI a)), (3, .int (nI b)), (4, .int (nI q)), (5, .int (nI c)), (7, .int (setF (ldB P n k m f q c) d)), (8, .int (nI d)), (9, .int 1), (10, .int (nI t))] [.int (unN (foreP n k Pd (t + 1) (28 + m))), .long (f (q + t))] (SK, M6, N) _
            refine g_i2l (pc' := 128) dX12_ledger_127 rfl ?_
            refine g_lcmp (pc' := 129) dX12_ledger_128 rfl ?_
            refine g_if_ne (tgt := 136) (pc' := 132) dX12_ledger_129 (by decide) rfl (fun hc5 => ?_) (fun hc5 => ?_)
            · rw [ldB_n (by rw [hPd]; exact fun q => hc5 (cmpL_eq.mpr q.symm))] at h9
              refine g_iconst (v := 0) (pc' := 137) dX12_ledger_136 (by decide) rfl ?_
              refine g_istore (L' := [(0, .ref 189), (1, .int (nI m)), (2, .int (nI a)), (3, .int (nI b)), (4, .int (nI q)), (5, .int (nI c)), (7, .int (setF (ldB P n k m f q c) d)), (8, .int (nI d)), (9, .int 0), (10, .int (nI t))]) (pc' := 139) dX12_ledger_137 (by decide) rfl rfl ?_
              refine g_iinc (j := 9) (v := nI (t + 1)) (L' := [(0, .ref 189), (1, .int (nI m)), (2, .int (nI a)), (3, .int (nI b)), (4, .int (nI q)), (5, .int (nI c)), (7, .int (setF (ldB P n k m f q c) d)), (8, .int (nI d)), (9, .int 0), (10, .int (nI (t + 1)))]) (pc' := 142) dX12_ledger_139 rfl (nI_1 t) (by decide) rfl rfl ?_
              refine g_goto (tgt := 83) dX12_ledger_142 (by decide) ?_
              exact h9
            · rw [ldB_y hb9 (by rw [hPd]; exact (cmpL_eq.mp hc5).symm)] at h9
              refine g_iconst (v := 1) (pc' := 133) dX12_ledger_132 (by decide) rfl ?_
              refine g_goto (tgt := 137) dX12_ledger_133 (by decide) ?_
              refine g_istore (L' := [(0, .ref 189), (1, .int (nI m)), (2, .int (nI a)), (3, .int (nI b)), (4, .int (nI q)), (5, .int (nI c)), (7, .int (setF (ldB P n k m f q c) d)), (8, .int (nI d)), (9, .int 1), (10, .int (nI t))]) (pc' := 139) dX12_ledger_137 (by decide) rfl rfl ?_
              refine g_iinc (j := 9) (v := nI (t + 1)) (L' := [(0, .ref 189), (1, .int (nI m)), (2, .int (nI a)), (3, .int (nI b)), (4, .int (nI q)), (5, .int (nI c)), (7, .int (setF (ldB P n k m f q c) d)), (8, .int (nI d)), (9, .int 1), (10, .int (nI (t + 1)))]) (pc' := 142) dX12_ledger_139 rfl (nI_1 t) (by decide) rfl rfl ?_
              refine g_goto (tgt := 83) dX12_ledger_142 (by decide) ?_
              exact h9
      have hs9 := inner c 0 M4 (by omega) h4 hf4
      rw [ldB_0] at hs9
      exact hs9
  exact loop 5 5 0 M rfl (by omega) (fun _ _ => rfl)
set_option maxRecDepth 100000 in
set_option maxHeartbeats 1000000 in
theorem r_film_b1 {M : Nat → Nat → Int32} {N : Nat → Nat → Int64} {n k : Nat} {P : Nat → Int32} {pa : List (Nat → Int32)} {kp : Option YS} {tp : List Int32} {sh : Nat → Option (Nat × Nat × (Nat → Int64))} (hA : AOk ((n, k, P, pa), kp, tp, sh)) (hI : RI M N ((n, k, P, pa), kp, tp, sh)) {v : Int32} (x u z i : Int32) (h1 : ∀ m, m < n → v ≠ nI m) : Run mX12_film 30 0 0 [.ref 189, .int v, .int x, .int u, .int z, .int i] (SK, M, N) (RQ M N (-1) ((n, k, P, pa), kp, tp, sh)) := by
  refine Run.of (by decide) (Nat.le_of_ble_eq_true rfl) ?_
  have hok : OkP n k P := hA.1.1.1
  have hP : ∀ j, j < 47 → M 190 j = P j := hI.1.1
  have hn6 := hok.1
  have hk6 := hok.2.1
  have hn : M 190 0 = nI n := (hP 0 (by omega)).trans hok.2.2.1
  have hk : M 190 1 = nI k := (hP 1 (by omega)).trans hok.2.2.2.1
  refine g_aload_n (j := 0) (pc' := 1) dX12_film_0 rfl rfl ?_
  refine g_iload_n (j := 1) (pc' := 2) dX12_film_1 rfl rfl ?_
  refine g_callV (my := mX12_isMan) (k := 189) (st := []) (av := [.int v]) (mcr := 0) (msr := 0) (mc := 0) (ms := 0) (pc' := 5) dX12_film_2 kX12_isMan wX12_84 rfl ⟨rfl, rfl⟩ rfl (Nat.le_of_ble_eq_true rfl) (by decide) (s_isMan0 hn hn6 (h1)) rfl ?_
  rintro _ _ ⟨rfl, rfl⟩
  show Go mX12_film _ _ _ 5 [(0, .ref 189), (1, .int v), (2, .int x), (3, .int u), (4, .int z), (5, .int i)] [.int 0] (SK, M, N) _
  refine g_if_eq (tgt := 29) (pc' := 8) dX12_film_5 (by decide) rfl (fun _ => ?_) (fun hc => absurd rfl hc)
  refine g_iconst (v := (-1)) (pc' := 30) dX12_film_29 (by decide) rfl ?_
  exact g_iret dX12_film_30 rfl rfl (RQ.same hI)
set_option maxRecDepth 100000 in
set_option maxHeartbeats 1000000 in
theorem r_film_b2 {M : Nat → Nat → Int32} {N : Nat → Nat → Int64} {n k : Nat} {P : Nat → Int32} {pa : List (Nat → Int32)} {kp : Option YS} {tp : List Int32} {sh : Nat → Option (Nat × Nat × (Nat → Int64))} (hA : AOk ((n, k, P, pa), kp, tp, sh)) (hI : RI M N ((n, k, P, pa), kp, tp, sh)) {m : Nat} {x : Int32} (u z i : Int32) (hm : m < n) (h1 : x < 1 ∨ 24 < x) : Run mX12_film 30 0 0 [.ref 189, .int (nI m), .int x, .int u, .int z, .int i] (SK, M, N) (RQ M N (-1) ((n, k, P, pa), kp, tp, sh)) := by
  refine Run.of (by decide) (Nat.le_of_ble_eq_true rfl) ?_
  have hok : OkP n k P := hA.1.1.1
  have hP : ∀ j, j < 47 → M 190 j = P j := hI.1.1
  have hn6 := hok.1
  have hk6 := hok.2.1
  have hn : M 190 0 = nI n := (hP 0 (by omega)).trans hok.2.2.1
  have hk : M 190 1 = nI k := (hP 1 (by omega)).trans hok.2.2.2.1
  refine g_aload_n (j := 0) (pc' := 1) dX12_film_0 rfl rfl ?_
  refine g_iload_n (j := 1) (pc' := 2) dX12_film_1 rfl rfl ?_
  refine g_callV (my := mX12_isMan) (k := 189) (st := []) (av := [.int (nI m)]) (mcr := 0) (msr := 0) (mc := 0) (ms := 0) (pc' := 5) dX12_film_2 kX12_isMan wX12_84 rfl ⟨rfl, rfl⟩ rfl (Nat.le_of_ble_eq_true rfl) (by decide) (s_isMan1 hn hn6 (hm)) rfl ?_
  rintro _ _ ⟨rfl, rfl⟩
  show Go mX12_film _ _ _ 5 [(0, .ref 189), (1, .int (nI m)), (2, .int x), (3, .int u), (4, .int z), (5, .int i)] [.int 1] (SK, M, N) _
  refine g_if_eq (tgt := 29) (pc' := 8) dX12_film_5 (by decide) rfl (fun hc => absurd hc (by decide)) (fun _ => ?_)
  refine g_iload_n (j := 2) (pc' := 9) dX12_film_8 rfl rfl ?_
  refine g_i2l (pc' := 10) dX12_film_9 rfl ?_
  refine g_lconst (v := 1) (pc' := 11) dX12_film_10 (by decide) rfl ?_
  refine g_ldc2 (v := 24) (pc' := 14) dX12_film_11 qX12_220 rfl ?_
  refine g_callS (my := mX12_in) (st := []) (av := [.long (Int32.toInt64 x), .long 1, .long 24]) (mcr := 0) (msr := 0) (mc := 0) (ms := 0) (pc' := 17) dX12_film_14 kX12_in wX12_55 rfl (Nat.le_of_ble_eq_true rfl) (by decide) (r_in0 (lo := 1) (hi := 24) (by decide) (by decide) (h1)) rfl ?_
  rintro _ _ ⟨rfl, rfl⟩
  show Go mX12_film _ _ _ 17 [(0, .ref 189), (1, .int (nI m)), (2, .int x), (3, .int u), (4, .int z), (5, .int i)] [.int 0] (SK, M, N) _
  refine g_if_eq (tgt := 29) (pc' := 20) dX12_film_17 (by decide) rfl (fun _ => ?_) (fun hc => absurd rfl hc)
  refine g_iconst (v := (-1)) (pc' := 30) dX12_film_29 (by decide) rfl ?_
  exact g_iret dX12_film_30 rfl rfl (RQ.same hI)
set_option maxRecDepth 100000 in
set_option maxHeartbeats 1000000 in
theorem r_film_b3 {M : Nat → Nat → Int32} {N : Nat → Nat → Int64} {n k : Nat} {P : Nat → Int32} {pa : List (Nat → Int32)} {kp : Option YS} {tp : List Int32} {sh : Nat → Option (Nat × Nat × (Nat → Int64))} (hA : AOk ((n, k, P, pa), kp, tp, sh)) (hI : RI M N ((n, k, P, pa), kp, tp, sh)) {m : Nat} {x u z : Int32} (i : Int32) (hm : m < n) (h1 : ¬ (x < 1 ∨ 24 < x)) (h2 : (∀ a, a < 4 → u ≠ nI a) ∨ ∀ b, b < 4 → z ≠ nI b) : Run mX12_film 30 0 0 [.ref 189, .int (nI m), .int x, .int u, .int z, .int i] (SK, M, N) (RQ M N (-1) ((n, k, P, pa), kp, tp, sh)) := by
  refine Run.of (by decide) (Nat.le_of_ble_eq_true rfl) ?_
  have hok : OkP n k P := hA.1.1.1
  have hP : ∀ j, j < 47 → M 190 j = P j := hI.1.1
  have hn6 := hok.1
  have hk6 := hok.2.1
  have hn : M 190 0 = nI n := (hP 0 (by omega)).trans hok.2.2.1
  have hk : M 190 1 = nI k := (hP 1 (by omega)).trans hok.2.2.2.1
  refine g_aload_n (j := 0) (pc' := 1) dX12_film_0 rfl rfl ?_
  refine g_iload_n (j := 1) (pc' := 2) dX12_film_1 rfl rfl ?_
  refine g_callV (my := mX12_isMan) (k := 189) (st := []) (av := [.int (nI m)]) (mcr := 0) (msr := 0) (mc := 0) (ms := 0) (pc' := 5) dX12_film_2 kX12_isMan wX12_84 rfl ⟨rfl, rfl⟩ rfl (Nat.le_of_ble_eq_true rfl) (by decide) (s_isMan1 hn hn6 (hm)) rfl ?_
  rintro _ _ ⟨rfl, rfl⟩
  show Go mX12_film _ _ _ 5 [(0, .ref 189), (1, .int (nI m)), (2, .int x), (3, .int u), (4, .int z), (5, .int i)] [.int 1] (SK, M, N) _
  refine g_if_eq (tgt := 29) (pc' := 8) dX12_film_5 (by decide) rfl (fun hc => absurd hc (by decide)) (fun _ => ?_)
  refine g_iload_n (j := 2) (pc' := 9) dX12_film_8 rfl rfl ?_
  refine g_i2l (pc' := 10) dX12_film_9 rfl ?_
  refine g_lconst (v := 1) (pc' := 11) dX12_film_10 (by decide) rfl ?_
  refine g_ldc2 (v := 24) (pc' := 14) dX12_film_11 qX12_220 rfl ?_
  refine g_callS (my := mX12_in) (st := []) (av := [.long (Int32.toInt64 x), .long 1, .long 24]) (mcr := 0) (msr := 0) (mc := 0) (ms := 0) (pc' := 17) dX12_film_14 kX12_in wX12_55 rfl (Nat.le_of_ble_eq_true rfl) (by decide) (r_in1 (lo := 1) (hi := 24) (by decide) (by decide) (h1)) rfl ?_
  rintro _ _ ⟨rfl, rfl⟩
  show Go mX12_film _ _ _ 17 [(0, .ref 189), (1, .int (nI m)), (2, .int x), (3, .int u), (4, .int z), (5, .int i)] [.int 1] (SK, M, N) _
  refine g_if_eq (tgt := 29) (pc' := 20) dX12_film_17 (by decide) rfl (fun hc => absurd hc (by decide)) (fun _ => ?_)
  refine g_iload_n (j := 3) (pc' := 21) dX12_film_20 rfl rfl ?_
  refine g_iload (j := 4) (pc' := 23) dX12_film_21 rfl rfl ?_
  refine g_callS (my := mX12_isSheet) (st := []) (av := [.int u, .int z]) (mcr := 0) (msr := 0) (mc := 0) (ms := 0) (pc' := 26) dX12_film_23 kX12_isSheet wX12_207 rfl (Nat.le_of_ble_eq_true rfl) (by decide) (s_isSheet0 (h2.imp out4 out4)) rfl ?_
  rintro _ _ ⟨rfl, rfl⟩
  show Go mX12_film _ _ _ 26 [(0, .ref 189), (1, .int (nI m)), (2, .int x), (3, .int u), (4, .int z), (5, .int i)] [.int 0] (SK, M, N) _
  refine g_if_ne (tgt := 31) (pc' := 29) dX12_film_26 (by decide) rfl (fun hc => absurd rfl hc) (fun _ => ?_)
  refine g_iconst (v := (-1)) (pc' := 30) dX12_film_29 (by decide) rfl ?_
  exact g_iret dX12_film_30 rfl rfl (RQ.same hI)
set_option maxRecDepth 100000 in
set_option maxHeartbeats 1000000 in
theorem r_film_w {M : Nat → Nat → Int32} {N : Nat → Nat → Int64} {n k : Nat} {P : Nat → Int32} {pa : List (Nat → Int32)} {kp : Option YS} {tp : List Int32} {sh : Nat → Option (Nat × Nat × (Nat → Int64))} (hA : AOk ((n, k, P, pa), kp, tp, sh)) (hI : RI M N ((n, k, P, pa), kp, tp, sh)) {m a b : Nat} {x i : Int32} (hm : m < n) (h1 : ¬ (x < 1 ∨ 24 < x)) (ha : a < 4) (hb : b < 4) (h2 : ¬ wrS (sh a) b i x = 0) : Run mX12_film 30 0 0 [.ref 189, .int (nI m), .int x, .int (nI a), .int (nI b), .int i] (SK, M, N) (RQ M N (wrS (sh a) b i x) ((n, k, P, pa), kp, tp, sh)) := by
  refine Run.of (by decide) (Nat.le_of_ble_eq_true rfl) ?_
  have hok : OkP n k P := hA.1.1.1
  have hP : ∀ j, j < 47 → M 190 j = P j := hI.1.1
  have hn6 := hok.1
  have hk6 := hok.2.1
  have hn : M 190 0 = nI n := (hP 0 (by omega)).trans hok.2.2.1
  have hk : M 190 1 = nI k := (hP 1 (by omega)).trans hok.2.2.2.1
  refine g_aload_n (j := 0) (pc' := 1) dX12_film_0 rfl rfl ?_
  refine g_iload_n (j := 1) (pc' := 2) dX12_film_1 rfl rfl ?_
  refine g_callV (my := mX12_isMan) (k := 189) (st := []) (av := [.int (nI m)]) (mcr := 0) (msr := 0) (mc := 0) (ms := 0) (pc' := 5) dX12_film_2 kX12_isMan wX12_84 rfl ⟨rfl, rfl⟩ rfl (Nat.le_of_ble_eq_true rfl) (by decide) (s_isMan1 hn hn6 (hm)) rfl ?_
  rintro _ _ ⟨rfl, rfl⟩
  show Go mX12_film _ _ _ 5 [(0, .ref 189), (1, .int (nI m)), (2, .int x), (3, .int (nI a)), (4, .int (nI b)), (5, .int i)] [.int 1] (SK, M, N) _
  refine g_if_eq (tgt := 29) (pc' := 8) dX12_film_5 (by decide) rfl (fun hc => absurd hc (by decide)) (fun _ => ?_)
  refine g_iload_n (j := 2) (pc' := 9) dX12_film_8 rfl rfl ?_
  refine g_i2l (pc' := 10) dX12_film_9 rfl ?_
  refine g_lconst (v := 1) (pc' := 11) dX12_film_10 (by decide) rfl ?_
  refine g_ldc2 (v := 24) (pc' := 14) dX12_film_11 qX12_220 rfl ?_
  refine g_callS (my := mX12_in) (st := []) (av := [.long (Int32.toInt64 x), .long 1, .long 24]) (mcr := 0) (msr := 0) (mc := 0) (ms := 0) (pc' := 17) dX12_film_14 kX12_in wX12_55 rfl (Nat.le_of_ble_eq_true rfl) (by decide) (r_in1 (lo := 1) (hi := 24) (by decide) (by decide) (h1)) rfl ?_
  rintro _ _ ⟨rfl, rfl⟩
  show Go mX12_film _ _ _ 17 [(0, .ref 189), (1, .int (nI m)), (2, .int x), (3, .int (nI a)), (4, .int (nI b)), (5, .int i)] [.int 1] (SK, M, N) _
  refine g_if_eq (tgt := 29) (pc' := 20) dX12_film_17 (by decide) rfl (fun hc => absurd hc (by decide)) (fun _ => ?_)
  refine g_iload_n (j := 3) (pc' := 21) dX12_film_20 rfl rfl ?_
  refine g_iload (j := 4) (pc' := 23) dX12_film_21 rfl rfl ?_
  refine g_callS (my := mX12_isSheet) (st := []) (av := [.int (nI a), .int (nI b)]) (mcr := 0) (msr := 0) (mc := 0) (ms := 0) (pc' := 26) dX12_film_23 kX12_isSheet wX12_207 rfl (Nat.le_of_ble_eq_true rfl) (by decide) (s_isSheet1 (not_rng (hi := 3) (by omega) (by omega)) (not_rng (hi := 3) (by omega) (by omega))) rfl ?_
  rintro _ _ ⟨rfl, rfl⟩
  show Go mX12_film _ _ _ 26 [(0, .ref 189), (1, .int (nI m)), (2, .int x), (3, .int (nI a)), (4, .int (nI b)), (5, .int i)] [.int 1] (SK, M, N) _
  refine g_if_ne (tgt := 31) (pc' := 29) dX12_film_26 (by decide) rfl (fun _ => ?_) (fun hc => absurd hc (by decide))
  refine g_aload_n (j := 0) (pc' := 32) dX12_film_31 rfl rfl ?_
  refine g_iload_n (j := 3) (pc' := 33) dX12_film_32 rfl rfl ?_
  refine g_iload (j := 4) (pc' := 35) dX12_film_33 rfl rfl ?_
  refine g_iload (j := 5) (pc' := 37) dX12_film_35 rfl rfl ?_
  refine g_iload_n (j := 2) (pc' := 38) dX12_film_37 rfl rfl ?_
  refine g_callV (my := mX12_found) (k := 189) (st := []) (av := [.int (nI a), .int (nI b), .int i, .int x]) (mcr := 0) (msr := 0) (mc := 0) (ms := 0) (pc' := 41) dX12_film_38 kX12_found wX12_213 rfl ⟨rfl, rfl⟩ rfl (Nat.le_of_ble_eq_true rfl) (by decide) (r_found hA hI ha hb i (pos1 h1)) rfl ?_
  rintro _ _ ⟨rfl, rfl⟩
  show Go mX12_film _ _ _ 41 [(0, .ref 189), (1, .int (nI m)), (2, .int x), (3, .int (nI a)), (4, .int (nI b)), (5, .int i)] [.int (wrS (sh a) b i x)] (SK, M, N) _
  refine g_istore (L' := [(0, .ref 189), (1, .int (nI m)), (2, .int x), (3, .int (nI a)), (4, .int (nI b)), (5, .int i), (6, .int (wrS (sh a) b i x))]) (pc' := 43) dX12_film_41 (by decide) rfl rfl ?_
  refine g_iload (j := 6) (pc' := 45) dX12_film_43 rfl rfl ?_
  refine g_if_ge (tgt := 51) (pc' := 48) dX12_film_45 (by decide) rfl (fun hc => (absurd (wrS_neg h2) (Int32.not_lt.mpr hc))) (fun hc => ?_)
  refine g_iload (j := 6) (pc' := 50) dX12_film_48 rfl rfl ?_
  exact g_iret dX12_film_50 rfl rfl (RQ.same hI)
set_option maxRecDepth 100000 in
set_option maxHeartbeats 1000000 in
theorem r_film {M : Nat → Nat → Int32} {N : Nat → Nat → Int64} {n k : Nat} {P : Nat → Int32} {pa : List (Nat → Int32)} {kp : Option YS} {tp : List Int32} {sh : Nat → Option (Nat × Nat × (Nat → Int64))} (hA : AOk ((n, k, P, pa), kp, tp, sh)) (hI : RI M N ((n, k, P, pa), kp, tp, sh)) {m a b q c ln : Nat} {f : Nat → Int64} (hm : m < n) (hc1 : 1 ≤ c) (hc8 : c ≤ 24) (ha : a < 4) (hb : b < 4) (hs : sh a = some (b, ln, f)) (hq : q + c ≤ ln) (hl : ln ≤ 24) : Run mX12_film 30 0 0 [.ref 189, .int (nI m), .int (nI c), .int (nI a), .int (nI b), .int (nI q)] (SK, M, N) (RQ M N (nI c) ((n, k, P, pa), kp, tp, upS sh a (some (b, ln, flmF P n k m q f c)))) := by
  refine Run.of (by decide) (Nat.le_of_ble_eq_true rfl) ?_
  have hok : OkP n k P := hA.1.1.1
  have hP : ∀ j, j < 47 → M 190 j = P j := hI.1.1
  have hn6 := hok.1
  have hk6 := hok.2.1
  have hn : M 190 0 = nI n := (hP 0 (by omega)).trans hok.2.2.1
  have hk : M 190 1 = nI k := (hP 1 (by omega)).trans hok.2.2.2.1
  have h0 : ShR M N a (some (b, ln, f)) := by
    have h := hI.2.2.2 a ha
    rw [show (((n, k, P, pa), kp, tp, sh) : AS).2.2.2 a = some (b, ln, f) from hs] at h
    exact h
  obtain ⟨h6, h5, h7⟩ := h0
  refine g_aload_n (j := 0) (pc' := 1) dX12_film_0 rfl rfl ?_
  refine g_iload_n (j := 1) (pc' := 2) dX12_film_1 rfl rfl ?_
  refine g_callV (my := mX12_isMan) (k := 189) (st := []) (av := [.int (nI m)]) (mcr := 0) (msr := 0) (mc := 0) (ms := 0) (pc' := 5) dX12_film_2 kX12_isMan wX12_84 rfl ⟨rfl, rfl⟩ rfl (Nat.le_of_ble_eq_true rfl) (by decide) (s_isMan1 hn hn6 (hm)) rfl ?_
  rintro _ _ ⟨rfl, rfl⟩
  show Go mX12_film _ _ _ 5 [(0, .ref 189), (1, .int (nI m)), (2, .int (nI c)), (3, .int (nI a)), (4, .int (nI b)), (5, .int (nI q))] [.int 1] (SK, M, N) _
  refine g_if_eq (tgt := 29) (pc' := 8) dX12_film_5 (by decide) rfl (fun hc => absurd hc (by decide)) (fun _ => ?_)
  refine g_iload_n (j := 2) (pc' := 9) dX12_film_8 rfl rfl ?_
  refine g_i2l (pc' := 10) dX12_film_9 rfl ?_
  refine g_lconst (v := 1) (pc' := 11) dX12_film_10 (by decide) rfl ?_
  refine g_ldc2 (v := 24) (pc' := 14) dX12_film_11 qX12_220 rfl ?_
  refine g_callS (my := mX12_in) (st := []) (av := [.long (Int32.toInt64 (nI c)), .long 1, .long 24]) (mcr := 0) (msr := 0) (mc := 0) (ms := 0) (pc' := 17) dX12_film_14 kX12_in wX12_55 rfl (Nat.le_of_ble_eq_true rfl) (by decide) (r_in1 (lo := 1) (hi := 24) (by decide) (by decide) (rng2 (lo := 1) (hi := 24) hc1 hc8 (by omega))) rfl ?_
  rintro _ _ ⟨rfl, rfl⟩
  show Go mX12_film _ _ _ 17 [(0, .ref 189), (1, .int (nI m)), (2, .int (nI c)), (3, .int (nI a)), (4, .int (nI b)), (5, .int (nI q))] [.int 1] (SK, M, N) _
  refine g_if_eq (tgt := 29) (pc' := 20) dX12_film_17 (by decide) rfl (fun hc => absurd hc (by decide)) (fun _ => ?_)
  refine g_iload_n (j := 3) (pc' := 21) dX12_film_20 rfl rfl ?_
  refine g_iload (j := 4) (pc' := 23) dX12_film_21 rfl rfl ?_
  refine g_callS (my := mX12_isSheet) (st := []) (av := [.int (nI a), .int (nI b)]) (mcr := 0) (msr := 0) (mc := 0) (ms := 0) (pc' := 26) dX12_film_23 kX12_isSheet wX12_207 rfl (Nat.le_of_ble_eq_true rfl) (by decide) (s_isSheet1 (not_rng (hi := 3) (by omega) (by omega)) (not_rng (hi := 3) (by omega) (by omega))) rfl ?_
  rintro _ _ ⟨rfl, rfl⟩
  show Go mX12_film _ _ _ 26 [(0, .ref 189), (1, .int (nI m)), (2, .int (nI c)), (3, .int (nI a)), (4, .int (nI b)), (5, .int (nI q))] [.int 1] (SK, M, N) _
  refine g_if_ne (tgt := 31) (pc' := 29) dX12_film_26 (by decide) rfl (fun _ => ?_) (fun hc => absurd hc (by decide))
  refine g_aload_n (j := 0) (pc' := 32) dX12_film_31 rfl rfl ?_
  refine g_iload_n (j := 3) (pc' := 33) dX12_film_32 rfl rfl ?_
  refine g_iload (j := 4) (pc' := 35) dX12_film_33 rfl rfl ?_
  refine g_iload (j := 5) (pc' := 37) dX12_film_35 rfl rfl ?_
  refine g_iload_n (j := 2) (pc' := 38) dX12_film_37 rfl rfl ?_
  refine g_callV (my := mX12_found) (k := 189) (st := []) (av := [.int (nI a), .int (nI b), .int (nI q), .int (nI c)]) (mcr := 0) (msr := 0) (mc := 0) (ms := 0) (pc' := 41) dX12_film_38 kX12_found wX12_213 rfl ⟨rfl, rfl⟩ rfl (Nat.le_of_ble_eq_true rfl) (by decide) (r_found hA hI ha hb (nI q) (n := nI c) (nI_pos (by omega))) rfl ?_
  rintro _ _ ⟨rfl, rfl⟩
  show Go mX12_film _ _ _ 41 [(0, .ref 189), (1, .int (nI m)), (2, .int (nI c)), (3, .int (nI a)), (4, .int (nI b)), (5, .int (nI q))] [.int (wrS (sh a) b (nI q) (nI c))] (SK, M, N) _
  refine g_top (y := 0) (wrS_of hs hq hl) ?_
  refine g_istore (L' := [(0, .ref 189), (1, .int (nI m)), (2, .int (nI c)), (3, .int (nI a)), (4, .int (nI b)), (5, .int (nI q)), (6, .int 0)]) (pc' := 43) dX12_film_41 (by decide) rfl rfl ?_
  refine g_iload (j := 6) (pc' := 45) dX12_film_43 rfl rfl ?_
  refine g_if_ge (tgt := 51) (pc' := 48) dX12_film_45 (by decide) rfl (fun hc => ?_) (fun hc => (absurd (by decide) hc))
  refine g_less (L' := [(0, .ref 189), (1, .int (nI m)), (2, .int (nI c)), (3, .int (nI a)), (4, .int (nI b)), (5, .int (nI q))]) [0, 1, 2, 3, 4, 5] rfl ?_
  refine g_aload_n (j := 0) (pc' := 52) dX12_film_51 rfl rfl ?_
  refine g_callV (my := mX12_layAside) (k := 189) (st := []) (av := []) (mcr := 0) (msr := 0) (mc := 0) (ms := 0) (pc' := 55) dX12_film_52 kX12_layAside wX12_183 rfl ⟨rfl, rfl⟩ rfl (Nat.le_of_ble_eq_true rfl) (by decide) (r_layAside hP) rfl ?_
  rintro _ _ ⟨M3, rfl, rfl, h3, hf3⟩
  show Go mX12_film _ _ _ 55 [(0, .ref 189), (1, .int (nI m)), (2, .int (nI c)), (3, .int (nI a)), (4, .int (nI b)), (5, .int (nI q))] [] (SK, M3, N) _
  refine g_iconst (v := 0) (pc' := 56) dX12_film_55 (by decide) rfl ?_
  refine g_istore (L' := [(0, .ref 189), (1, .int (nI m)), (2, .int (nI c)), (3, .int (nI a)), (4, .int (nI b)), (5, .int (nI q)), (7, .int 0)]) (pc' := 58) dX12_film_56 (by decide) rfl rfl ?_
  have loop : ∀ (u t : Nat) (M5 : Nat → Nat → Int32) (N1 : Nat → Nat → Int64), t + u = c → (∀ j, j < 47 → M5 191 j = foreP n k P t j) → (∀ a, ¬ tmpR a → M5 a = M a) → (∀ x, N1 197 x = if 24 * a + q ≤ x ∧ x < 24 * a + q + t then (unN (foreP n k P (x - (24 * a + q) + 1) (28 + m))).toInt64 else N 197 x) → (∀ e, e ≠ 197 → N1 e = N e) → Go mX12_film 30 0 0 58 [(0, .ref 189), (1, .int (nI m)), (2, .int (nI c)), (3, .int (nI a)), (4, .int (nI b)), (5, .int (nI q)), (7, .int (nI t))] [] (SK, M5, N1) (RQ M N (nI c) ((n, k, P, pa), kp, tp, upS sh a (some (b, ln, flmF P n k m q f c)))) := by
    intro u
    induction u with
    | zero =>
      intro t M5 N1 ht h5a hf5 hx hn1
      refine g_iload (j := 6) (pc' := 60) dX12_film_58 rfl rfl ?_
      refine g_iload_n (j := 2) (pc' := 61) dX12_film_60 rfl rfl ?_
      refine g_icmp_ge (tgt := 103) (pc' := 64) dX12_film_61 (by decide) rfl (fun hc => ?_) (fun hc => (absurd (nI_le (a := c) (b := t) (by omega) (by omega)) hc))
      obtain rfl : c = t := by omega
      refine g_iload_n (j := 2) (pc' := 104) dX12_film_103 rfl rfl ?_
      refine g_iret dX12_film_104 rfl rfl (RQ.sheet hI ha ⟨by rw [hf5 196 (by unfold tmpR; omega)]; exact h6, by rw [hf5 195 (by unfold tmpR; omega)]; exact h5, fun j hj => ?_⟩ (fun e _ _ te => hf5 e te) (fun i _ => by rw [hf5 195 (by unfold tmpR; omega)]) (fun i _ => by rw [hf5 196 (by unfold tmpR; omega)]) hn1 (fun j hj => by rw [hx, if_neg (by omega)]))
      rw [hx]
      unfold flmF
      by_cases e : q ≤ j ∧ j < q + c
      · rw [if_pos (by omega), if_pos e, show 24 * a + j - (24 * a + q) + 1 = j - q + 1 by omega]
      · rw [if_neg (by omega), if_neg e]; exact h7 j hj
    | succ u ih =>
      intro t M5 N1 ht h5a hf5 hx hn1
      refine g_iload (j := 6) (pc' := 60) dX12_film_58 rfl rfl ?_
      refine g_iload_n (j := 2) (pc' := 61) dX12_film_60 rfl rfl ?_
      refine g_icmp_ge (tgt := 103) (pc' := 64) dX12_film_61 (by decide) rfl (fun hc => (absurd hc (nI_ge (a := t) (b := c) (by omega) (by omega)))) (fun hc => ?_)
      refine g_aload_n (j := 0) (pc' := 65) dX12_film_64 rfl rfl ?_
      refine g_iconst (v := 1) (pc' := 66) dX12_film_65 (by decide) rfl ?_
      refine g_callV (my := mX12_go) (k := 189) (st := []) (av := [.int 1]) (mcr := 0) (msr := 0) (mc := 0) (ms := 0) (pc' := 69) dX12_film_66 kX12_go wX12_186 rfl ⟨rfl, rfl⟩ rfl (Nat.le_of_ble_eq_true rfl) (by decide) (r_go (s := t) (t := 1) hok (by omega) h5a) rfl ?_
      rintro _ _ ⟨M6, rfl, rfl, h6a, hf6⟩
      show Go mX12_film _ _ _ 69 [(0, .ref 189), (1, .int (nI m)), (2, .int (nI c)), (3, .int (nI a)), (4, .int (nI b)), (5, .int (nI q)), (7, .int (nI t))] [] (SK, M6, N1) _
      have hf7 : ∀ a, ¬ tmpR a → M6 a = M a := fun a ta => by
        have tb := ta
        unfold tmpR at tb
        rw [hf6 a (by omega) (by omega) (by omega) (by omega)]
        exact hf5 a ta
      refine g_aload_n (j := 0) (pc' := 70) dX12_film_69 rfl rfl ?_
      refine g_getR (pc' := 73) dX12_film_70 fX12_31 rfl rfl rfl ?_
      refine g_bipush (v := 24) (pc' := 75) dX12_film_73 (by decide) rfl ?_
      refine g_iload_n (j := 3) (pc' := 76) dX12_film_75 rfl rfl ?_
      refine g_imul (pc' := 77) dX12_film_76 rfl ?_
      refine g_iload (j := 5) (pc' := 79) dX12_film_77 rfl rfl ?_
      refine g_iadd (pc' := 80) dX12_film_79 rfl ?_
      refine g_iload (j := 6) (pc' := 82) dX12_film_80 rfl rfl ?_
      refine g_iadd (pc' := 83) dX12_film_82 rfl ?_
      refine g_aload_n (j := 0) (pc' := 84) dX12_film_83 rfl rfl ?_
      refine g_getR (pc' := 87) dX12_film_84 fX12_13 rfl rfl rfl ?_
      refine g_bipush (v := 28) (pc' := 89) dX12_film_87 (by decide) rfl ?_
      refine g_iload_n (j := 1) (pc' := 90) dX12_film_89 rfl rfl ?_
      refine g_iadd (pc' := 91) dX12_film_90 rfl ?_
      refine g_iald (n := 28 + m) (pc' := 92) dX12_film_91 rfl (nI_addE rfl rfl) (by omega) rfl ?_
      refine g_top (y := foreP n k P (t + 1) (28 + m)) (h6a _ (by omega)) ?_
      refine g_callS (my := mX12_told) (st := [.int (((24 * (nI a)) + (nI q)) + (nI t)), .ref 197]) (av := [.int (foreP n k P (t + 1) (28 + m))]) (mcr := 0) (msr := 0) (mc := 0) (ms := 0) (pc' := 95) dX12_film_92 kX12_told wX12_217 rfl (Nat.le_of_ble_eq_true rfl) (by decide) (s_told (foreP n k P (t + 1) (28 + m)) (SK, M6, N1)) rfl ?_
      rintro _ _ ⟨rfl, rfl⟩
      show Go mX12_film _ _ _ 95 [(0, .ref 189), (1, .int (nI m)), (2, .int (nI c)), (3, .int (nI a)), (4, .int (nI b)), (5, .int (nI q)), (7, .int (nI t))] [.int (unN (foreP n k P (t + 1) (28 + m))), .int (((24 * (nI a)) + (nI q)) + (nI t)), .ref 197] (SK, M6, N1) _
      refine g_i2l (pc' := 96) dX12_film_95 rfl ?_
      refine g_last (n := ((24 * a) + q) + t) (pc' := 97) dX12_film_96 rfl (nI_addE (nI_addE (nI_mulE rfl rfl) rfl) rfl) (by omega) rfl ?_
      generalize hN2 : (um N1 197 (((24 * a) + q) + t) (Int32.toInt64 (unN (foreP n k P (t + 1) (28 + m))))) = N2
      refine g_iinc (j := 6) (v := nI (t + 1)) (L' := [(0, .ref 189), (1, .int (nI m)), (2, .int (nI c)), (3, .int (nI a)), (4, .int (nI b)), (5, .int (nI q)), (7, .int (nI (t + 1)))]) (pc' := 100) dX12_film_97 rfl (nI_1 t) (by decide) rfl rfl ?_
      refine g_goto (tgt := 58) dX12_film_100 (by decide) ?_
      refine ih (t + 1) M6 N2 (by omega) h6a hf7 (fun x => ?_) (fun e he => by rw [← hN2, um_ne he]; exact hn1 e he)
      rw [← hN2]
      by_cases e : x = 24 * a + q + t
      · subst e; rw [um_at, if_pos (by omega), Nat.add_sub_cancel_left]
      · rw [um_at2 e, hx x]
        by_cases e2 : 24 * a + q ≤ x ∧ x < 24 * a + q + t
        · rw [if_pos e2, if_pos (by omega)]
        · rw [if_neg e2, if_neg (by omega)]
  exact loop c 0 M3 N (by omega) h3 (fun a ta => hf3 a (by unfold tmpR at ta; omega)) (fun x => by rw [if_neg (by omega)]) (fun _ _ => rfl)
