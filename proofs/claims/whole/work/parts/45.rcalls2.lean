theorem YR.up {M : Nat → Nat → Int32} {n k t j : Nat} {P : Nat → Int32} {pa : List (Nat → Int32)} {v : Int32} (h : YR M t (n, k, P, pa)) (hj : j < 47) : YR (um M t j v) t (n, k, upP P j v, pa) := by
  obtain ⟨h1, h2, h3⟩ := h
  refine ⟨fun i hi => ?_, by rw [um_at2 (by omega)]; exact h2, fun i Q hi => ⟨fun q hq => by rw [um_at2 (by omega)]; exact (h3 i Q hi).1 q hq, by rw [um_at2 (by omega)]; exact (h3 i Q hi).2⟩⟩
  show um M t j v t i = upP P j v i
  by_cases e : i = j
  · subst e; rw [um_at, upP_at]
  · rw [um_at2 e, upP_ne e]; exact h1 i hi
theorem rngJ {u : Int32} {a b : Int32} (h : u.toInt < a.toInt ∨ b.toInt < u.toInt) : u < a ∨ b < u := h.imp Int32.lt_iff_toInt_lt.mpr Int32.lt_iff_toInt_lt.mpr
set_option maxRecDepth 100000 in
set_option maxHeartbeats 1000000 in
theorem s_becomes {M : Nat → Nat → Int32} {N : Nat → Nat → Int64} {w : Nat} (v : Int32) (hw : w < 352) : Run mX12_becomes 0 0 0 [.ref 189, .int (nI w), .int v] (SK, M, N) (fun r h' => h' = (SK, um M 190 w v, N) ∧ r = some (.int (M 190 w))) := by
  refine Run.of (by decide) (Nat.le_of_ble_eq_true rfl) ?_
  refine g_aload_n (j := 0) (pc' := 1) dX12_becomes_0 rfl rfl ?_
  refine g_getR (pc' := 4) dX12_becomes_1 fX12_7 rfl rfl rfl ?_
  refine g_iload_n (j := 1) (pc' := 5) dX12_becomes_4 rfl rfl ?_
  refine g_iald (n := w) (pc' := 6) dX12_becomes_5 rfl rfl (by omega) rfl ?_
  refine g_istore_n (L' := [(0, .ref 189), (1, .int (nI w)), (2, .int v), (3, .int (M 190 w))]) (pc' := 7) dX12_becomes_6 (by decide) rfl rfl ?_
  refine g_aload_n (j := 0) (pc' := 8) dX12_becomes_7 rfl rfl ?_
  refine g_getR (pc' := 11) dX12_becomes_8 fX12_7 rfl rfl rfl ?_
  refine g_iload_n (j := 1) (pc' := 12) dX12_becomes_11 rfl rfl ?_
  refine g_iload_n (j := 2) (pc' := 13) dX12_becomes_12 rfl rfl ?_
  refine g_iast (n := w) (pc' := 14) dX12_becomes_13 rfl rfl (by omega) rfl ?_
  refine g_iload_n (j := 3) (pc' := 15) dX12_becomes_14 rfl rfl ?_
  exact g_iret dX12_becomes_15 rfl rfl (⟨rfl, rfl⟩)
set_option maxRecDepth 100000 in
set_option maxHeartbeats 1000000 in
theorem r_stones_b {M : Nat → Nat → Int32} {N : Nat → Nat → Int64} {n k : Nat} {P : Nat → Int32} {pa : List (Nat → Int32)} {kp : Option YS} {tp : List Int32} {sh : Nat → Option (Nat × Nat × (Nat → Int64))} (hA : AOk ((n, k, P, pa), kp, tp, sh)) (hI : RI M N ((n, k, P, pa), kp, tp, sh)) {v : Int32} (h1 : v < 0 ∨ 20 < v) : Run mX12_stones 30 0 0 [.ref 189, .int v] (SK, M, N) (RQ M N (-1) ((n, k, P, pa), kp, tp, sh)) := by
  refine Run.of (by decide) (Nat.le_of_ble_eq_true rfl) ?_
  have hok : OkP n k P := hA.1.1.1
  have hP : ∀ j, j < 47 → M 190 j = P j := hI.1.1
  have hn6 := hok.1
  have hk6 := hok.2.1
  have hn : M 190 0 = nI n := (hP 0 (by omega)).trans hok.2.2.1
  have hk : M 190 1 = nI k := (hP 1 (by omega)).trans hok.2.2.2.1
  refine g_iload_n (j := 1) (pc' := 1) dX12_stones_0 rfl rfl ?_
  refine g_i2l (pc' := 2) dX12_stones_1 rfl ?_
  refine g_lconst (v := 0) (pc' := 3) dX12_stones_2 (by decide) rfl ?_
  refine g_ldc2 (v := 20) (pc' := 6) dX12_stones_3 qX12_82 rfl ?_
  refine g_callS (my := mX12_in) (st := []) (av := [.long (Int32.toInt64 v), .long 0, .long 20]) (mcr := 0) (msr := 0) (mc := 0) (ms := 0) (pc' := 9) dX12_stones_6 kX12_in wX12_55 rfl (Nat.le_of_ble_eq_true rfl) (by decide) (r_in0 (lo := 0) (hi := 20) (by decide) (by decide) (h1)) rfl ?_
  rintro _ _ ⟨rfl, rfl⟩
  show Go mX12_stones _ _ _ 9 [(0, .ref 189), (1, .int v)] [.int 0] (SK, M, N) _
  refine g_if_eq (tgt := 21) (pc' := 12) dX12_stones_9 (by decide) rfl (fun _ => ?_) (fun hc => absurd rfl hc)
  refine g_iconst (v := (-1)) (pc' := 22) dX12_stones_21 (by decide) rfl ?_
  exact g_iret dX12_stones_22 rfl rfl (RQ.same hI)
set_option maxRecDepth 100000 in
set_option maxHeartbeats 1000000 in
theorem r_stones {M : Nat → Nat → Int32} {N : Nat → Nat → Int64} {n k : Nat} {P : Nat → Int32} {pa : List (Nat → Int32)} {kp : Option YS} {tp : List Int32} {sh : Nat → Option (Nat × Nat × (Nat → Int64))} (hA : AOk ((n, k, P, pa), kp, tp, sh)) (hI : RI M N ((n, k, P, pa), kp, tp, sh)) {v : Int32} (h1 : ¬ (v < 0 ∨ 20 < v)) : Run mX12_stones 30 0 0 [.ref 189, .int v] (SK, M, N) (RQ M N (P 2) ((n, k, upP P 2 v, pa), kp, tp, sh)) := by
  refine Run.of (by decide) (Nat.le_of_ble_eq_true rfl) ?_
  have hok : OkP n k P := hA.1.1.1
  have hP : ∀ j, j < 47 → M 190 j = P j := hI.1.1
  have hn6 := hok.1
  have hk6 := hok.2.1
  have hn : M 190 0 = nI n := (hP 0 (by omega)).trans hok.2.2.1
  have hk : M 190 1 = nI k := (hP 1 (by omega)).trans hok.2.2.2.1
  refine g_iload_n (j := 1) (pc' := 1) dX12_stones_0 rfl rfl ?_
  refine g_i2l (pc' := 2) dX12_stones_1 rfl ?_
  refine g_lconst (v := 0) (pc' := 3) dX12_stones_2 (by decide) rfl ?_
  refine g_ldc2 (v := 20) (pc' := 6) dX12_stones_3 qX12_82 rfl ?_
  refine g_callS (my := mX12_in) (st := []) (av := [.long (Int32.toInt64 v), .long 0, .long 20]) (mcr := 0) (msr := 0) (mc := 0) (ms := 0) (pc' := 9) dX12_stones_6 kX12_in wX12_55 rfl (Nat.le_of_ble_eq_true rfl) (by decide) (r_in1 (lo := 0) (hi := 20) (by decide) (by decide) (h1)) rfl ?_
  rintro _ _ ⟨rfl, rfl⟩
  show Go mX12_stones _ _ _ 9 [(0, .ref 189), (1, .int v)] [.int 1] (SK, M, N) _
  refine g_if_eq (tgt := 21) (pc' := 12) dX12_stones_9 (by decide) rfl (fun hc => absurd hc (by decide)) (fun _ => ?_)
  refine g_aload_n (j := 0) (pc' := 13) dX12_stones_12 rfl rfl ?_
  refine g_iconst (v := 2) (pc' := 14) dX12_stones_13 (by decide) rfl ?_
  refine g_iload_n (j := 1) (pc' := 15) dX12_stones_14 rfl rfl ?_
  refine g_callV (my := mX12_becomes) (k := 189) (st := []) (av := [.int 2, .int v]) (mcr := 0) (msr := 0) (mc := 0) (ms := 0) (pc' := 18) dX12_stones_15 kX12_becomes wX12_100 rfl ⟨rfl, rfl⟩ rfl (Nat.le_of_ble_eq_true rfl) (by decide) (s_becomes (w := 2) v (by omega)) rfl ?_
  rintro _ _ ⟨rfl, rfl⟩
  show Go mX12_stones _ _ _ 18 [(0, .ref 189), (1, .int v)] [.int (M 190 2)] (SK, (um M 190 2 v), N) _
  refine g_top (y := P 2) (hP 2 (by omega)) ?_
  refine g_goto (tgt := 22) dX12_stones_18 (by decide) ?_
  exact g_iret dX12_stones_22 rfl rfl (RQ.now hI (hI.1.up (by omega)) (fun a _ ha => um_ne ha))
set_option maxRecDepth 100000 in
set_option maxHeartbeats 1000000 in
theorem r_seed_b {M : Nat → Nat → Int32} {N : Nat → Nat → Int64} {n k : Nat} {P : Nat → Int32} {pa : List (Nat → Int32)} {kp : Option YS} {tp : List Int32} {sh : Nat → Option (Nat × Nat × (Nat → Int64))} (hA : AOk ((n, k, P, pa), kp, tp, sh)) (hI : RI M N ((n, k, P, pa), kp, tp, sh)) {v : Int32} (h1 : v < 0) : Run mX12_seed 30 0 0 [.ref 189, .int v] (SK, M, N) (RQ M N (-1) ((n, k, P, pa), kp, tp, sh)) := by
  refine Run.of (by decide) (Nat.le_of_ble_eq_true rfl) ?_
  have hok : OkP n k P := hA.1.1.1
  have hP : ∀ j, j < 47 → M 190 j = P j := hI.1.1
  have hn6 := hok.1
  have hk6 := hok.2.1
  have hn : M 190 0 = nI n := (hP 0 (by omega)).trans hok.2.2.1
  have hk : M 190 1 = nI k := (hP 1 (by omega)).trans hok.2.2.2.1
  refine g_iload_n (j := 1) (pc' := 1) dX12_seed_0 rfl rfl ?_
  refine g_if_ge (tgt := 8) (pc' := 4) dX12_seed_1 (by decide) rfl (fun hc => (absurd h1 (Int32.not_lt.mpr hc))) (fun hc => ?_)
  refine g_iconst (v := (-1)) (pc' := 5) dX12_seed_4 (by decide) rfl ?_
  refine g_goto (tgt := 15) dX12_seed_5 (by decide) ?_
  exact g_iret dX12_seed_15 rfl rfl (RQ.same hI)
set_option maxRecDepth 100000 in
set_option maxHeartbeats 1000000 in
theorem r_seed {M : Nat → Nat → Int32} {N : Nat → Nat → Int64} {n k : Nat} {P : Nat → Int32} {pa : List (Nat → Int32)} {kp : Option YS} {tp : List Int32} {sh : Nat → Option (Nat × Nat × (Nat → Int64))} (hA : AOk ((n, k, P, pa), kp, tp, sh)) (hI : RI M N ((n, k, P, pa), kp, tp, sh)) {v : Int32} (h1 : ¬ v < 0) : Run mX12_seed 30 0 0 [.ref 189, .int v] (SK, M, N) (RQ M N (P 46) ((n, k, upP P 46 v, pa), kp, tp, sh)) := by
  refine Run.of (by decide) (Nat.le_of_ble_eq_true rfl) ?_
  have hok : OkP n k P := hA.1.1.1
  have hP : ∀ j, j < 47 → M 190 j = P j := hI.1.1
  have hn6 := hok.1
  have hk6 := hok.2.1
  have hn : M 190 0 = nI n := (hP 0 (by omega)).trans hok.2.2.1
  have hk : M 190 1 = nI k := (hP 1 (by omega)).trans hok.2.2.2.1
  refine g_iload_n (j := 1) (pc' := 1) dX12_seed_0 rfl rfl ?_
  refine g_if_ge (tgt := 8) (pc' := 4) dX12_seed_1 (by decide) rfl (fun hc => ?_) (fun hc => (absurd (Int32.not_lt.mp h1) hc))
  refine g_aload_n (j := 0) (pc' := 9) dX12_seed_8 rfl rfl ?_
  refine g_bipush (v := 46) (pc' := 11) dX12_seed_9 (by decide) rfl ?_
  refine g_iload_n (j := 1) (pc' := 12) dX12_seed_11 rfl rfl ?_
  refine g_callV (my := mX12_becomes) (k := 189) (st := []) (av := [.int 46, .int v]) (mcr := 0) (msr := 0) (mc := 0) (ms := 0) (pc' := 15) dX12_seed_12 kX12_becomes wX12_100 rfl ⟨rfl, rfl⟩ rfl (Nat.le_of_ble_eq_true rfl) (by decide) (s_becomes (w := 46) v (by omega)) rfl ?_
  rintro _ _ ⟨rfl, rfl⟩
  show Go mX12_seed _ _ _ 15 [(0, .ref 189), (1, .int v)] [.int (M 190 46)] (SK, (um M 190 46 v), N) _
  refine g_top (y := P 46) (hP 46 (by omega)) ?_
  exact g_iret dX12_seed_15 rfl rfl (RQ.now hI (hI.1.up (by omega)) (fun a _ ha => um_ne ha))
set_option maxRecDepth 100000 in
set_option maxHeartbeats 1000000 in
theorem r_name_b1 {M : Nat → Nat → Int32} {N : Nat → Nat → Int64} {n k : Nat} {P : Nat → Int32} {pa : List (Nat → Int32)} {kp : Option YS} {tp : List Int32} {sh : Nat → Option (Nat × Nat × (Nat → Int64))} (hA : AOk ((n, k, P, pa), kp, tp, sh)) (hI : RI M N ((n, k, P, pa), kp, tp, sh)) {wo : Int32} (de : Int32) (h1 : wo < 0 ∨ 20 < wo) : Run mX12_name 30 0 0 [.ref 189, .int wo, .int de] (SK, M, N) (RQ M N (-1) ((n, k, P, pa), kp, tp, sh)) := by
  refine Run.of (by decide) (Nat.le_of_ble_eq_true rfl) ?_
  have hok : OkP n k P := hA.1.1.1
  have hP : ∀ j, j < 47 → M 190 j = P j := hI.1.1
  have hn6 := hok.1
  have hk6 := hok.2.1
  have hn : M 190 0 = nI n := (hP 0 (by omega)).trans hok.2.2.1
  have hk : M 190 1 = nI k := (hP 1 (by omega)).trans hok.2.2.2.1
  refine g_iload_n (j := 1) (pc' := 1) dX12_name_0 rfl rfl ?_
  refine g_i2l (pc' := 2) dX12_name_1 rfl ?_
  refine g_lconst (v := 0) (pc' := 3) dX12_name_2 (by decide) rfl ?_
  refine g_ldc2 (v := 20) (pc' := 6) dX12_name_3 qX12_82 rfl ?_
  refine g_callS (my := mX12_in) (st := []) (av := [.long (Int32.toInt64 wo), .long 0, .long 20]) (mcr := 0) (msr := 0) (mc := 0) (ms := 0) (pc' := 9) dX12_name_6 kX12_in wX12_55 rfl (Nat.le_of_ble_eq_true rfl) (by decide) (r_in0 (lo := 0) (hi := 20) (by decide) (by decide) (h1)) rfl ?_
  rintro _ _ ⟨rfl, rfl⟩
  show Go mX12_name _ _ _ 9 [(0, .ref 189), (1, .int wo), (2, .int de)] [.int 0] (SK, M, N) _
  refine g_if_eq (tgt := 24) (pc' := 12) dX12_name_9 (by decide) rfl (fun _ => ?_) (fun hc => absurd rfl hc)
  refine g_iconst (v := (-1)) (pc' := 25) dX12_name_24 (by decide) rfl ?_
  exact g_iret dX12_name_25 rfl rfl (RQ.same hI)
set_option maxRecDepth 100000 in
set_option maxHeartbeats 1000000 in
theorem r_name_b2 {M : Nat → Nat → Int32} {N : Nat → Nat → Int64} {n k : Nat} {P : Nat → Int32} {pa : List (Nat → Int32)} {kp : Option YS} {tp : List Int32} {sh : Nat → Option (Nat × Nat × (Nat → Int64))} (hA : AOk ((n, k, P, pa), kp, tp, sh)) (hI : RI M N ((n, k, P, pa), kp, tp, sh)) {wo de : Int32} (h1 : ¬ (wo < 0 ∨ 20 < wo)) (h2 : de < 0 ∨ 20 < de) : Run mX12_name 30 0 0 [.ref 189, .int wo, .int de] (SK, M, N) (RQ M N (-1) ((n, k, P, pa), kp, tp, sh)) := by
  refine Run.of (by decide) (Nat.le_of_ble_eq_true rfl) ?_
  have hok : OkP n k P := hA.1.1.1
  have hP : ∀ j, j < 47 → M 190 j = P j := hI.1.1
  have hn6 := hok.1
  have hk6 := hok.2.1
  have hn : M 190 0 = nI n := (hP 0 (by omega)).trans hok.2.2.1
  have hk : M 190 1 = nI k := (hP 1 (by omega)).trans hok.2.2.2.1
  refine g_iload_n (j := 1) (pc' := 1) dX12_name_0 rfl rfl ?_
  refine g_i2l (pc' := 2) dX12_name_1 rfl ?_
  refine g_lconst (v := 0) (pc' := 3) dX12_name_2 (by decide) rfl ?_
  refine g_ldc2 (v := 20) (pc' := 6) dX12_name_3 qX12_82 rfl ?_
  refine g_callS (my := mX12_in) (st := []) (av := [.long (Int32.toInt64 wo), .long 0, .long 20]) (mcr := 0) (msr := 0) (mc := 0) (ms := 0) (pc' := 9) dX12_name_6 kX12_in wX12_55 rfl (Nat.le_of_ble_eq_true rfl) (by decide) (r_in1 (lo := 0) (hi := 20) (by decide) (by decide) (h1)) rfl ?_
  rintro _ _ ⟨rfl, rfl⟩
  show Go mX12_name _ _ _ 9 [(0, .ref 189), (1, .int wo), (2, .int de)] [.int 1] (SK, M, N) _
  refine g_if_eq (tgt := 24) (pc' := 12) dX12_name_9 (by decide) rfl (fun hc => absurd hc (by decide)) (fun _ => ?_)
  refine g_iload_n (j := 2) (pc' := 13) dX12_name_12 rfl rfl ?_
  refine g_i2l (pc' := 14) dX12_name_13 rfl ?_
  refine g_lconst (v := 0) (pc' := 15) dX12_name_14 (by decide) rfl ?_
  refine g_ldc2 (v := 20) (pc' := 18) dX12_name_15 qX12_82 rfl ?_
  refine g_callS (my := mX12_in) (st := []) (av := [.long (Int32.toInt64 de), .long 0, .long 20]) (mcr := 0) (msr := 0) (mc := 0) (ms := 0) (pc' := 21) dX12_name_18 kX12_in wX12_55 rfl (Nat.le_of_ble_eq_true rfl) (by decide) (r_in0 (lo := 0) (hi := 20) (by decide) (by decide) (h2)) rfl ?_
  rintro _ _ ⟨rfl, rfl⟩
  show Go mX12_name _ _ _ 21 [(0, .ref 189), (1, .int wo), (2, .int de)] [.int 0] (SK, M, N) _
  refine g_if_ne (tgt := 26) (pc' := 24) dX12_name_21 (by decide) rfl (fun hc => absurd rfl hc) (fun _ => ?_)
  refine g_iconst (v := (-1)) (pc' := 25) dX12_name_24 (by decide) rfl ?_
  exact g_iret dX12_name_25 rfl rfl (RQ.same hI)
set_option maxRecDepth 100000 in
set_option maxHeartbeats 1000000 in
theorem r_name_f {M : Nat → Nat → Int32} {N : Nat → Nat → Int64} {n k : Nat} {P : Nat → Int32} {pa : List (Nat → Int32)} {kp : Option YS} {tp : List Int32} {sh : Nat → Option (Nat × Nat × (Nat → Int64))} (hA : AOk ((n, k, P, pa), kp, tp, sh)) (hI : RI M N ((n, k, P, pa), kp, tp, sh)) {wo de : Int32} (h1 : ¬ (wo < 0 ∨ 20 < wo)) (h2 : ¬ (de < 0 ∨ 20 < de)) (h6 : k = 6) : Run mX12_name 30 0 0 [.ref 189, .int wo, .int de] (SK, M, N) (RQ M N (-3) ((n, k, P, pa), kp, tp, sh)) := by
  refine Run.of (by decide) (Nat.le_of_ble_eq_true rfl) ?_
  have hok : OkP n k P := hA.1.1.1
  have hP : ∀ j, j < 47 → M 190 j = P j := hI.1.1
  have hn6 := hok.1
  have hk6 := hok.2.1
  have hn : M 190 0 = nI n := (hP 0 (by omega)).trans hok.2.2.1
  have hk : M 190 1 = nI k := (hP 1 (by omega)).trans hok.2.2.2.1
  refine g_iload_n (j := 1) (pc' := 1) dX12_name_0 rfl rfl ?_
  refine g_i2l (pc' := 2) dX12_name_1 rfl ?_
  refine g_lconst (v := 0) (pc' := 3) dX12_name_2 (by decide) rfl ?_
  refine g_ldc2 (v := 20) (pc' := 6) dX12_name_3 qX12_82 rfl ?_
  refine g_callS (my := mX12_in) (st := []) (av := [.long (Int32.toInt64 wo), .long 0, .long 20]) (mcr := 0) (msr := 0) (mc := 0) (ms := 0) (pc' := 9) dX12_name_6 kX12_in wX12_55 rfl (Nat.le_of_ble_eq_true rfl) (by decide) (r_in1 (lo := 0) (hi := 20) (by decide) (by decide) (h1)) rfl ?_
  rintro _ _ ⟨rfl, rfl⟩
  show Go mX12_name _ _ _ 9 [(0, .ref 189), (1, .int wo), (2, .int de)] [.int 1] (SK, M, N) _
  refine g_if_eq (tgt := 24) (pc' := 12) dX12_name_9 (by decide) rfl (fun hc => absurd hc (by decide)) (fun _ => ?_)
  refine g_iload_n (j := 2) (pc' := 13) dX12_name_12 rfl rfl ?_
  refine g_i2l (pc' := 14) dX12_name_13 rfl ?_
  refine g_lconst (v := 0) (pc' := 15) dX12_name_14 (by decide) rfl ?_
  refine g_ldc2 (v := 20) (pc' := 18) dX12_name_15 qX12_82 rfl ?_
  refine g_callS (my := mX12_in) (st := []) (av := [.long (Int32.toInt64 de), .long 0, .long 20]) (mcr := 0) (msr := 0) (mc := 0) (ms := 0) (pc' := 21) dX12_name_18 kX12_in wX12_55 rfl (Nat.le_of_ble_eq_true rfl) (by decide) (r_in1 (lo := 0) (hi := 20) (by decide) (by decide) (h2)) rfl ?_
  rintro _ _ ⟨rfl, rfl⟩
  show Go mX12_name _ _ _ 21 [(0, .ref 189), (1, .int wo), (2, .int de)] [.int 1] (SK, M, N) _
  refine g_if_ne (tgt := 26) (pc' := 24) dX12_name_21 (by decide) rfl (fun _ => ?_) (fun hc => absurd hc (by decide))
  refine g_aload_n (j := 0) (pc' := 27) dX12_name_26 rfl rfl ?_
  refine g_getR (pc' := 30) dX12_name_27 fX12_7 rfl rfl rfl ?_
  refine g_iconst (v := 1) (pc' := 31) dX12_name_30 (by decide) rfl ?_
  refine g_iald (n := 1) (pc' := 32) dX12_name_31 rfl rfl (by omega) rfl ?_
  refine g_top (y := nI k) (hk) ?_
  refine g_istore_n (L' := [(0, .ref 189), (1, .int wo), (2, .int de), (3, .int (nI k))]) (pc' := 33) dX12_name_32 (by decide) rfl rfl ?_
  refine g_iload_n (j := 3) (pc' := 34) dX12_name_33 rfl rfl ?_
  refine g_bipush (v := 6) (pc' := 36) dX12_name_34 (by decide) rfl ?_
  refine g_icmp_ne (tgt := 42) (pc' := 39) dX12_name_36 (by decide) rfl (fun hc => (absurd hc (by rw [h6]; decide))) (fun hc => ?_)
  refine g_bipush (v := (-3)) (pc' := 41) dX12_name_39 (by decide) rfl ?_
  exact g_iret dX12_name_41 rfl rfl (RQ.same hI)
set_option maxRecDepth 100000 in
set_option maxHeartbeats 1000000 in
theorem r_name {M : Nat → Nat → Int32} {N : Nat → Nat → Int64} {n k : Nat} {P : Nat → Int32} {pa : List (Nat → Int32)} {kp : Option YS} {tp : List Int32} {sh : Nat → Option (Nat × Nat × (Nat → Int64))} (hA : AOk ((n, k, P, pa), kp, tp, sh)) (hI : RI M N ((n, k, P, pa), kp, tp, sh)) {wo de : Int32} (h1 : ¬ (wo < 0 ∨ 20 < wo)) (h2 : ¬ (de < 0 ∨ 20 < de)) (h6 : k < 6) : Run mX12_name 30 0 0 [.ref 189, .int wo, .int de] (SK, M, N) (RQ M N (nI k) ((n, k + 1, nameP P k wo de, []), kp, tp, sh)) := by
  refine Run.of (by decide) (Nat.le_of_ble_eq_true rfl) ?_
  have hok : OkP n k P := hA.1.1.1
  have hP : ∀ j, j < 47 → M 190 j = P j := hI.1.1
  have hn6 := hok.1
  have hk6 := hok.2.1
  have hn : M 190 0 = nI n := (hP 0 (by omega)).trans hok.2.2.1
  have hk : M 190 1 = nI k := (hP 1 (by omega)).trans hok.2.2.2.1
  refine g_iload_n (j := 1) (pc' := 1) dX12_name_0 rfl rfl ?_
  refine g_i2l (pc' := 2) dX12_name_1 rfl ?_
  refine g_lconst (v := 0) (pc' := 3) dX12_name_2 (by decide) rfl ?_
  refine g_ldc2 (v := 20) (pc' := 6) dX12_name_3 qX12_82 rfl ?_
  refine g_callS (my := mX12_in) (st := []) (av := [.long (Int32.toInt64 wo), .long 0, .long 20]) (mcr := 0) (msr := 0) (mc := 0) (ms := 0) (pc' := 9) dX12_name_6 kX12_in wX12_55 rfl (Nat.le_of_ble_eq_true rfl) (by decide) (r_in1 (lo := 0) (hi := 20) (by decide) (by decide) (h1)) rfl ?_
  rintro _ _ ⟨rfl, rfl⟩
  show Go mX12_name _ _ _ 9 [(0, .ref 189), (1, .int wo), (2, .int de)] [.int 1] (SK, M, N) _
  refine g_if_eq (tgt := 24) (pc' := 12) dX12_name_9 (by decide) rfl (fun hc => absurd hc (by decide)) (fun _ => ?_)
  refine g_iload_n (j := 2) (pc' := 13) dX12_name_12 rfl rfl ?_
  refine g_i2l (pc' := 14) dX12_name_13 rfl ?_
  refine g_lconst (v := 0) (pc' := 15) dX12_name_14 (by decide) rfl ?_
  refine g_ldc2 (v := 20) (pc' := 18) dX12_name_15 qX12_82 rfl ?_
  refine g_callS (my := mX12_in) (st := []) (av := [.long (Int32.toInt64 de), .long 0, .long 20]) (mcr := 0) (msr := 0) (mc := 0) (ms := 0) (pc' := 21) dX12_name_18 kX12_in wX12_55 rfl (Nat.le_of_ble_eq_true rfl) (by decide) (r_in1 (lo := 0) (hi := 20) (by decide) (by decide) (h2)) rfl ?_
  rintro _ _ ⟨rfl, rfl⟩
  show Go mX12_name _ _ _ 21 [(0, .ref 189), (1, .int wo), (2, .int de)] [.int 1] (SK, M, N) _
  refine g_if_ne (tgt := 26) (pc' := 24) dX12_name_21 (by decide) rfl (fun _ => ?_) (fun hc => absurd hc (by decide))
  refine g_aload_n (j := 0) (pc' := 27) dX12_name_26 rfl rfl ?_
  refine g_getR (pc' := 30) dX12_name_27 fX12_7 rfl rfl rfl ?_
  refine g_iconst (v := 1) (pc' := 31) dX12_name_30 (by decide) rfl ?_
  refine g_iald (n := 1) (pc' := 32) dX12_name_31 rfl rfl (by omega) rfl ?_
  refine g_top (y := nI k) (hk) ?_
  refine g_istore_n (L' := [(0, .ref 189), (1, .int wo), (2, .int de), (3, .int (nI k))]) (pc' := 33) dX12_name_32 (by decide) rfl rfl ?_
  refine g_iload_n (j := 3) (pc' := 34) dX12_name_33 rfl rfl ?_
  refine g_bipush (v := 6) (pc' := 36) dX12_name_34 (by decide) rfl ?_
  refine g_icmp_ne (tgt := 42) (pc' := 39) dX12_name_36 (by decide) rfl (fun hc => ?_) (fun hc => (absurd hc (fun q => absurd ((nI_eq (a := k) (b := 6) (by omega) (by omega)).mp q) (by omega))))
  refine g_aload_n (j := 0) (pc' := 43) dX12_name_42 rfl rfl ?_
  refine g_getR (pc' := 46) dX12_name_43 fX12_7 rfl rfl rfl ?_
  refine g_bipush (v := 34) (pc' := 48) dX12_name_46 (by decide) rfl ?_
  refine g_iload_n (j := 3) (pc' := 49) dX12_name_48 rfl rfl ?_
  refine g_iadd (pc' := 50) dX12_name_49 rfl ?_
  refine g_iload_n (j := 1) (pc' := 51) dX12_name_50 rfl rfl ?_
  refine g_iast (n := 34 + k) (pc' := 52) dX12_name_51 rfl (nI_addE rfl rfl) (by omega) rfl ?_
  refine g_aload_n (j := 0) (pc' := 53) dX12_name_52 rfl rfl ?_
  refine g_getR (pc' := 56) dX12_name_53 fX12_7 rfl rfl rfl ?_
  refine g_bipush (v := 40) (pc' := 58) dX12_name_56 (by decide) rfl ?_
  refine g_iload_n (j := 3) (pc' := 59) dX12_name_58 rfl rfl ?_
  refine g_iadd (pc' := 60) dX12_name_59 rfl ?_
  refine g_iload_n (j := 2) (pc' := 61) dX12_name_60 rfl rfl ?_
  refine g_iast (n := 40 + k) (pc' := 62) dX12_name_61 rfl (nI_addE rfl rfl) (by omega) rfl ?_
  refine g_aload_n (j := 0) (pc' := 63) dX12_name_62 rfl rfl ?_
  refine g_getR (pc' := 66) dX12_name_63 fX12_7 rfl rfl rfl ?_
  refine g_iconst (v := 1) (pc' := 67) dX12_name_66 (by decide) rfl ?_
  refine g_dup2 (pc' := 68) dX12_name_67 rfl rfl rfl ?_
  refine g_iald (n := 1) (pc' := 69) dX12_name_68 rfl rfl (by omega) rfl ?_
  refine g_top (y := nI k) (by simp (disch := omega) only [um_at2]; exact hk) ?_
  refine g_iconst (v := 1) (pc' := 70) dX12_name_69 (by decide) rfl ?_
  refine g_iadd (pc' := 71) dX12_name_70 rfl ?_
  refine g_top (y := nI (k + 1)) (nI_1 k) ?_
  refine g_iast (n := 1) (pc' := 72) dX12_name_71 rfl rfl (by omega) rfl ?_
  refine g_aload_n (j := 0) (pc' := 73) dX12_name_72 rfl rfl ?_
  refine g_getR (pc' := 76) dX12_name_73 fX12_7 rfl rfl rfl ?_
  refine g_bipush (v := 47) (pc' := 78) dX12_name_76 (by decide) rfl ?_
  refine g_iconst (v := 0) (pc' := 79) dX12_name_78 (by decide) rfl ?_
  refine g_iast (n := 47) (pc' := 80) dX12_name_79 rfl rfl (by omega) rfl ?_
  generalize hM1 : (um (um (um (um M 190 (34 + k) wo) 190 (40 + k) de) 190 1 (nI (k + 1))) 190 47 0) = M1
  refine g_iload_n (j := 3) (pc' := 81) dX12_name_80 rfl rfl ?_
  refine g_iret dX12_name_81 rfl rfl (RQ.now hI ⟨fun j hj => ?_, by rw [← hM1]; exact um_at, fun i Q hi => by cases hi⟩ (fun a _ ha => by rw [← hM1]; simp (disch := omega) only [um_ne]))
  show M1 190 j = nameP P k wo de j
  rw [← hM1]
  unfold nameP
  by_cases e : j = 40 + k
  · subst e; simp (disch := omega) only [um_at, um_at2, upP_at, upP_ne]
  by_cases e : j = 34 + k
  · subst e; simp (disch := omega) only [um_at, um_at2, upP_at, upP_ne]
  by_cases e : j = 1
  · subst e; simp (disch := omega) only [um_at, um_at2, upP_at, upP_ne]
  simp (disch := omega) only [um_at2, upP_ne]; exact hP j hj
set_option maxRecDepth 100000 in
set_option maxHeartbeats 1000000 in
theorem r_of_b1 {M : Nat → Nat → Int32} {N : Nat → Nat → Int64} {n k : Nat} {P : Nat → Int32} {pa : List (Nat → Int32)} {kp : Option YS} {tp : List Int32} {sh : Nat → Option (Nat × Nat × (Nat → Int64))} (hA : AOk ((n, k, P, pa), kp, tp, sh)) (hI : RI M N ((n, k, P, pa), kp, tp, sh)) {v : Int32} (u : Int32) (h1 : ∀ m, m < n → v ≠ nI m) : Run mX12_of 30 0 0 [.ref 189, .int v, .int u] (SK, M, N) (RQ M N (-1) ((n, k, P, pa), kp, tp, sh)) := by
  refine Run.of (by decide) (Nat.le_of_ble_eq_true rfl) ?_
  have hok : OkP n k P := hA.1.1.1
  have hP : ∀ j, j < 47 → M 190 j = P j := hI.1.1
  have hn6 := hok.1
  have hk6 := hok.2.1
  have hn : M 190 0 = nI n := (hP 0 (by omega)).trans hok.2.2.1
  have hk : M 190 1 = nI k := (hP 1 (by omega)).trans hok.2.2.2.1
  refine g_aload_n (j := 0) (pc' := 1) dX12_of_0 rfl rfl ?_
  refine g_iload_n (j := 1) (pc' := 2) dX12_of_1 rfl rfl ?_
  refine g_callV (my := mX12_isMan) (k := 189) (st := []) (av := [.int v]) (mcr := 0) (msr := 0) (mc := 0) (ms := 0) (pc' := 5) dX12_of_2 kX12_isMan wX12_84 rfl ⟨rfl, rfl⟩ rfl (Nat.le_of_ble_eq_true rfl) (by decide) (s_isMan0 hn hn6 (h1)) rfl ?_
  rintro _ _ ⟨rfl, rfl⟩
  show Go mX12_of _ _ _ 5 [(0, .ref 189), (1, .int v), (2, .int u)] [.int 0] (SK, M, N) _
  refine g_if_ne (tgt := 10) (pc' := 8) dX12_of_5 (by decide) rfl (fun hc => absurd rfl hc) (fun _ => ?_)
  refine g_iconst (v := (-1)) (pc' := 9) dX12_of_8 (by decide) rfl ?_
  exact g_iret dX12_of_9 rfl rfl (RQ.same hI)
set_option maxRecDepth 100000 in
set_option maxHeartbeats 1000000 in
theorem r_of_b2 {M : Nat → Nat → Int32} {N : Nat → Nat → Int64} {n k : Nat} {P : Nat → Int32} {pa : List (Nat → Int32)} {kp : Option YS} {tp : List Int32} {sh : Nat → Option (Nat × Nat × (Nat → Int64))} (hA : AOk ((n, k, P, pa), kp, tp, sh)) (hI : RI M N ((n, k, P, pa), kp, tp, sh)) {m : Nat} {u : Int32} (hm : m < n) (h1 : u.toInt < 0 ∨ 6 < u.toInt) : Run mX12_of 30 0 0 [.ref 189, .int (nI m), .int u] (SK, M, N) (RQ M N (-1) ((n, k, P, pa), kp, tp, sh)) := by
  refine Run.of (by decide) (Nat.le_of_ble_eq_true rfl) ?_
  have hok : OkP n k P := hA.1.1.1
  have hP : ∀ j, j < 47 → M 190 j = P j := hI.1.1
  have hn6 := hok.1
  have hk6 := hok.2.1
  have hn : M 190 0 = nI n := (hP 0 (by omega)).trans hok.2.2.1
  have hk : M 190 1 = nI k := (hP 1 (by omega)).trans hok.2.2.2.1
  refine g_aload_n (j := 0) (pc' := 1) dX12_of_0 rfl rfl ?_
  refine g_iload_n (j := 1) (pc' := 2) dX12_of_1 rfl rfl ?_
  refine g_callV (my := mX12_isMan) (k := 189) (st := []) (av := [.int (nI m)]) (mcr := 0) (msr := 0) (mc := 0) (ms := 0) (pc' := 5) dX12_of_2 kX12_isMan wX12_84 rfl ⟨rfl, rfl⟩ rfl (Nat.le_of_ble_eq_true rfl) (by decide) (s_isMan1 hn hn6 (hm)) rfl ?_
  rintro _ _ ⟨rfl, rfl⟩
  show Go mX12_of _ _ _ 5 [(0, .ref 189), (1, .int (nI m)), (2, .int u)] [.int 1] (SK, M, N) _
  refine g_if_ne (tgt := 10) (pc' := 8) dX12_of_5 (by decide) rfl (fun _ => ?_) (fun hc => absurd hc (by decide))
  refine g_iload_n (j := 2) (pc' := 11) dX12_of_10 rfl rfl ?_
  refine g_tblOut (tgt := 126) dX12_of_11 (h1) (by decide) ?_
  refine g_iconst (v := (-1)) (pc' := 127) dX12_of_126 (by decide) rfl ?_
  exact g_iret dX12_of_127 rfl rfl (RQ.same hI)
set_option maxRecDepth 100000 in
set_option maxHeartbeats 1000000 in
theorem r_of_0 {M : Nat → Nat → Int32} {N : Nat → Nat → Int64} {n k : Nat} {P : Nat → Int32} {pa : List (Nat → Int32)} {kp : Option YS} {tp : List Int32} {sh : Nat → Option (Nat × Nat × (Nat → Int64))} (hA : AOk ((n, k, P, pa), kp, tp, sh)) (hI : RI M N ((n, k, P, pa), kp, tp, sh)) {m : Nat} (hm : m < n) : Run mX12_of 30 0 0 [.ref 189, .int (nI m), .int (nI 0)] (SK, M, N) (RQ M N (ofV P n m 0) ((n, k, P, pa), kp, tp, sh)) := by
  refine Run.of (by decide) (Nat.le_of_ble_eq_true rfl) ?_
  have hok : OkP n k P := hA.1.1.1
  have hP : ∀ j, j < 47 → M 190 j = P j := hI.1.1
  have hn6 := hok.1
  have hk6 := hok.2.1
  have hn : M 190 0 = nI n := (hP 0 (by omega)).trans hok.2.2.1
  have hk : M 190 1 = nI k := (hP 1 (by omega)).trans hok.2.2.2.1
  refine g_aload_n (j := 0) (pc' := 1) dX12_of_0 rfl rfl ?_
  refine g_iload_n (j := 1) (pc' := 2) dX12_of_1 rfl rfl ?_
  refine g_callV (my := mX12_isMan) (k := 189) (st := []) (av := [.int (nI m)]) (mcr := 0) (msr := 0) (mc := 0) (ms := 0) (pc' := 5) dX12_of_2 kX12_isMan wX12_84 rfl ⟨rfl, rfl⟩ rfl (Nat.le_of_ble_eq_true rfl) (by decide) (s_isMan1 hn hn6 (hm)) rfl ?_
  rintro _ _ ⟨rfl, rfl⟩
  show Go mX12_of _ _ _ 5 [(0, .ref 189), (1, .int (nI m)), (2, .int (nI 0))] [.int 1] (SK, M, N) _
  refine g_if_ne (tgt := 10) (pc' := 8) dX12_of_5 (by decide) rfl (fun _ => ?_) (fun hc => absurd hc (by decide))
  refine g_iload_n (j := 2) (pc' := 11) dX12_of_10 rfl rfl ?_
  refine g_tblIn (off := 41) (tgt := 52) dX12_of_11 (by decide) (by decide) (by decide) (by decide) ?_
  refine g_aload_n (j := 0) (pc' := 53) dX12_of_52 rfl rfl ?_
  refine g_getR (pc' := 56) dX12_of_53 fX12_7 rfl rfl rfl ?_
  refine g_iconst (v := 4) (pc' := 57) dX12_of_56 (by decide) rfl ?_
  refine g_iload_n (j := 1) (pc' := 58) dX12_of_57 rfl rfl ?_
  refine g_iadd (pc' := 59) dX12_of_58 rfl ?_
  refine g_iald (n := 4 + m) (pc' := 60) dX12_of_59 rfl (nI_addE rfl rfl) (by omega) rfl ?_
  refine g_top (y := P (4 + m)) (hP _ (by omega)) ?_
  exact g_iret dX12_of_60 rfl rfl (RQ.same hI)
set_option maxRecDepth 100000 in
set_option maxHeartbeats 1000000 in
theorem r_of_1 {M : Nat → Nat → Int32} {N : Nat → Nat → Int64} {n k : Nat} {P : Nat → Int32} {pa : List (Nat → Int32)} {kp : Option YS} {tp : List Int32} {sh : Nat → Option (Nat × Nat × (Nat → Int64))} (hA : AOk ((n, k, P, pa), kp, tp, sh)) (hI : RI M N ((n, k, P, pa), kp, tp, sh)) {m : Nat} (hm : m < n) : Run mX12_of 30 0 0 [.ref 189, .int (nI m), .int (nI 1)] (SK, M, N) (RQ M N (ofV P n m 1) ((n, k, P, pa), kp, tp, sh)) := by
  refine Run.of (by decide) (Nat.le_of_ble_eq_true rfl) ?_
  have hok : OkP n k P := hA.1.1.1
  have hP : ∀ j, j < 47 → M 190 j = P j := hI.1.1
  have hn6 := hok.1
  have hk6 := hok.2.1
  have hn : M 190 0 = nI n := (hP 0 (by omega)).trans hok.2.2.1
  have hk : M 190 1 = nI k := (hP 1 (by omega)).trans hok.2.2.2.1
  refine g_aload_n (j := 0) (pc' := 1) dX12_of_0 rfl rfl ?_
  refine g_iload_n (j := 1) (pc' := 2) dX12_of_1 rfl rfl ?_
  refine g_callV (my := mX12_isMan) (k := 189) (st := []) (av := [.int (nI m)]) (mcr := 0) (msr := 0) (mc := 0) (ms := 0) (pc' := 5) dX12_of_2 kX12_isMan wX12_84 rfl ⟨rfl, rfl⟩ rfl (Nat.le_of_ble_eq_true rfl) (by decide) (s_isMan1 hn hn6 (hm)) rfl ?_
  rintro _ _ ⟨rfl, rfl⟩
  show Go mX12_of _ _ _ 5 [(0, .ref 189), (1, .int (nI m)), (2, .int (nI 1))] [.int 1] (SK, M, N) _
  refine g_if_ne (tgt := 10) (pc' := 8) dX12_of_5 (by decide) rfl (fun _ => ?_) (fun hc => absurd hc (by decide))
  refine g_iload_n (j := 2) (pc' := 11) dX12_of_10 rfl rfl ?_
  refine g_tblIn (off := 50) (tgt := 61) dX12_of_11 (by decide) (by decide) (by decide) (by decide) ?_
  refine g_aload_n (j := 0) (pc' := 62) dX12_of_61 rfl rfl ?_
  refine g_getR (pc' := 65) dX12_of_62 fX12_7 rfl rfl rfl ?_
  refine g_bipush (v := 10) (pc' := 67) dX12_of_65 (by decide) rfl ?_
  refine g_iload_n (j := 1) (pc' := 68) dX12_of_67 rfl rfl ?_
  refine g_iadd (pc' := 69) dX12_of_68 rfl ?_
  refine g_iald (n := 10 + m) (pc' := 70) dX12_of_69 rfl (nI_addE rfl rfl) (by omega) rfl ?_
  refine g_top (y := P (10 + m)) (hP _ (by omega)) ?_
  exact g_iret dX12_of_70 rfl rfl (RQ.same hI)
set_option maxRecDepth 100000 in
set_option maxHeartbeats 1000000 in
theorem r_of_2 {M : Nat → Nat → Int32} {N : Nat → Nat → Int64} {n k : Nat} {P : Nat → Int32} {pa : List (Nat → Int32)} {kp : Option YS} {tp : List Int32} {sh : Nat → Option (Nat × Nat × (Nat → Int64))} (hA : AOk ((n, k, P, pa), kp, tp, sh)) (hI : RI M N ((n, k, P, pa), kp, tp, sh)) {m : Nat} (hm : m < n) : Run mX12_of 30 0 0 [.ref 189, .int (nI m), .int (nI 2)] (SK, M, N) (RQ M N (ofV P n m 2) ((n, k, P, pa), kp, tp, sh)) := by
  refine Run.of (by decide) (Nat.le_of_ble_eq_true rfl) ?_
  have hok : OkP n k P := hA.1.1.1
  have hP : ∀ j, j < 47 → M 190 j = P j := hI.1.1
  have hn6 := hok.1
  have hk6 := hok.2.1
  have hn : M 190 0 = nI n := (hP 0 (by omega)).trans hok.2.2.1
  have hk : M 190 1 = nI k := (hP 1 (by omega)).trans hok.2.2.2.1
  refine g_aload_n (j := 0) (pc' := 1) dX12_of_0 rfl rfl ?_
  refine g_iload_n (j := 1) (pc' := 2) dX12_of_1 rfl rfl ?_
  refine g_callV (my := mX12_isMan) (k := 189) (st := []) (av := [.int (nI m)]) (mcr := 0) (msr := 0) (mc := 0) (ms := 0) (pc' := 5) dX12_of_2 kX12_isMan wX12_84 rfl ⟨rfl, rfl⟩ rfl (Nat.le_of_ble_eq_true rfl) (by decide) (s_isMan1 hn hn6 (hm)) rfl ?_
  rintro _ _ ⟨rfl, rfl⟩
  show Go mX12_of _ _ _ 5 [(0, .ref 189), (1, .int (nI m)), (2, .int (nI 2))] [.int 1] (SK, M, N) _
  refine g_if_ne (tgt := 10) (pc' := 8) dX12_of_5 (by decide) rfl (fun _ => ?_) (fun hc => absurd hc (by decide))
  refine g_iload_n (j := 2) (pc' := 11) dX12_of_10 rfl rfl ?_
  refine g_tblIn (off := 60) (tgt := 71) dX12_of_11 (by decide) (by decide) (by decide) (by decide) ?_
  refine g_aload_n (j := 0) (pc' := 72) dX12_of_71 rfl rfl ?_
  refine g_getR (pc' := 75) dX12_of_72 fX12_7 rfl rfl rfl ?_
  refine g_bipush (v := 16) (pc' := 77) dX12_of_75 (by decide) rfl ?_
  refine g_iload_n (j := 1) (pc' := 78) dX12_of_77 rfl rfl ?_
  refine g_iadd (pc' := 79) dX12_of_78 rfl ?_
  refine g_iald (n := 16 + m) (pc' := 80) dX12_of_79 rfl (nI_addE rfl rfl) (by omega) rfl ?_
  refine g_top (y := P (16 + m)) (hP _ (by omega)) ?_
  exact g_iret dX12_of_80 rfl rfl (RQ.same hI)
set_option maxRecDepth 100000 in
set_option maxHeartbeats 1000000 in
theorem r_of_3 {M : Nat → Nat → Int32} {N : Nat → Nat → Int64} {n k : Nat} {P : Nat → Int32} {pa : List (Nat → Int32)} {kp : Option YS} {tp : List Int32} {sh : Nat → Option (Nat × Nat × (Nat → Int64))} (hA : AOk ((n, k, P, pa), kp, tp, sh)) (hI : RI M N ((n, k, P, pa), kp, tp, sh)) {m : Nat} (hm : m < n) : Run mX12_of 30 0 0 [.ref 189, .int (nI m), .int (nI 3)] (SK, M, N) (RQ M N (ofV P n m 3) ((n, k, P, pa), kp, tp, sh)) := by
  refine Run.of (by decide) (Nat.le_of_ble_eq_true rfl) ?_
  have hok : OkP n k P := hA.1.1.1
  have hP : ∀ j, j < 47 → M 190 j = P j := hI.1.1
  have hn6 := hok.1
  have hk6 := hok.2.1
  have hn : M 190 0 = nI n := (hP 0 (by omega)).trans hok.2.2.1
  have hk : M 190 1 = nI k := (hP 1 (by omega)).trans hok.2.2.2.1
  refine g_aload_n (j := 0) (pc' := 1) dX12_of_0 rfl rfl ?_
  refine g_iload_n (j := 1) (pc' := 2) dX12_of_1 rfl rfl ?_
  refine g_callV (my := mX12_isMan) (k := 189) (st := []) (av := [.int (nI m)]) (mcr := 0) (msr := 0) (mc := 0) (ms := 0) (pc' := 5) dX12_of_2 kX12_isMan wX12_84 rfl ⟨rfl, rfl⟩ rfl (Nat.le_of_ble_eq_true rfl) (by decide) (s_isMan1 hn hn6 (hm)) rfl ?_
  rintro _ _ ⟨rfl, rfl⟩
  show Go mX12_of _ _ _ 5 [(0, .ref 189), (1, .int (nI m)), (2, .int (nI 3))] [.int 1] (SK, M, N) _
  refine g_if_ne (tgt := 10) (pc' := 8) dX12_of_5 (by decide) rfl (fun _ => ?_) (fun hc => absurd hc (by decide))
  refine g_iload_n (j := 2) (pc' := 11) dX12_of_10 rfl rfl ?_
  refine g_tblIn (off := 70) (tgt := 81) dX12_of_11 (by decide) (by decide) (by decide) (by decide) ?_
  refine g_aload_n (j := 0) (pc' := 82) dX12_of_81 rfl rfl ?_
  refine g_getR (pc' := 85) dX12_of_82 fX12_7 rfl rfl rfl ?_
  refine g_bipush (v := 22) (pc' := 87) dX12_of_85 (by decide) rfl ?_
  refine g_iload_n (j := 1) (pc' := 88) dX12_of_87 rfl rfl ?_
  refine g_iadd (pc' := 89) dX12_of_88 rfl ?_
  refine g_iald (n := 22 + m) (pc' := 90) dX12_of_89 rfl (nI_addE rfl rfl) (by omega) rfl ?_
  refine g_top (y := P (22 + m)) (hP _ (by omega)) ?_
  refine g_sipush (v := 10000) (pc' := 93) dX12_of_90 (by decide) rfl ?_
  refine g_iadd (pc' := 94) dX12_of_93 rfl ?_
  exact g_iret dX12_of_94 rfl rfl (RQ.same hI)
set_option maxRecDepth 100000 in
set_option maxHeartbeats 1000000 in
theorem r_of_4 {M : Nat → Nat → Int32} {N : Nat → Nat → Int64} {n k : Nat} {P : Nat → Int32} {pa : List (Nat → Int32)} {kp : Option YS} {tp : List Int32} {sh : Nat → Option (Nat × Nat × (Nat → Int64))} (hA : AOk ((n, k, P, pa), kp, tp, sh)) (hI : RI M N ((n, k, P, pa), kp, tp, sh)) {m : Nat} (hm : m < n) : Run mX12_of 30 0 0 [.ref 189, .int (nI m), .int (nI 4)] (SK, M, N) (RQ M N (ofV P n m 4) ((n, k, P, pa), kp, tp, sh)) := by
  refine Run.of (by decide) (Nat.le_of_ble_eq_true rfl) ?_
  have hok : OkP n k P := hA.1.1.1
  have hP : ∀ j, j < 47 → M 190 j = P j := hI.1.1
  have hn6 := hok.1
  have hk6 := hok.2.1
  have hn : M 190 0 = nI n := (hP 0 (by omega)).trans hok.2.2.1
  have hk : M 190 1 = nI k := (hP 1 (by omega)).trans hok.2.2.2.1
  refine g_aload_n (j := 0) (pc' := 1) dX12_of_0 rfl rfl ?_
  refine g_iload_n (j := 1) (pc' := 2) dX12_of_1 rfl rfl ?_
  refine g_callV (my := mX12_isMan) (k := 189) (st := []) (av := [.int (nI m)]) (mcr := 0) (msr := 0) (mc := 0) (ms := 0) (pc' := 5) dX12_of_2 kX12_isMan wX12_84 rfl ⟨rfl, rfl⟩ rfl (Nat.le_of_ble_eq_true rfl) (by decide) (s_isMan1 hn hn6 (hm)) rfl ?_
  rintro _ _ ⟨rfl, rfl⟩
  show Go mX12_of _ _ _ 5 [(0, .ref 189), (1, .int (nI m)), (2, .int (nI 4))] [.int 1] (SK, M, N) _
  refine g_if_ne (tgt := 10) (pc' := 8) dX12_of_5 (by decide) rfl (fun _ => ?_) (fun hc => absurd hc (by decide))
  refine g_iload_n (j := 2) (pc' := 11) dX12_of_10 rfl rfl ?_
  refine g_tblIn (off := 84) (tgt := 95) dX12_of_11 (by decide) (by decide) (by decide) (by decide) ?_
  refine g_aload_n (j := 0) (pc' := 96) dX12_of_95 rfl rfl ?_
  refine g_getR (pc' := 99) dX12_of_96 fX12_7 rfl rfl rfl ?_
  refine g_bipush (v := 28) (pc' := 101) dX12_of_99 (by decide) rfl ?_
  refine g_iload_n (j := 1) (pc' := 102) dX12_of_101 rfl rfl ?_
  refine g_iadd (pc' := 103) dX12_of_102 rfl ?_
  refine g_iald (n := 28 + m) (pc' := 104) dX12_of_103 rfl (nI_addE rfl rfl) (by omega) rfl ?_
  refine g_top (y := P (28 + m)) (hP _ (by omega)) ?_
  exact g_iret dX12_of_104 rfl rfl (RQ.same hI)
set_option maxRecDepth 100000 in
set_option maxHeartbeats 1000000 in
theorem r_of_5 {M : Nat → Nat → Int32} {N : Nat → Nat → Int64} {n k : Nat} {P : Nat → Int32} {pa : List (Nat → Int32)} {kp : Option YS} {tp : List Int32} {sh : Nat → Option (Nat × Nat × (Nat → Int64))} (hA : AOk ((n, k, P, pa), kp, tp, sh)) (hI : RI M N ((n, k, P, pa), kp, tp, sh)) {m : Nat} (hm : m < n) : Run mX12_of 30 0 0 [.ref 189, .int (nI m), .int (nI 5)] (SK, M, N) (RQ M N (ofV P n m 5) ((n, k, P, pa), kp, tp, sh)) := by
  refine Run.of (by decide) (Nat.le_of_ble_eq_true rfl) ?_
  have hok : OkP n k P := hA.1.1.1
  have hP : ∀ j, j < 47 → M 190 j = P j := hI.1.1
  have hn6 := hok.1
  have hk6 := hok.2.1
  have hn : M 190 0 = nI n := (hP 0 (by omega)).trans hok.2.2.1
  have hk : M 190 1 = nI k := (hP 1 (by omega)).trans hok.2.2.2.1
  refine g_aload_n (j := 0) (pc' := 1) dX12_of_0 rfl rfl ?_
  refine g_iload_n (j := 1) (pc' := 2) dX12_of_1 rfl rfl ?_
  refine g_callV (my := mX12_isMan) (k := 189) (st := []) (av := [.int (nI m)]) (mcr := 0) (msr := 0) (mc := 0) (ms := 0) (pc' := 5) dX12_of_2 kX12_isMan wX12_84 rfl ⟨rfl, rfl⟩ rfl (Nat.le_of_ble_eq_true rfl) (by decide) (s_isMan1 hn hn6 (hm)) rfl ?_
  rintro _ _ ⟨rfl, rfl⟩
  show Go mX12_of _ _ _ 5 [(0, .ref 189), (1, .int (nI m)), (2, .int (nI 5))] [.int 1] (SK, M, N) _
  refine g_if_ne (tgt := 10) (pc' := 8) dX12_of_5 (by decide) rfl (fun _ => ?_) (fun hc => absurd hc (by decide))
  refine g_iload_n (j := 2) (pc' := 11) dX12_of_10 rfl rfl ?_
  refine g_tblIn (off := 94) (tgt := 105) dX12_of_11 (by decide) (by decide) (by decide) (by decide) ?_
  refine g_aload_n (j := 0) (pc' := 106) dX12_of_105 rfl rfl ?_
  refine g_getR (pc' := 109) dX12_of_106 fX12_7 rfl rfl rfl ?_
  refine g_iload_n (j := 1) (pc' := 110) dX12_of_109 rfl rfl ?_
  refine g_aload_n (j := 0) (pc' := 111) dX12_of_110 rfl rfl ?_
  refine g_getR (pc' := 114) dX12_of_111 fX12_7 rfl rfl rfl ?_
  refine g_iconst (v := 2) (pc' := 115) dX12_of_114 (by decide) rfl ?_
  refine g_iald (n := 2) (pc' := 116) dX12_of_115 rfl rfl (by omega) rfl ?_
  refine g_top (y := P 2) (hP 2 (by omega)) ?_
  refine g_callS (my := mX12_offOf) (st := []) (av := [.ref 190, .int (nI m), .int (P 2)]) (mcr := 0) (msr := 0) (mc := 0) (ms := 0) (pc' := 119) dX12_of_116 kX12_offOf wX12_59 rfl (Nat.le_of_ble_eq_true rfl) (by decide) (r_offOf (c := 190) rfl hok hP hm (P 2)) rfl ?_
  rintro _ _ ⟨rfl, rfl⟩
  show Go mX12_of _ _ _ 119 [(0, .ref 189), (1, .int (nI m)), (2, .int (nI 5))] [.int (offP P (P 2) m)] (SK, M, N) _
  exact g_iret dX12_of_119 rfl rfl (RQ.same hI)
set_option maxRecDepth 100000 in
set_option maxHeartbeats 1000000 in
theorem r_named_b1 {M : Nat → Nat → Int32} {N : Nat → Nat → Int64} {n k : Nat} {P : Nat → Int32} {pa : List (Nat → Int32)} {kp : Option YS} {tp : List Int32} {sh : Nat → Option (Nat × Nat × (Nat → Int64))} (hA : AOk ((n, k, P, pa), kp, tp, sh)) (hI : RI M N ((n, k, P, pa), kp, tp, sh)) {v : Int32} (u : Int32) (h1 : ∀ m, m < k → v ≠ nI m) : Run mX12_named 30 0 0 [.ref 189, .int v, .int u] (SK, M, N) (RQ M N (-1) ((n, k, P, pa), kp, tp, sh)) := by
  refine Run.of (by decide) (Nat.le_of_ble_eq_true rfl) ?_
  have hok : OkP n k P := hA.1.1.1
  have hP : ∀ j, j < 47 → M 190 j = P j := hI.1.1
  have hn6 := hok.1
  have hk6 := hok.2.1
  have hn : M 190 0 = nI n := (hP 0 (by omega)).trans hok.2.2.1
  have hk : M 190 1 = nI k := (hP 1 (by omega)).trans hok.2.2.2.1
  refine g_aload_n (j := 0) (pc' := 1) dX12_named_0 rfl rfl ?_
  refine g_iload_n (j := 1) (pc' := 2) dX12_named_1 rfl rfl ?_
  refine g_callV (my := mX12_isName) (k := 189) (st := []) (av := [.int v]) (mcr := 0) (msr := 0) (mc := 0) (ms := 0) (pc' := 5) dX12_named_2 kX12_isName wX12_92 rfl ⟨rfl, rfl⟩ rfl (Nat.le_of_ble_eq_true rfl) (by decide) (s_isName0 hk hk6 (h1)) rfl ?_
  rintro _ _ ⟨rfl, rfl⟩
  show Go mX12_named _ _ _ 5 [(0, .ref 189), (1, .int v), (2, .int u)] [.int 0] (SK, M, N) _
  refine g_if_eq (tgt := 20) (pc' := 8) dX12_named_5 (by decide) rfl (fun _ => ?_) (fun hc => absurd rfl hc)
  refine g_iconst (v := (-1)) (pc' := 21) dX12_named_20 (by decide) rfl ?_
  exact g_iret dX12_named_21 rfl rfl (RQ.same hI)
set_option maxRecDepth 100000 in
set_option maxHeartbeats 1000000 in
theorem r_named_b2 {M : Nat → Nat → Int32} {N : Nat → Nat → Int64} {n k : Nat} {P : Nat → Int32} {pa : List (Nat → Int32)} {kp : Option YS} {tp : List Int32} {sh : Nat → Option (Nat × Nat × (Nat → Int64))} (hA : AOk ((n, k, P, pa), kp, tp, sh)) (hI : RI M N ((n, k, P, pa), kp, tp, sh)) {i : Nat} {u : Int32} (hi : i < k) (h1 : u.toInt < 0 ∨ 2 < u.toInt) : Run mX12_named 30 0 0 [.ref 189, .int (nI i), .int u] (SK, M, N) (RQ M N (-1) ((n, k, P, pa), kp, tp, sh)) := by
  refine Run.of (by decide) (Nat.le_of_ble_eq_true rfl) ?_
  have hok : OkP n k P := hA.1.1.1
  have hP : ∀ j, j < 47 → M 190 j = P j := hI.1.1
  have hn6 := hok.1
  have hk6 := hok.2.1
  have hn : M 190 0 = nI n := (hP 0 (by omega)).trans hok.2.2.1
  have hk : M 190 1 = nI k := (hP 1 (by omega)).trans hok.2.2.2.1
  refine g_aload_n (j := 0) (pc' := 1) dX12_named_0 rfl rfl ?_
  refine g_iload_n (j := 1) (pc' := 2) dX12_named_1 rfl rfl ?_
  refine g_callV (my := mX12_isName) (k := 189) (st := []) (av := [.int (nI i)]) (mcr := 0) (msr := 0) (mc := 0) (ms := 0) (pc' := 5) dX12_named_2 kX12_isName wX12_92 rfl ⟨rfl, rfl⟩ rfl (Nat.le_of_ble_eq_true rfl) (by decide) (s_isName1 hk hk6 (hi)) rfl ?_
  rintro _ _ ⟨rfl, rfl⟩
  show Go mX12_named _ _ _ 5 [(0, .ref 189), (1, .int (nI i)), (2, .int u)] [.int 1] (SK, M, N) _
  refine g_if_eq (tgt := 20) (pc' := 8) dX12_named_5 (by decide) rfl (fun hc => absurd hc (by decide)) (fun _ => ?_)
  refine g_iload_n (j := 2) (pc' := 9) dX12_named_8 rfl rfl ?_
  refine g_i2l (pc' := 10) dX12_named_9 rfl ?_
  refine g_lconst (v := 0) (pc' := 11) dX12_named_10 (by decide) rfl ?_
  refine g_ldc2 (v := 2) (pc' := 14) dX12_named_11 qX12_95 rfl ?_
  refine g_callS (my := mX12_in) (st := []) (av := [.long (Int32.toInt64 u), .long 0, .long 2]) (mcr := 0) (msr := 0) (mc := 0) (ms := 0) (pc' := 17) dX12_named_14 kX12_in wX12_55 rfl (Nat.le_of_ble_eq_true rfl) (by decide) (r_in0 (lo := 0) (hi := 2) (by decide) (by decide) (rngJ h1)) rfl ?_
  rintro _ _ ⟨rfl, rfl⟩
  show Go mX12_named _ _ _ 17 [(0, .ref 189), (1, .int (nI i)), (2, .int u)] [.int 0] (SK, M, N) _
  refine g_if_ne (tgt := 22) (pc' := 20) dX12_named_17 (by decide) rfl (fun hc => absurd rfl hc) (fun _ => ?_)
  refine g_iconst (v := (-1)) (pc' := 21) dX12_named_20 (by decide) rfl ?_
  exact g_iret dX12_named_21 rfl rfl (RQ.same hI)
set_option maxRecDepth 100000 in
set_option maxHeartbeats 1000000 in
theorem r_named_0 {M : Nat → Nat → Int32} {N : Nat → Nat → Int64} {n k : Nat} {P : Nat → Int32} {pa : List (Nat → Int32)} {kp : Option YS} {tp : List Int32} {sh : Nat → Option (Nat × Nat × (Nat → Int64))} (hA : AOk ((n, k, P, pa), kp, tp, sh)) (hI : RI M N ((n, k, P, pa), kp, tp, sh)) {i : Nat} (hi : i < k) : Run mX12_named 30 0 0 [.ref 189, .int (nI i), .int (nI 0)] (SK, M, N) (RQ M N (P (34 + i)) ((n, k, P, pa), kp, tp, sh)) := by
  refine Run.of (by decide) (Nat.le_of_ble_eq_true rfl) ?_
  have hok : OkP n k P := hA.1.1.1
  have hP : ∀ j, j < 47 → M 190 j = P j := hI.1.1
  have hn6 := hok.1
  have hk6 := hok.2.1
  have hn : M 190 0 = nI n := (hP 0 (by omega)).trans hok.2.2.1
  have hk : M 190 1 = nI k := (hP 1 (by omega)).trans hok.2.2.2.1
  refine g_aload_n (j := 0) (pc' := 1) dX12_named_0 rfl rfl ?_
  refine g_iload_n (j := 1) (pc' := 2) dX12_named_1 rfl rfl ?_
  refine g_callV (my := mX12_isName) (k := 189) (st := []) (av := [.int (nI i)]) (mcr := 0) (msr := 0) (mc := 0) (ms := 0) (pc' := 5) dX12_named_2 kX12_isName wX12_92 rfl ⟨rfl, rfl⟩ rfl (Nat.le_of_ble_eq_true rfl) (by decide) (s_isName1 hk hk6 (hi)) rfl ?_
  rintro _ _ ⟨rfl, rfl⟩
  show Go mX12_named _ _ _ 5 [(0, .ref 189), (1, .int (nI i)), (2, .int (nI 0))] [.int 1] (SK, M, N) _
  refine g_if_eq (tgt := 20) (pc' := 8) dX12_named_5 (by decide) rfl (fun hc => absurd hc (by decide)) (fun _ => ?_)
  refine g_iload_n (j := 2) (pc' := 9) dX12_named_8 rfl rfl ?_
  refine g_i2l (pc' := 10) dX12_named_9 rfl ?_
  refine g_lconst (v := 0) (pc' := 11) dX12_named_10 (by decide) rfl ?_
  refine g_ldc2 (v := 2) (pc' := 14) dX12_named_11 qX12_95 rfl ?_
  refine g_callS (my := mX12_in) (st := []) (av := [.long (Int32.toInt64 (nI 0)), .long 0, .long 2]) (mcr := 0) (msr := 0) (mc := 0) (ms := 0) (pc' := 17) dX12_named_14 kX12_in wX12_55 rfl (Nat.le_of_ble_eq_true rfl) (by decide) (r_in1 (lo := 0) (hi := 2) (by decide) (by decide) (by decide)) rfl ?_
  rintro _ _ ⟨rfl, rfl⟩
  show Go mX12_named _ _ _ 17 [(0, .ref 189), (1, .int (nI i)), (2, .int (nI 0))] [.int 1] (SK, M, N) _
  refine g_if_ne (tgt := 22) (pc' := 20) dX12_named_17 (by decide) rfl (fun _ => ?_) (fun hc => absurd hc (by decide))
  refine g_iload_n (j := 2) (pc' := 23) dX12_named_22 rfl rfl ?_
  refine g_if_ne (tgt := 38) (pc' := 26) dX12_named_23 (by decide) rfl (fun hc => (absurd rfl hc)) (fun hc => ?_)
  refine g_aload_n (j := 0) (pc' := 27) dX12_named_26 rfl rfl ?_
  refine g_getR (pc' := 30) dX12_named_27 fX12_7 rfl rfl rfl ?_
  refine g_bipush (v := 34) (pc' := 32) dX12_named_30 (by decide) rfl ?_
  refine g_iload_n (j := 1) (pc' := 33) dX12_named_32 rfl rfl ?_
  refine g_iadd (pc' := 34) dX12_named_33 rfl ?_
  refine g_iald (n := 34 + i) (pc' := 35) dX12_named_34 rfl (nI_addE rfl rfl) (by omega) rfl ?_
  refine g_top (y := P (34 + i)) (hP _ (by omega)) ?_
  refine g_goto (tgt := 60) dX12_named_35 (by decide) ?_
  exact g_iret dX12_named_60 rfl rfl (RQ.same hI)
set_option maxRecDepth 100000 in
set_option maxHeartbeats 1000000 in
theorem r_named_1 {M : Nat → Nat → Int32} {N : Nat → Nat → Int64} {n k : Nat} {P : Nat → Int32} {pa : List (Nat → Int32)} {kp : Option YS} {tp : List Int32} {sh : Nat → Option (Nat × Nat × (Nat → Int64))} (hA : AOk ((n, k, P, pa), kp, tp, sh)) (hI : RI M N ((n, k, P, pa), kp, tp, sh)) {i : Nat} (hi : i < k) : Run mX12_named 30 0 0 [.ref 189, .int (nI i), .int (nI 1)] (SK, M, N) (RQ M N (P (40 + i)) ((n, k, P, pa), kp, tp, sh)) := by
  refine Run.of (by decide) (Nat.le_of_ble_eq_true rfl) ?_
  have hok : OkP n k P := hA.1.1.1
  have hP : ∀ j, j < 47 → M 190 j = P j := hI.1.1
  have hn6 := hok.1
  have hk6 := hok.2.1
  have hn : M 190 0 = nI n := (hP 0 (by omega)).trans hok.2.2.1
  have hk : M 190 1 = nI k := (hP 1 (by omega)).trans hok.2.2.2.1
  refine g_aload_n (j := 0) (pc' := 1) dX12_named_0 rfl rfl ?_
  refine g_iload_n (j := 1) (pc' := 2) dX12_named_1 rfl rfl ?_
  refine g_callV (my := mX12_isName) (k := 189) (st := []) (av := [.int (nI i)]) (mcr := 0) (msr := 0) (mc := 0) (ms := 0) (pc' := 5) dX12_named_2 kX12_isName wX12_92 rfl ⟨rfl, rfl⟩ rfl (Nat.le_of_ble_eq_true rfl) (by decide) (s_isName1 hk hk6 (hi)) rfl ?_
  rintro _ _ ⟨rfl, rfl⟩
  show Go mX12_named _ _ _ 5 [(0, .ref 189), (1, .int (nI i)), (2, .int (nI 1))] [.int 1] (SK, M, N) _
  refine g_if_eq (tgt := 20) (pc' := 8) dX12_named_5 (by decide) rfl (fun hc => absurd hc (by decide)) (fun _ => ?_)
  refine g_iload_n (j := 2) (pc' := 9) dX12_named_8 rfl rfl ?_
  refine g_i2l (pc' := 10) dX12_named_9 rfl ?_
  refine g_lconst (v := 0) (pc' := 11) dX12_named_10 (by decide) rfl ?_
  refine g_ldc2 (v := 2) (pc' := 14) dX12_named_11 qX12_95 rfl ?_
  refine g_callS (my := mX12_in) (st := []) (av := [.long (Int32.toInt64 (nI 1)), .long 0, .long 2]) (mcr := 0) (msr := 0) (mc := 0) (ms := 0) (pc' := 17) dX12_named_14 kX12_in wX12_55 rfl (Nat.le_of_ble_eq_true rfl) (by decide) (r_in1 (lo := 0) (hi := 2) (by decide) (by decide) (by decide)) rfl ?_
  rintro _ _ ⟨rfl, rfl⟩
  show Go mX12_named _ _ _ 17 [(0, .ref 189), (1, .int (nI i)), (2, .int (nI 1))] [.int 1] (SK, M, N) _
  refine g_if_ne (tgt := 22) (pc' := 20) dX12_named_17 (by decide) rfl (fun _ => ?_) (fun hc => absurd hc (by decide))
  refine g_iload_n (j := 2) (pc' := 23) dX12_named_22 rfl rfl ?_
  refine g_if_ne (tgt := 38) (pc' := 26) dX12_named_23 (by decide) rfl (fun hc => ?_) (fun hc => (absurd hc (by decide)))
  refine g_iload_n (j := 2) (pc' := 39) dX12_named_38 rfl rfl ?_
  refine g_iconst (v := 1) (pc' := 40) dX12_named_39 (by decide) rfl ?_
  refine g_icmp_ne (tgt := 55) (pc' := 43) dX12_named_40 (by decide) rfl (fun hc => (absurd rfl hc)) (fun hc => ?_)
  refine g_aload_n (j := 0) (pc' := 44) dX12_named_43 rfl rfl ?_
  refine g_getR (pc' := 47) dX12_named_44 fX12_7 rfl rfl rfl ?_
  refine g_bipush (v := 40) (pc' := 49) dX12_named_47 (by decide) rfl ?_
  refine g_iload_n (j := 1) (pc' := 50) dX12_named_49 rfl rfl ?_
  refine g_iadd (pc' := 51) dX12_named_50 rfl ?_
  refine g_iald (n := 40 + i) (pc' := 52) dX12_named_51 rfl (nI_addE rfl rfl) (by omega) rfl ?_
  refine g_top (y := P (40 + i)) (hP _ (by omega)) ?_
  refine g_goto (tgt := 60) dX12_named_52 (by decide) ?_
  exact g_iret dX12_named_60 rfl rfl (RQ.same hI)
