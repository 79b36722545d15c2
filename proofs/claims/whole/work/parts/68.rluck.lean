theorem optI4_inj {a b : Option Nat} (ha : ∀ i, a = some i → i < 6) (hb : ∀ i, b = some i → i < 6) (h : optI (-4) a = optI (-4) b) : a = b := by
  cases a with
  | none =>
    cases b with
    | none => rfl
    | some j => exact absurd h.symm (nI_ne_m4 (hb j rfl))
  | some i =>
    have h1 := ha i rfl
    cases b with
    | none => exact absurd h (nI_ne_m4 h1)
    | some j => have h2 := hb j rfl; rw [(nI_eq (by omega) (by omega)).mp h]
set_option maxRecDepth 100000 in
set_option maxHeartbeats 1000000 in
theorem r_luck_b1 {M : Nat → Nat → Int32} {N : Nat → Nat → Int64} {n k : Nat} {P : Nat → Int32} {pa : List (Nat → Int32)} {kp : Option YS} {tp : List Int32} {sh : Nat → Option (Nat × Nat × (Nat → Int64))} (hA : AOk ((n, k, P, pa), kp, tp, sh)) (hI : RI M N ((n, k, P, pa), kp, tp, sh)) {v : Int32} (na wh : Int32) (h1 : ∀ m, m < n → v ≠ nI m) : Run mX12_luck 30 0 0 [.ref 189, .int v, .int na, .int wh] (SK, M, N) (RQ M N (-1) ((n, k, P, pa), kp, tp, sh)) := by
  refine Run.of (by decide) (Nat.le_of_ble_eq_true rfl) ?_
  have hok : OkP n k P := hA.1.1.1
  have hP : ∀ j, j < 47 → M 190 j = P j := hI.1.1
  have hn6 := hok.1
  have hk6 := hok.2.1
  have hn : M 190 0 = nI n := (hP 0 (by omega)).trans hok.2.2.1
  have hk : M 190 1 = nI k := (hP 1 (by omega)).trans hok.2.2.2.1
  refine g_aload_n (j := 0) (pc' := 1) dX12_luck_0 rfl rfl ?_
  refine g_iload_n (j := 1) (pc' := 2) dX12_luck_1 rfl rfl ?_
  refine g_callV (my := mX12_isMan) (k := 189) (st := []) (av := [.int v]) (mcr := 0) (msr := 0) (mc := 0) (ms := 0) (pc' := 5) dX12_luck_2 kX12_isMan wX12_84 rfl ⟨rfl, rfl⟩ rfl (Nat.le_of_ble_eq_true rfl) (by decide) (s_isMan0 hn hn6 (h1)) rfl ?_
  rintro _ _ ⟨rfl, rfl⟩
  show Go mX12_luck _ _ _ 5 [(0, .ref 189), (1, .int v), (2, .int na), (3, .int wh)] [.int 0] (SK, M, N) _
  refine g_if_eq (tgt := 29) (pc' := 8) dX12_luck_5 (by decide) rfl (fun _ => ?_) (fun hc => absurd rfl hc)
  refine g_iconst (v := (-1)) (pc' := 30) dX12_luck_29 (by decide) rfl ?_
  exact g_iret dX12_luck_30 rfl rfl (RQ.same hI)
set_option maxRecDepth 100000 in
set_option maxHeartbeats 1000000 in
theorem r_luck_b2 {M : Nat → Nat → Int32} {N : Nat → Nat → Int64} {n k : Nat} {P : Nat → Int32} {pa : List (Nat → Int32)} {kp : Option YS} {tp : List Int32} {sh : Nat → Option (Nat × Nat × (Nat → Int64))} (hA : AOk ((n, k, P, pa), kp, tp, sh)) (hI : RI M N ((n, k, P, pa), kp, tp, sh)) {m : Nat} {na : Int32} (wh : Int32) (hm : m < n) (h0 : na ≠ -4) (h1 : ∀ i, i < k → na ≠ nI i) : Run mX12_luck 30 0 0 [.ref 189, .int (nI m), .int na, .int wh] (SK, M, N) (RQ M N (-1) ((n, k, P, pa), kp, tp, sh)) := by
  refine Run.of (by decide) (Nat.le_of_ble_eq_true rfl) ?_
  have hok : OkP n k P := hA.1.1.1
  have hP : ∀ j, j < 47 → M 190 j = P j := hI.1.1
  have hn6 := hok.1
  have hk6 := hok.2.1
  have hn : M 190 0 = nI n := (hP 0 (by omega)).trans hok.2.2.1
  have hk : M 190 1 = nI k := (hP 1 (by omega)).trans hok.2.2.2.1
  refine g_aload_n (j := 0) (pc' := 1) dX12_luck_0 rfl rfl ?_
  refine g_iload_n (j := 1) (pc' := 2) dX12_luck_1 rfl rfl ?_
  refine g_callV (my := mX12_isMan) (k := 189) (st := []) (av := [.int (nI m)]) (mcr := 0) (msr := 0) (mc := 0) (ms := 0) (pc' := 5) dX12_luck_2 kX12_isMan wX12_84 rfl ⟨rfl, rfl⟩ rfl (Nat.le_of_ble_eq_true rfl) (by decide) (s_isMan1 hn hn6 (hm)) rfl ?_
  rintro _ _ ⟨rfl, rfl⟩
  show Go mX12_luck _ _ _ 5 [(0, .ref 189), (1, .int (nI m)), (2, .int na), (3, .int wh)] [.int 1] (SK, M, N) _
  refine g_if_eq (tgt := 29) (pc' := 8) dX12_luck_5 (by decide) rfl (fun hc => absurd hc (by decide)) (fun _ => ?_)
  refine g_iload_n (j := 2) (pc' := 9) dX12_luck_8 rfl rfl ?_
  refine g_bipush (v := (-4)) (pc' := 11) dX12_luck_9 (by decide) rfl ?_
  refine g_icmp_eq (tgt := 22) (pc' := 14) dX12_luck_11 (by decide) rfl (fun hc => (absurd hc h0)) (fun hc => ?_)
  refine g_aload_n (j := 0) (pc' := 15) dX12_luck_14 rfl rfl ?_
  refine g_iload_n (j := 2) (pc' := 16) dX12_luck_15 rfl rfl ?_
  refine g_callV (my := mX12_isName) (k := 189) (st := []) (av := [.int na]) (mcr := 0) (msr := 0) (mc := 0) (ms := 0) (pc' := 19) dX12_luck_16 kX12_isName wX12_92 rfl ⟨rfl, rfl⟩ rfl (Nat.le_of_ble_eq_true rfl) (by decide) (s_isName0 hk hk6 (h1)) rfl ?_
  rintro _ _ ⟨rfl, rfl⟩
  show Go mX12_luck _ _ _ 19 [(0, .ref 189), (1, .int (nI m)), (2, .int na), (3, .int wh)] [.int 0] (SK, M, N) _
  refine g_if_eq (tgt := 29) (pc' := 22) dX12_luck_19 (by decide) rfl (fun _ => ?_) (fun hc => absurd rfl hc)
  refine g_iconst (v := (-1)) (pc' := 30) dX12_luck_29 (by decide) rfl ?_
  exact g_iret dX12_luck_30 rfl rfl (RQ.same hI)
set_option maxRecDepth 100000 in
set_option maxHeartbeats 1000000 in
theorem r_luck_b3 {M : Nat → Nat → Int32} {N : Nat → Nat → Int64} {n k : Nat} {P : Nat → Int32} {pa : List (Nat → Int32)} {kp : Option YS} {tp : List Int32} {sh : Nat → Option (Nat × Nat × (Nat → Int64))} (hA : AOk ((n, k, P, pa), kp, tp, sh)) (hI : RI M N ((n, k, P, pa), kp, tp, sh)) {m : Nat} {wh : Int32} (hm : m < n) (h2 : wh < 0 ∨ 1 < wh) : Run mX12_luck 30 0 0 [.ref 189, .int (nI m), .int (-4), .int wh] (SK, M, N) (RQ M N (-1) ((n, k, P, pa), kp, tp, sh)) := by
  refine Run.of (by decide) (Nat.le_of_ble_eq_true rfl) ?_
  have hok : OkP n k P := hA.1.1.1
  have hP : ∀ j, j < 47 → M 190 j = P j := hI.1.1
  have hn6 := hok.1
  have hk6 := hok.2.1
  have hn : M 190 0 = nI n := (hP 0 (by omega)).trans hok.2.2.1
  have hk : M 190 1 = nI k := (hP 1 (by omega)).trans hok.2.2.2.1
  refine g_aload_n (j := 0) (pc' := 1) dX12_luck_0 rfl rfl ?_
  refine g_iload_n (j := 1) (pc' := 2) dX12_luck_1 rfl rfl ?_
  refine g_callV (my := mX12_isMan) (k := 189) (st := []) (av := [.int (nI m)]) (mcr := 0) (msr := 0) (mc := 0) (ms := 0) (pc' := 5) dX12_luck_2 kX12_isMan wX12_84 rfl ⟨rfl, rfl⟩ rfl (Nat.le_of_ble_eq_true rfl) (by decide) (s_isMan1 hn hn6 (hm)) rfl ?_
  rintro _ _ ⟨rfl, rfl⟩
  show Go mX12_luck _ _ _ 5 [(0, .ref 189), (1, .int (nI m)), (2, .int (-4)), (3, .int wh)] [.int 1] (SK, M, N) _
  refine g_if_eq (tgt := 29) (pc' := 8) dX12_luck_5 (by decide) rfl (fun hc => absurd hc (by decide)) (fun _ => ?_)
  refine g_iload_n (j := 2) (pc' := 9) dX12_luck_8 rfl rfl ?_
  refine g_bipush (v := (-4)) (pc' := 11) dX12_luck_9 (by decide) rfl ?_
  refine g_icmp_eq (tgt := 22) (pc' := 14) dX12_luck_11 (by decide) rfl (fun hc => ?_) (fun hc => (absurd rfl hc))
  refine g_iload_n (j := 3) (pc' := 23) dX12_luck_22 rfl rfl ?_
  refine g_callS (my := mX12_isTwo) (st := []) (av := [.int wh]) (mcr := 0) (msr := 0) (mc := 0) (ms := 0) (pc' := 26) dX12_luck_23 kX12_isTwo wX12_190 rfl (Nat.le_of_ble_eq_true rfl) (by decide) (s_isTwo0 (h2)) rfl ?_
  rintro _ _ ⟨rfl, rfl⟩
  show Go mX12_luck _ _ _ 26 [(0, .ref 189), (1, .int (nI m)), (2, .int (-4)), (3, .int wh)] [.int 0] (SK, M, N) _
  refine g_if_ne (tgt := 31) (pc' := 29) dX12_luck_26 (by decide) rfl (fun hc => absurd rfl hc) (fun _ => ?_)
  refine g_iconst (v := (-1)) (pc' := 30) dX12_luck_29 (by decide) rfl ?_
  exact g_iret dX12_luck_30 rfl rfl (RQ.same hI)
set_option maxRecDepth 100000 in
set_option maxHeartbeats 1000000 in
theorem r_luck_b4 {M : Nat → Nat → Int32} {N : Nat → Nat → Int64} {n k : Nat} {P : Nat → Int32} {pa : List (Nat → Int32)} {kp : Option YS} {tp : List Int32} {sh : Nat → Option (Nat × Nat × (Nat → Int64))} (hA : AOk ((n, k, P, pa), kp, tp, sh)) (hI : RI M N ((n, k, P, pa), kp, tp, sh)) {m i : Nat} {wh : Int32} (hm : m < n) (hi : i < k) (h2 : wh < 0 ∨ 1 < wh) : Run mX12_luck 30 0 0 [.ref 189, .int (nI m), .int (nI i), .int wh] (SK, M, N) (RQ M N (-1) ((n, k, P, pa), kp, tp, sh)) := by
  refine Run.of (by decide) (Nat.le_of_ble_eq_true rfl) ?_
  have hok : OkP n k P := hA.1.1.1
  have hP : ∀ j, j < 47 → M 190 j = P j := hI.1.1
  have hn6 := hok.1
  have hk6 := hok.2.1
  have hn : M 190 0 = nI n := (hP 0 (by omega)).trans hok.2.2.1
  have hk : M 190 1 = nI k := (hP 1 (by omega)).trans hok.2.2.2.1
  refine g_aload_n (j := 0) (pc' := 1) dX12_luck_0 rfl rfl ?_
  refine g_iload_n (j := 1) (pc' := 2) dX12_luck_1 rfl rfl ?_
  refine g_callV (my := mX12_isMan) (k := 189) (st := []) (av := [.int (nI m)]) (mcr := 0) (msr := 0) (mc := 0) (ms := 0) (pc' := 5) dX12_luck_2 kX12_isMan wX12_84 rfl ⟨rfl, rfl⟩ rfl (Nat.le_of_ble_eq_true rfl) (by decide) (s_isMan1 hn hn6 (hm)) rfl ?_
  rintro _ _ ⟨rfl, rfl⟩
  show Go mX12_luck _ _ _ 5 [(0, .ref 189), (1, .int (nI m)), (2, .int (nI i)), (3, .int wh)] [.int 1] (SK, M, N) _
  refine g_if_eq (tgt := 29) (pc' := 8) dX12_luck_5 (by decide) rfl (fun hc => absurd hc (by decide)) (fun _ => ?_)
  refine g_iload_n (j := 2) (pc' := 9) dX12_luck_8 rfl rfl ?_
  refine g_bipush (v := (-4)) (pc' := 11) dX12_luck_9 (by decide) rfl ?_
  refine g_icmp_eq (tgt := 22) (pc' := 14) dX12_luck_11 (by decide) rfl (fun hc => (absurd hc (nI_ne_m4 (by omega)))) (fun hc => ?_)
  refine g_aload_n (j := 0) (pc' := 15) dX12_luck_14 rfl rfl ?_
  refine g_iload_n (j := 2) (pc' := 16) dX12_luck_15 rfl rfl ?_
  refine g_callV (my := mX12_isName) (k := 189) (st := []) (av := [.int (nI i)]) (mcr := 0) (msr := 0) (mc := 0) (ms := 0) (pc' := 19) dX12_luck_16 kX12_isName wX12_92 rfl ⟨rfl, rfl⟩ rfl (Nat.le_of_ble_eq_true rfl) (by decide) (s_isName1 hk hk6 (hi)) rfl ?_
  rintro _ _ ⟨rfl, rfl⟩
  show Go mX12_luck _ _ _ 19 [(0, .ref 189), (1, .int (nI m)), (2, .int (nI i)), (3, .int wh)] [.int 1] (SK, M, N) _
  refine g_if_eq (tgt := 29) (pc' := 22) dX12_luck_19 (by decide) rfl (fun hc => absurd hc (by decide)) (fun _ => ?_)
  refine g_iload_n (j := 3) (pc' := 23) dX12_luck_22 rfl rfl ?_
  refine g_callS (my := mX12_isTwo) (st := []) (av := [.int wh]) (mcr := 0) (msr := 0) (mc := 0) (ms := 0) (pc' := 26) dX12_luck_23 kX12_isTwo wX12_190 rfl (Nat.le_of_ble_eq_true rfl) (by decide) (s_isTwo0 (h2)) rfl ?_
  rintro _ _ ⟨rfl, rfl⟩
  show Go mX12_luck _ _ _ 26 [(0, .ref 189), (1, .int (nI m)), (2, .int (nI i)), (3, .int wh)] [.int 0] (SK, M, N) _
  refine g_if_ne (tgt := 31) (pc' := 29) dX12_luck_26 (by decide) rfl (fun hc => absurd rfl hc) (fun _ => ?_)
  refine g_iconst (v := (-1)) (pc' := 30) dX12_luck_29 (by decide) rfl ?_
  exact g_iret dX12_luck_30 rfl rfl (RQ.same hI)
set_option maxRecDepth 100000 in
set_option maxHeartbeats 1000000 in
theorem r_luck_n {M : Nat → Nat → Int32} {N : Nat → Nat → Int64} {n k : Nat} {P : Nat → Int32} {pa : List (Nat → Int32)} {kp : Option YS} {tp : List Int32} {sh : Nat → Option (Nat × Nat × (Nat → Int64))} (hA : AOk ((n, k, P, pa), kp, tp, sh)) (hI : RI M N ((n, k, P, pa), kp, tp, sh)) {m s : Nat} {wh : Int32} (hm : m < n) (h2 : ¬ (wh < 0 ∨ 1 < wh)) (hs2 : P 2 = nI s) (hs : s ≤ 20) : Run mX12_luck 30 0 0 [.ref 189, .int (nI m), .int (-4), .int wh] (SK, M, N) (RQ M N (if wh = 0 then nI (rdc n (wF P k m none (evL (offN P (nI s)) n 38) 0 0) (3 ^ n)).1 else nI (rdc n (wF P k m none (evL (offN P (nI s)) n 38) 0 0) (3 ^ n)).2) ((n, k, P, pa), kp, tp, sh)) := by
  refine Run.of (by decide) (Nat.le_of_ble_eq_true rfl) ?_
  have hok : OkP n k P := hA.1.1.1
  have hP : ∀ j, j < 47 → M 190 j = P j := hI.1.1
  have hn6 := hok.1
  have hk6 := hok.2.1
  have hn : M 190 0 = nI n := (hP 0 (by omega)).trans hok.2.2.1
  have hk : M 190 1 = nI k := (hP 1 (by omega)).trans hok.2.2.2.1
  have hnm : ∀ j, (none : Option Nat) = some j → j < k := fun j h => by cases h
  have h729 : 3 ^ n ≤ 729 := Nat.pow_le_pow_right (n := 3) (by omega) hn6
  have h3p : 0 < 3 ^ n := Nat.pow_pos (by omega)
  have hof : ∀ q, q < n → offP P (P 2) q = nI (offN P (nI s) q) := fun q hq => by rw [hs2]; exact offN_eq hok hq hs
  have hob : ∀ q, offN P (nI s) q ≤ 35 := fun q => offN_le q
  rw [luck_sum (o := offN P (nI s)) hk6 hm hnm hob]
  generalize offN P (nI s) = o at hof hob ⊢
  generalize hf : (fun c => if (chG P k (lineA (fun m => nI (o m + c / 3 ^ m % 3)) n) n).2 m = none then 1 else 0) = f
  have hfc : ∀ c, f c = if (chG P k (lineA (fun m => nI (o m + c / 3 ^ m % 3)) n) n).2 m = none then 1 else 0 := fun c => by rw [← hf]
  have hf1 : ∀ c, f c ≤ 1 := fun c => by rw [hfc]; split <;> omega
  refine g_aload_n (j := 0) (pc' := 1) dX12_luck_0 rfl rfl ?_
  refine g_iload_n (j := 1) (pc' := 2) dX12_luck_1 rfl rfl ?_
  refine g_callV (my := mX12_isMan) (k := 189) (st := []) (av := [.int (nI m)]) (mcr := 0) (msr := 0) (mc := 0) (ms := 0) (pc' := 5) dX12_luck_2 kX12_isMan wX12_84 rfl ⟨rfl, rfl⟩ rfl (Nat.le_of_ble_eq_true rfl) (by decide) (s_isMan1 hn hn6 (hm)) rfl ?_
  rintro _ _ ⟨rfl, rfl⟩
  show Go mX12_luck _ _ _ 5 [(0, .ref 189), (1, .int (nI m)), (2, .int (-4)), (3, .int wh)] [.int 1] (SK, M, N) _
  refine g_if_eq (tgt := 29) (pc' := 8) dX12_luck_5 (by decide) rfl (fun hc => absurd hc (by decide)) (fun _ => ?_)
  refine g_iload_n (j := 2) (pc' := 9) dX12_luck_8 rfl rfl ?_
  refine g_bipush (v := (-4)) (pc' := 11) dX12_luck_9 (by decide) rfl ?_
  refine g_icmp_eq (tgt := 22) (pc' := 14) dX12_luck_11 (by decide) rfl (fun hc => ?_) (fun hc => (absurd rfl hc))
  refine g_iload_n (j := 3) (pc' := 23) dX12_luck_22 rfl rfl ?_
  refine g_callS (my := mX12_isTwo) (st := []) (av := [.int wh]) (mcr := 0) (msr := 0) (mc := 0) (ms := 0) (pc' := 26) dX12_luck_23 kX12_isTwo wX12_190 rfl (Nat.le_of_ble_eq_true rfl) (by decide) (s_isTwo1 (h2)) rfl ?_
  rintro _ _ ⟨rfl, rfl⟩
  show Go mX12_luck _ _ _ 26 [(0, .ref 189), (1, .int (nI m)), (2, .int (-4)), (3, .int wh)] [.int 1] (SK, M, N) _
  refine g_if_ne (tgt := 31) (pc' := 29) dX12_luck_26 (by decide) rfl (fun _ => ?_) (fun hc => absurd hc (by decide))
  refine g_iconst (v := 1) (pc' := 32) dX12_luck_31 (by decide) rfl ?_
  refine g_istore (L' := [(0, .ref 189), (1, .int (nI m)), (2, .int (-4)), (3, .int wh), (4, .int 1)]) (pc' := 34) dX12_luck_32 (by decide) rfl rfl ?_
  refine g_iconst (v := 0) (pc' := 35) dX12_luck_34 (by decide) rfl ?_
  refine g_istore (L' := [(0, .ref 189), (1, .int (nI m)), (2, .int (-4)), (3, .int wh), (4, .int 1), (5, .int 0)]) (pc' := 37) dX12_luck_35 (by decide) rfl rfl ?_
  have eucl : ∀ (b u v : Nat) (M1 : Nat → Nat → Int32), v ≤ b → u < 1000 → v < 1000 → Nat.gcd u v = Nat.gcd (sumN f (3 ^ n)) (3 ^ n) → (∀ a, ¬ tmpR a → M1 a = M a) → Go mX12_luck 30 0 0 175 [(0, .ref 189), (1, .int (nI m)), (2, .int (-4)), (3, .int wh), (4, .int (nI (3 ^ n))), (5, .int (nI (sumN f (3 ^ n)))), (6, .int (nI u)), (7, .int (nI v))] [] (SK, M1, N) (RQ M N (if wh = 0 then nI (rdc n (sumN f (3 ^ n)) (3 ^ n)).1 else nI (rdc n (sumN f (3 ^ n)) (3 ^ n)).2) ((n, k, P, pa), kp, tp, sh)) := by
    intro b
    induction b with
    | zero =>
      intro u v M1 hv hu1 hv1 hg hf2
      obtain rfl : v = 0 := by omega
      refine g_iload (j := 7) (pc' := 177) dX12_luck_175 rfl rfl ?_
      refine g_if_eq (tgt := 198) (pc' := 180) dX12_luck_177 (by decide) rfl (fun hc => ?_) (fun hc => (absurd rfl hc))
      have hsl := sumN_le hf1 (3 ^ n)
      rw [Nat.gcd_zero_right] at hg
      have hgp : 0 < Nat.gcd (sumN f (3 ^ n)) (3 ^ n) := Nat.gcd_pos_of_pos_right _ h3p
      have hgl : Nat.gcd (sumN f (3 ^ n)) (3 ^ n) ≤ 3 ^ n := Nat.gcd_le_right _ h3p
      rw [← hg] at hgp hgl
      rw [rdc_gcd, ← hg]
      refine g_less (L' := [(0, .ref 189), (1, .int (nI m)), (2, .int (-4)), (3, .int wh), (4, .int (nI (3 ^ n))), (5, .int (nI (sumN f (3 ^ n)))), (6, .int (nI u))]) [0, 1, 2, 3, 4, 5, 6] rfl ?_
      refine g_iload_n (j := 3) (pc' := 199) dX12_luck_198 rfl rfl ?_
      refine g_if_ne (tgt := 210) (pc' := 202) dX12_luck_199 (by decide) rfl (fun hc5 => ?_) (fun hc5 => ?_)
      · rw [if_neg hc5]
        refine g_iload (j := 4) (pc' := 212) dX12_luck_210 rfl rfl ?_
        refine g_iload (j := 6) (pc' := 214) dX12_luck_212 rfl rfl ?_
        refine g_idiv (pc' := 215) dX12_luck_214 (nI_ne0 (by omega) (by omega)) rfl ?_
        refine g_top (y := nI (3 ^ n / u)) (pk_div (by omega) (by omega) (by omega)) ?_
        exact g_iret dX12_luck_215 rfl rfl (RQ.tmp hI hf2)
      · rw [if_pos hc5]
        refine g_iload (j := 5) (pc' := 204) dX12_luck_202 rfl rfl ?_
        refine g_iload (j := 6) (pc' := 206) dX12_luck_204 rfl rfl ?_
        refine g_idiv (pc' := 207) dX12_luck_206 (nI_ne0 (by omega) (by omega)) rfl ?_
        refine g_goto (tgt := 215) dX12_luck_207 (by decide) ?_
        refine g_top (y := nI (sumN f (3 ^ n) / u)) (pk_div (by omega) (by omega) (by omega)) ?_
        exact g_iret dX12_luck_215 rfl rfl (RQ.tmp hI hf2)
    | succ b ih =>
      intro u v M1 hv hu1 hv1 hg hf2
      by_cases hv0 : v = 0
      · subst hv0
        refine g_iload (j := 7) (pc' := 177) dX12_luck_175 rfl rfl ?_
        refine g_if_eq (tgt := 198) (pc' := 180) dX12_luck_177 (by decide) rfl (fun hc => ?_) (fun hc => (absurd rfl hc))
        have hsl := sumN_le hf1 (3 ^ n)
        rw [Nat.gcd_zero_right] at hg
        have hgp : 0 < Nat.gcd (sumN f (3 ^ n)) (3 ^ n) := Nat.gcd_pos_of_pos_right _ h3p
        have hgl : Nat.gcd (sumN f (3 ^ n)) (3 ^ n) ≤ 3 ^ n := Nat.gcd_le_right _ h3p
        rw [← hg] at hgp hgl
        rw [rdc_gcd, ← hg]
        refine g_less (L' := [(0, .ref 189), (1, .int (nI m)), (2, .int (-4)), (3, .int wh), (4, .int (nI (3 ^ n))), (5, .int (nI (sumN f (3 ^ n)))), (6, .int (nI u))]) [0, 1, 2, 3, 4, 5, 6] rfl ?_
        refine g_iload_n (j := 3) (pc' := 199) dX12_luck_198 rfl rfl ?_
        refine g_if_ne (tgt := 210) (pc' := 202) dX12_luck_199 (by decide) rfl (fun hc5 => ?_) (fun hc5 => ?_)
        · rw [if_neg hc5]
          refine g_iload (j := 4) (pc' := 212) dX12_luck_210 rfl rfl ?_
          refine g_iload (j := 6) (pc' := 214) dX12_luck_212 rfl rfl ?_
          refine g_idiv (pc' := 215) dX12_luck_214 (nI_ne0 (by omega) (by omega)) rfl ?_
          refine g_top (y := nI (3 ^ n / u)) (pk_div (by omega) (by omega) (by omega)) ?_
          exact g_iret dX12_luck_215 rfl rfl (RQ.tmp hI hf2)
        · rw [if_pos hc5]
          refine g_iload (j := 5) (pc' := 204) dX12_luck_202 rfl rfl ?_
          refine g_iload (j := 6) (pc' := 206) dX12_luck_204 rfl rfl ?_
          refine g_idiv (pc' := 207) dX12_luck_206 (nI_ne0 (by omega) (by omega)) rfl ?_
          refine g_goto (tgt := 215) dX12_luck_207 (by decide) ?_
          refine g_top (y := nI (sumN f (3 ^ n) / u)) (pk_div (by omega) (by omega) (by omega)) ?_
          exact g_iret dX12_luck_215 rfl rfl (RQ.tmp hI hf2)
      · refine g_iload (j := 7) (pc' := 177) dX12_luck_175 rfl rfl ?_
        refine g_if_eq (tgt := 198) (pc' := 180) dX12_luck_177 (by decide) rfl (fun hc => (absurd hc (nI_ne0 (by omega) (by omega)))) (fun hc => ?_)
        refine g_iload (j := 6) (pc' := 182) dX12_luck_180 rfl rfl ?_
        refine g_iload (j := 7) (pc' := 184) dX12_luck_182 rfl rfl ?_
        refine g_irem (pc' := 185) dX12_luck_184 (nI_ne0 (by omega) (by omega)) rfl ?_
        refine g_top (y := nI (u % v)) (pk_rem (by omega) (by omega) (by omega)) ?_
        have hlt : u % v < v := Nat.mod_lt _ (by omega)
        refine g_istore (L' := [(0, .ref 189), (1, .int (nI m)), (2, .int (-4)), (3, .int wh), (4, .int (nI (3 ^ n))), (5, .int (nI (sumN f (3 ^ n)))), (6, .int (nI u)), (7, .int (nI v)), (8, .int (nI (u % v)))]) (pc' := 187) dX12_luck_185 (by decide) rfl rfl ?_
        refine g_iload (j := 7) (pc' := 189) dX12_luck_187 rfl rfl ?_
        refine g_istore (L' := [(0, .ref 189), (1, .int (nI m)), (2, .int (-4)), (3, .int wh), (4, .int (nI (3 ^ n))), (5, .int (nI (sumN f (3 ^ n)))), (6, .int (nI v)), (7, .int (nI v)), (8, .int (nI (u % v)))]) (pc' := 191) dX12_luck_189 (by decide) rfl rfl ?_
        refine g_iload (j := 8) (pc' := 193) dX12_luck_191 rfl rfl ?_
        refine g_istore (L' := [(0, .ref 189), (1, .int (nI m)), (2, .int (-4)), (3, .int wh), (4, .int (nI (3 ^ n))), (5, .int (nI (sumN f (3 ^ n)))), (6, .int (nI v)), (7, .int (nI (u % v))), (8, .int (nI (u % v)))]) (pc' := 195) dX12_luck_193 (by decide) rfl rfl ?_
        refine g_less (L' := [(0, .ref 189), (1, .int (nI m)), (2, .int (-4)), (3, .int wh), (4, .int (nI (3 ^ n))), (5, .int (nI (sumN f (3 ^ n)))), (6, .int (nI v)), (7, .int (nI (u % v)))]) [0, 1, 2, 3, 4, 5, 6, 7] rfl ?_
        refine g_goto (tgt := 175) dX12_luck_195 (by decide) ?_
        exact ih v (u % v) M1 (by omega) (by omega) (by omega) (by rw [← hg, Nat.gcd_comm u v, Nat.gcd_rec v u, Nat.gcd_comm]) hf2
  have codes : ∀ (u c : Nat) (M1 : Nat → Nat → Int32), c + u = 3 ^ n → (∀ a, ¬ tmpR a → M1 a = M a) → Go mX12_luck 30 0 0 66 [(0, .ref 189), (1, .int (nI m)), (2, .int (-4)), (3, .int wh), (4, .int (nI (3 ^ n))), (5, .int (nI (sumN f c))), (6, .int (nI c))] [] (SK, M1, N) (RQ M N (if wh = 0 then nI (rdc n (sumN f (3 ^ n)) (3 ^ n)).1 else nI (rdc n (sumN f (3 ^ n)) (3 ^ n)).2) ((n, k, P, pa), kp, tp, sh)) := by
    intro u
    induction u with
    | zero =>
      intro c M1 hcu hf2
      have hsl := sumN_le hf1 c
      refine g_iload (j := 6) (pc' := 68) dX12_luck_66 rfl rfl ?_
      refine g_iload (j := 4) (pc' := 70) dX12_luck_68 rfl rfl ?_
      refine g_icmp_ge (tgt := 167) (pc' := 73) dX12_luck_70 (by decide) rfl (fun hc => ?_) (fun hc => (absurd (nI_le (a := 3 ^ n) (b := c) (by omega) (by omega)) hc))
      obtain rfl : c = 3 ^ n := by omega
      refine g_iload (j := 5) (pc' := 169) dX12_luck_167 rfl rfl ?_
      refine g_istore (L' := [(0, .ref 189), (1, .int (nI m)), (2, .int (-4)), (3, .int wh), (4, .int (nI (3 ^ n))), (5, .int (nI (sumN f (3 ^ n)))), (6, .int (nI (sumN f (3 ^ n))))]) (pc' := 171) dX12_luck_169 (by decide) rfl rfl ?_
      refine g_iload (j := 4) (pc' := 173) dX12_luck_171 rfl rfl ?_
      refine g_istore (L' := [(0, .ref 189), (1, .int (nI m)), (2, .int (-4)), (3, .int wh), (4, .int (nI (3 ^ n))), (5, .int (nI (sumN f (3 ^ n)))), (6, .int (nI (sumN f (3 ^ n)))), (7, .int (nI (3 ^ n)))]) (pc' := 175) dX12_luck_173 (by decide) rfl rfl ?_
      exact eucl (3 ^ n) (sumN f (3 ^ n)) (3 ^ n) M1 (Nat.le_refl _) (by omega) (by omega) rfl hf2
    | succ u ih =>
      intro c M1 hcu hf2
      have hsl := sumN_le hf1 c
      refine g_iload (j := 6) (pc' := 68) dX12_luck_66 rfl rfl ?_
      refine g_iload (j := 4) (pc' := 70) dX12_luck_68 rfl rfl ?_
      refine g_icmp_ge (tgt := 167) (pc' := 73) dX12_luck_70 (by decide) rfl (fun hc => (absurd hc (nI_ge (a := c) (b := 3 ^ n) (by omega) (by omega)))) (fun hc => ?_)
      have hP1 : ∀ j, j < 47 → M1 190 j = P j := fun j hj => by rw [hf2 190 (by unfold tmpR; omega)]; exact hP j hj
      refine g_aload_n (j := 0) (pc' := 74) dX12_luck_73 rfl rfl ?_
      refine g_aload_n (j := 0) (pc' := 75) dX12_luck_74 rfl rfl ?_
      refine g_getR (pc' := 78) dX12_luck_75 fX12_7 rfl rfl rfl ?_
      refine g_aload_n (j := 0) (pc' := 79) dX12_luck_78 rfl rfl ?_
      refine g_getR (pc' := 82) dX12_luck_79 fX12_7 rfl rfl rfl ?_
      refine g_iconst (v := 2) (pc' := 83) dX12_luck_82 (by decide) rfl ?_
      refine g_iald (n := 2) (pc' := 84) dX12_luck_83 rfl rfl (by omega) rfl ?_
      refine g_top (y := P 2) (hP1 2 (by omega)) ?_
      refine g_callV (my := mX12_layOff) (k := 189) (st := []) (av := [.ref 190, .int (P 2)]) (mcr := 0) (msr := 0) (mc := 0) (ms := 0) (pc' := 87) dX12_luck_84 kX12_layOff wX12_70 rfl ⟨rfl, rfl⟩ rfl (Nat.le_of_ble_eq_true rfl) (by decide) (r_layOff (c := 190) rfl (by omega) hok hP1 (P 2)) rfl ?_
      rintro _ _ ⟨M2, rfl, rfl, ho2, hfo⟩
      show Go mX12_luck _ _ _ 87 [(0, .ref 189), (1, .int (nI m)), (2, .int (-4)), (3, .int wh), (4, .int (nI (3 ^ n))), (5, .int (nI (sumN f c))), (6, .int (nI c))] [] (SK, M2, N) _
      refine g_iload (j := 6) (pc' := 89) dX12_luck_87 rfl rfl ?_
      refine g_istore (L' := [(0, .ref 189), (1, .int (nI m)), (2, .int (-4)), (3, .int wh), (4, .int (nI (3 ^ n))), (5, .int (nI (sumN f c))), (6, .int (nI c)), (7, .int (nI c))]) (pc' := 91) dX12_luck_89 (by decide) rfl rfl ?_
      refine g_iconst (v := 0) (pc' := 92) dX12_luck_91 (by decide) rfl ?_
      refine g_istore (L' := [(0, .ref 189), (1, .int (nI m)), (2, .int (-4)), (3, .int wh), (4, .int (nI (3 ^ n))), (5, .int (nI (sumN f c))), (6, .int (nI c)), (7, .int (nI c)), (8, .int 0)]) (pc' := 94) dX12_luck_92 (by decide) rfl rfl ?_
      have hf3 : ∀ a, ¬ tmpR a → M2 a = M a := fun a ta => by rw [hfo a (by unfold tmpR at ta; omega)]; exact hf2 a ta
      have inner : ∀ (u2 j : Nat) (M3 : Nat → Nat → Int32), j + u2 = n → (∀ q, q < n → M3 198 q = if q < j then nI (o q + c / 3 ^ q % 3) else nI (o q)) → (∀ a, ¬ tmpR a → M3 a = M a) → Go mX12_luck 30 0 0 94 [(0, .ref 189), (1, .int (nI m)), (2, .int (-4)), (3, .int wh), (4, .int (nI (3 ^ n))), (5, .int (nI (sumN f c))), (6, .int (nI c)), (7, .int (nI (c / 3 ^ j))), (8, .int (nI j))] [] (SK, M3, N) (RQ M N (if wh = 0 then nI (rdc n (sumN f (3 ^ n)) (3 ^ n)).1 else nI (rdc n (sumN f (3 ^ n)) (3 ^ n)).2) ((n, k, P, pa), kp, tp, sh)) := by
        intro u2
        induction u2 with
        | zero =>
          intro j M3 hj h3 hf4
          have hP3 : ∀ j, j < 47 → M3 190 j = P j := fun j hj => by rw [hf4 190 (by unfold tmpR; omega)]; exact hP j hj
          have hcj : c / 3 ^ j < 1000 := Nat.lt_of_le_of_lt (Nat.div_le_self _ _) (by omega)
          refine g_iload (j := 8) (pc' := 96) dX12_luck_94 rfl rfl ?_
          refine g_aload_n (j := 0) (pc' := 97) dX12_luck_96 rfl rfl ?_
          refine g_getR (pc' := 100) dX12_luck_97 fX12_7 rfl rfl rfl ?_
          refine g_iconst (v := 0) (pc' := 101) dX12_luck_100 (by decide) rfl ?_
          refine g_iald (n := 0) (pc' := 102) dX12_luck_101 rfl rfl (by omega) rfl ?_
          refine g_top (y := nI n) ((hP3 0 (by omega)).trans hok.2.2.1) ?_
          refine g_icmp_ge (tgt := 131) (pc' := 105) dX12_luck_102 (by decide) rfl (fun hc => ?_) (fun hc => (absurd (nI_le (a := n) (b := j) (by omega) (by omega)) hc))
          refine g_less (L' := [(0, .ref 189), (1, .int (nI m)), (2, .int (-4)), (3, .int wh), (4, .int (nI (3 ^ n))), (5, .int (nI (sumN f c))), (6, .int (nI c))]) [0, 1, 2, 3, 4, 5, 6] rfl ?_
          refine g_aload_n (j := 0) (pc' := 132) dX12_luck_131 rfl rfl ?_
          refine g_aload_n (j := 0) (pc' := 133) dX12_luck_132 rfl rfl ?_
          refine g_getR (pc' := 136) dX12_luck_133 fX12_7 rfl rfl rfl ?_
          refine g_callV (my := mX12_chooses) (k := 189) (st := []) (av := [.ref 190]) (mcr := 0) (msr := 0) (mc := 0) (ms := 0) (pc' := 139) dX12_luck_136 kX12_chooses wX12_74 rfl ⟨rfl, rfl⟩ rfl (Nat.le_of_ble_eq_true rfl) (by decide) (r_chooses (c := 190) (off := (fun m => nI (o m + c / 3 ^ m % 3))) rfl (by omega) (by omega) hok hP3 (fun q hq => by rw [h3 q hq, if_pos (by omega)])) rfl ?_
          rintro _ _ ⟨M4, rfl, rfl, hca, -, hf5⟩
          show Go mX12_luck _ _ _ 139 [(0, .ref 189), (1, .int (nI m)), (2, .int (-4)), (3, .int wh), (4, .int (nI (3 ^ n))), (5, .int (nI (sumN f c))), (6, .int (nI c))] [.int ((chG P k (lineA (fun m => nI (o m + c / 3 ^ m % 3)) n) n).1)] (SK, M4, N) _
          refine g_istore (L' := [(0, .ref 189), (1, .int (nI m)), (2, .int (-4)), (3, .int wh), (4, .int (nI (3 ^ n))), (5, .int (nI (sumN f c))), (6, .int (nI c)), (8, .int ((chG P k (lineA (fun m => nI (o m + c / 3 ^ m % 3)) n) n).1))]) (pc' := 141) dX12_luck_139 (by decide) rfl rfl ?_
          refine g_less (L' := [(0, .ref 189), (1, .int (nI m)), (2, .int (-4)), (3, .int wh), (4, .int (nI (3 ^ n))), (5, .int (nI (sumN f c))), (6, .int (nI c))]) [0, 1, 2, 3, 4, 5, 6] rfl ?_
          have h9 := ih (c + 1) M4 (by omega) (fun a ta => by rw [hf5 a (by unfold tmpR at ta; omega) (by unfold tmpR at ta; omega)]; exact hf4 a ta)
          rw [show sumN f (c + 1) = sumN f c + f c from rfl, hfc c] at h9
          refine g_iload (j := 5) (pc' := 143) dX12_luck_141 rfl rfl ?_
          refine g_aload_n (j := 0) (pc' := 144) dX12_luck_143 rfl rfl ?_
          refine g_getR (pc' := 147) dX12_luck_144 fX12_41 rfl rfl rfl ?_
          refine g_iload_n (j := 1) (pc' := 148) dX12_luck_147 rfl rfl ?_
          refine g_iald (n := m) (pc' := 149) dX12_luck_148 rfl rfl (by omega) rfl ?_
          refine g_top (y := optI (-4) ((chG P k (lineA (fun m => nI (o m + c / 3 ^ m % 3)) n) n).2 m)) (hca m hm) ?_
          by_cases hq : (chG P k (lineA (fun m => nI (o m + c / 3 ^ m % 3)) n) n).2 m = none
          · rw [if_pos hq] at h9
            rw [hq]
            show Go mX12_luck _ _ _ 149 [(0, .ref 189), (1, .int (nI m)), (2, .int (-4)), (3, .int wh), (4, .int (nI (3 ^ n))), (5, .int (nI (sumN f c))), (6, .int (nI c))] [.int (-4), .int (nI (sumN f c))] (SK, M4, N) _
            refine g_iload_n (j := 2) (pc' := 150) dX12_luck_149 rfl rfl ?_
            refine g_icmp_ne (tgt := 157) (pc' := 153) dX12_luck_150 (by decide) rfl (fun hc => (absurd rfl hc)) (fun hc => ?_)
            refine g_iconst (v := 1) (pc' := 154) dX12_luck_153 (by decide) rfl ?_
            refine g_goto (tgt := 158) dX12_luck_154 (by decide) ?_
            refine g_iadd (pc' := 159) dX12_luck_158 rfl ?_
            refine g_top (y := nI (sumN f c + 1)) (nI_1 _) ?_
            refine g_istore (L' := [(0, .ref 189), (1, .int (nI m)), (2, .int (-4)), (3, .int wh), (4, .int (nI (3 ^ n))), (5, .int (nI (sumN f c + 1))), (6, .int (nI c))]) (pc' := 161) dX12_luck_159 (by decide) rfl rfl ?_
            refine g_iinc (j := 6) (v := nI (c + 1)) (L' := [(0, .ref 189), (1, .int (nI m)), (2, .int (-4)), (3, .int wh), (4, .int (nI (3 ^ n))), (5, .int (nI (sumN f c + 1))), (6, .int (nI (c + 1)))]) (pc' := 164) dX12_luck_161 rfl (nI_1 c) (by decide) rfl rfl ?_
            refine g_goto (tgt := 66) dX12_luck_164 (by decide) ?_
            exact h9
          · rw [if_neg hq, Nat.add_zero] at h9
            refine g_iload_n (j := 2) (pc' := 150) dX12_luck_149 rfl rfl ?_
            refine g_icmp_ne (tgt := 157) (pc' := 153) dX12_luck_150 (by decide) rfl (fun hc => ?_) (fun hc => (absurd (optI4_inj (b := none) (fun j hj => Nat.lt_of_lt_of_le (chG_lt hj) hk6) (fun j hj => Nat.lt_of_lt_of_le (hnm j hj) hk6) hc) hq))
            refine g_iconst (v := 0) (pc' := 158) dX12_luck_157 (by decide) rfl ?_
            refine g_iadd (pc' := 159) dX12_luck_158 rfl ?_
            refine g_top (y := nI (sumN f c)) (Int32.add_zero _) ?_
            refine g_istore (L' := [(0, .ref 189), (1, .int (nI m)), (2, .int (-4)), (3, .int wh), (4, .int (nI (3 ^ n))), (5, .int (nI (sumN f c))), (6, .int (nI c))]) (pc' := 161) dX12_luck_159 (by decide) rfl rfl ?_
            refine g_iinc (j := 6) (v := nI (c + 1)) (L' := [(0, .ref 189), (1, .int (nI m)), (2, .int (-4)), (3, .int wh), (4, .int (nI (3 ^ n))), (5, .int (nI (sumN f c))), (6, .int (nI (c + 1)))]) (pc' := 164) dX12_luck_161 rfl (nI_1 c) (by decide) rfl rfl ?_
            refine g_goto (tgt := 66) dX12_luck_164 (by decide) ?_
            exact h9
        | succ u2 ih2 =>
          intro j M3 hj h3 hf4
          have hP3 : ∀ j, j < 47 → M3 190 j = P j := fun j hj => by rw [hf4 190 (by unfold tmpR; omega)]; exact hP j hj
          have hcj : c / 3 ^ j < 1000 := Nat.lt_of_le_of_lt (Nat.div_le_self _ _) (by omega)
          refine g_iload (j := 8) (pc' := 96) dX12_luck_94 rfl rfl ?_
          refine g_aload_n (j := 0) (pc' := 97) dX12_luck_96 rfl rfl ?_
          refine g_getR (pc' := 100) dX12_luck_97 fX12_7 rfl rfl rfl ?_
          refine g_iconst (v := 0) (pc' := 101) dX12_luck_100 (by decide) rfl ?_
          refine g_iald (n := 0) (pc' := 102) dX12_luck_101 rfl rfl (by omega) rfl ?_
          refine g_top (y := nI n) ((hP3 0 (by omega)).trans hok.2.2.1) ?_
          refine g_icmp_ge (tgt := 131) (pc' := 105) dX12_luck_102 (by decide) rfl (fun hc => (absurd hc (nI_ge (a := j) (b := n) (by omega) (by omega)))) (fun hc => ?_)
          refine g_aload_n (j := 0) (pc' := 106) dX12_luck_105 rfl rfl ?_
          refine g_getR (pc' := 109) dX12_luck_106 fX12_35 rfl rfl rfl ?_
          refine g_iload (j := 8) (pc' := 111) dX12_luck_109 rfl rfl ?_
          refine g_dup2 (pc' := 112) dX12_luck_111 rfl rfl rfl ?_
          refine g_iald (n := j) (pc' := 113) dX12_luck_112 rfl rfl (by omega) rfl ?_
          refine g_top (y := nI (o j)) ((h3 j (by omega)).trans (if_neg (Nat.lt_irrefl _))) ?_
          refine g_iload (j := 7) (pc' := 115) dX12_luck_113 rfl rfl ?_
          refine g_iconst (v := 3) (pc' := 116) dX12_luck_115 (by decide) rfl ?_
          refine g_irem (pc' := 117) dX12_luck_116 (by decide) rfl ?_
          refine g_top (y := nI (c / 3 ^ j % 3)) (rem3 hcj) ?_
          refine g_iadd (pc' := 118) dX12_luck_117 rfl ?_
          refine g_top (y := nI (o j + c / 3 ^ j % 3)) (nI_add _ _) ?_
          refine g_iast (n := j) (pc' := 119) dX12_luck_118 rfl rfl (by omega) rfl ?_
          generalize hM4 : (um M3 198 j (nI (o j + c / 3 ^ j % 3))) = M4
          refine g_iload (j := 7) (pc' := 121) dX12_luck_119 rfl rfl ?_
          refine g_iconst (v := 3) (pc' := 122) dX12_luck_121 (by decide) rfl ?_
          refine g_idiv (pc' := 123) dX12_luck_122 (by decide) rfl ?_
          refine g_top (y := nI (c / 3 ^ (j + 1))) (by rw [div3 hcj, Nat.div_div_eq_div_mul, ← Nat.pow_succ]) ?_
          refine g_istore (L' := [(0, .ref 189), (1, .int (nI m)), (2, .int (-4)), (3, .int wh), (4, .int (nI (3 ^ n))), (5, .int (nI (sumN f c))), (6, .int (nI c)), (7, .int (nI (c / 3 ^ (j + 1)))), (8, .int (nI j))]) (pc' := 125) dX12_luck_123 (by decide) rfl rfl ?_
          refine g_iinc (j := 8) (v := nI (j + 1)) (L' := [(0, .ref 189), (1, .int (nI m)), (2, .int (-4)), (3, .int wh), (4, .int (nI (3 ^ n))), (5, .int (nI (sumN f c))), (6, .int (nI c)), (7, .int (nI (c / 3 ^ (j + 1)))), (8, .int (nI (j + 1)))]) (pc' := 128) dX12_luck_125 rfl (nI_1 j) (by decide) rfl rfl ?_
          refine g_goto (tgt := 94) dX12_luck_128 (by decide) ?_
          refine ih2 (j + 1) M4 (by omega) (fun q hq => ?_) (fun a ta => by rw [← hM4, um_ne (by unfold tmpR at ta; omega)]; exact hf4 a ta)
          rw [← hM4]
          by_cases e : q = j
          · subst e; rw [um_at, if_pos (by omega)]
          · rw [um_at2 e, h3 q hq]
            by_cases e2 : q < j
            · rw [if_pos e2, if_pos (by omega)]
            · rw [if_neg e2, if_neg (by omega)]
      have hi0 := inner n 0 M2 (by omega) (fun q hq => by rw [if_neg (Nat.not_lt_zero _), ho2 q hq]; exact hof q hq) hf3
      rw [Nat.pow_zero, Nat.div_one] at hi0
      exact hi0
  have pows : ∀ (u j : Nat), j + u = n → Go mX12_luck 30 0 0 37 [(0, .ref 189), (1, .int (nI m)), (2, .int (-4)), (3, .int wh), (4, .int (nI (3 ^ j))), (5, .int (nI j))] [] (SK, M, N) (RQ M N (if wh = 0 then nI (rdc n (sumN f (3 ^ n)) (3 ^ n)).1 else nI (rdc n (sumN f (3 ^ n)) (3 ^ n)).2) ((n, k, P, pa), kp, tp, sh)) := by
    intro u
    induction u with
    | zero =>
      intro j hj
      refine g_iload (j := 5) (pc' := 39) dX12_luck_37 rfl rfl ?_
      refine g_aload_n (j := 0) (pc' := 40) dX12_luck_39 rfl rfl ?_
      refine g_getR (pc' := 43) dX12_luck_40 fX12_7 rfl rfl rfl ?_
      refine g_iconst (v := 0) (pc' := 44) dX12_luck_43 (by decide) rfl ?_
      refine g_iald (n := 0) (pc' := 45) dX12_luck_44 rfl rfl (by omega) rfl ?_
      refine g_top (y := nI n) (hn) ?_
      refine g_icmp_ge (tgt := 60) (pc' := 48) dX12_luck_45 (by decide) rfl (fun hc => ?_) (fun hc => (absurd (nI_le (a := n) (b := j) (by omega) (by omega)) hc))
      obtain rfl : n = j := by omega
      refine g_iconst (v := 0) (pc' := 61) dX12_luck_60 (by decide) rfl ?_
      refine g_istore (L' := [(0, .ref 189), (1, .int (nI m)), (2, .int (-4)), (3, .int wh), (4, .int (nI (3 ^ n))), (5, .int 0)]) (pc' := 63) dX12_luck_61 (by decide) rfl rfl ?_
      refine g_iconst (v := 0) (pc' := 64) dX12_luck_63 (by decide) rfl ?_
      refine g_istore (L' := [(0, .ref 189), (1, .int (nI m)), (2, .int (-4)), (3, .int wh), (4, .int (nI (3 ^ n))), (5, .int 0), (6, .int 0)]) (pc' := 66) dX12_luck_64 (by decide) rfl rfl ?_
      exact codes (3 ^ n) 0 M (by omega) (fun _ _ => rfl)
    | succ u ih =>
      intro j hj
      refine g_iload (j := 5) (pc' := 39) dX12_luck_37 rfl rfl ?_
      refine g_aload_n (j := 0) (pc' := 40) dX12_luck_39 rfl rfl ?_
      refine g_getR (pc' := 43) dX12_luck_40 fX12_7 rfl rfl rfl ?_
      refine g_iconst (v := 0) (pc' := 44) dX12_luck_43 (by decide) rfl ?_
      refine g_iald (n := 0) (pc' := 45) dX12_luck_44 rfl rfl (by omega) rfl ?_
      refine g_top (y := nI n) (hn) ?_
      refine g_icmp_ge (tgt := 60) (pc' := 48) dX12_luck_45 (by decide) rfl (fun hc => (absurd hc (nI_ge (a := j) (b := n) (by omega) (by omega)))) (fun hc => ?_)
      refine g_iload (j := 4) (pc' := 50) dX12_luck_48 rfl rfl ?_
      refine g_iconst (v := 3) (pc' := 51) dX12_luck_50 (by decide) rfl ?_
      refine g_imul (pc' := 52) dX12_luck_51 rfl ?_
      refine g_top (y := nI (3 ^ (j + 1))) (by rw [Nat.pow_succ]; exact pk_mul _ 3) ?_
      refine g_istore (L' := [(0, .ref 189), (1, .int (nI m)), (2, .int (-4)), (3, .int wh), (4, .int (nI (3 ^ (j + 1)))), (5, .int (nI j))]) (pc' := 54) dX12_luck_52 (by decide) rfl rfl ?_
      refine g_iinc (j := 5) (v := nI (j + 1)) (L' := [(0, .ref 189), (1, .int (nI m)), (2, .int (-4)), (3, .int wh), (4, .int (nI (3 ^ (j + 1)))), (5, .int (nI (j + 1)))]) (pc' := 57) dX12_luck_54 rfl (nI_1 j) (by decide) rfl rfl ?_
      refine g_goto (tgt := 37) dX12_luck_57 (by decide) ?_
      exact ih (j + 1) (by omega)
  exact pows n 0 (by omega)
set_option maxRecDepth 100000 in
set_option maxHeartbeats 1000000 in
theorem r_luck {M : Nat → Nat → Int32} {N : Nat → Nat → Int64} {n k : Nat} {P : Nat → Int32} {pa : List (Nat → Int32)} {kp : Option YS} {tp : List Int32} {sh : Nat → Option (Nat × Nat × (Nat → Int64))} (hA : AOk ((n, k, P, pa), kp, tp, sh)) (hI : RI M N ((n, k, P, pa), kp, tp, sh)) {m i s : Nat} {wh : Int32} (hm : m < n) (hi : i < k) (h2 : ¬ (wh < 0 ∨ 1 < wh)) (hs2 : P 2 = nI s) (hs : s ≤ 20) : Run mX12_luck 30 0 0 [.ref 189, .int (nI m), .int (nI i), .int wh] (SK, M, N) (RQ M N (if wh = 0 then nI (rdc n (wF P k m (some i) (evL (offN P (nI s)) n 38) 0 0) (3 ^ n)).1 else nI (rdc n (wF P k m (some i) (evL (offN P (nI s)) n 38) 0 0) (3 ^ n)).2) ((n, k, P, pa), kp, tp, sh)) := by
  refine Run.of (by decide) (Nat.le_of_ble_eq_true rfl) ?_
  have hok : OkP n k P := hA.1.1.1
  have hP : ∀ j, j < 47 → M 190 j = P j := hI.1.1
  have hn6 := hok.1
  have hk6 := hok.2.1
  have hn : M 190 0 = nI n := (hP 0 (by omega)).trans hok.2.2.1
  have hk : M 190 1 = nI k := (hP 1 (by omega)).trans hok.2.2.2.1
  have hnm : ∀ j, ((some i) : Option Nat) = some j → j < k := fun j h => by cases h; exact hi
  have h729 : 3 ^ n ≤ 729 := Nat.pow_le_pow_right (n := 3) (by omega) hn6
  have h3p : 0 < 3 ^ n := Nat.pow_pos (by omega)
  have hof : ∀ q, q < n → offP P (P 2) q = nI (offN P (nI s) q) := fun q hq => by rw [hs2]; exact offN_eq hok hq hs
  have hob : ∀ q, offN P (nI s) q ≤ 35 := fun q => offN_le q
  rw [luck_sum (o := offN P (nI s)) hk6 hm hnm hob]
  generalize offN P (nI s) = o at hof hob ⊢
  generalize hf : (fun c => if (chG P k (lineA (fun m => nI (o m + c / 3 ^ m % 3)) n) n).2 m = (some i) then 1 else 0) = f
  have hfc : ∀ c, f c = if (chG P k (lineA (fun m => nI (o m + c / 3 ^ m % 3)) n) n).2 m = (some i) then 1 else 0 := fun c => by rw [← hf]
  have hf1 : ∀ c, f c ≤ 1 := fun c => by rw [hfc]; split <;> omega
  refine g_aload_n (j := 0) (pc' := 1) dX12_luck_0 rfl rfl ?_
  refine g_iload_n (j := 1) (pc' := 2) dX12_luck_1 rfl rfl ?_
  refine g_callV (my := mX12_isMan) (k := 189) (st := []) (av := [.int (nI m)]) (mcr := 0) (msr := 0) (mc := 0) (ms := 0) (pc' := 5) dX12_luck_2 kX12_isMan wX12_84 rfl ⟨rfl, rfl⟩ rfl (Nat.le_of_ble_eq_true rfl) (by decide) (s_isMan1 hn hn6 (hm)) rfl ?_
  rintro _ _ ⟨rfl, rfl⟩
  show Go mX12_luck _ _ _ 5 [(0, .ref 189), (1, .int (nI m)), (2, .int (nI i)), (3, .int wh)] [.int 1] (SK, M, N) _
  refine g_if_eq (tgt := 29) (pc' := 8) dX12_luck_5 (by decide) rfl (fun hc => absurd hc (by decide)) (fun _ => ?_)
  refine g_iload_n (j := 2) (pc' := 9) dX12_luck_8 rfl rfl ?_
  refine g_bipush (v := (-4)) (pc' := 11) dX12_luck_9 (by decide) rfl ?_
  refine g_icmp_eq (tgt := 22) (pc' := 14) dX12_luck_11 (by decide) rfl (fun hc => (absurd hc (nI_ne_m4 (by omega)))) (fun hc => ?_)
  refine g_aload_n (j := 0) (pc' := 15) dX12_luck_14 rfl rfl ?_
  refine g_iload_n (j := 2) (pc' := 16) dX12_luck_15 rfl rfl ?_
  refine g_callV (my := mX12_isName) (k := 189) (st := []) (av := [.int (nI i)]) (mcr := 0) (msr := 0) (mc := 0) (ms := 0) (pc' := 19) dX12_luck_16 kX12_isName wX12_92 rfl ⟨rfl, rfl⟩ rfl (Nat.le_of_ble_eq_true rfl) (by decide) (s_isName1 hk hk6 (hi)) rfl ?_
  rintro _ _ ⟨rfl, rfl⟩
  show Go mX12_luck _ _ _ 19 [(0, .ref 189), (1, .int (nI m)), (2, .int (nI i)), (3, .int wh)] [.int 1] (SK, M, N) _
  refine g_if_eq (tgt := 29) (pc' := 22) dX12_luck_19 (by decide) rfl (fun hc => absurd hc (by decide)) (fun _ => ?_)
  refine g_iload_n (j := 3) (pc' := 23) dX12_luck_22 rfl rfl ?_
  refine g_callS (my := mX12_isTwo) (st := []) (av := [.int wh]) (mcr := 0) (msr := 0) (mc := 0) (ms := 0) (pc' := 26) dX12_luck_23 kX12_isTwo wX12_190 rfl (Nat.le_of_ble_eq_true rfl) (by decide) (s_isTwo1 (h2)) rfl ?_
  rintro _ _ ⟨rfl, rfl⟩
  show Go mX12_luck _ _ _ 26 [(0, .ref 189), (1, .int (nI m)), (2, .int (nI i)), (3, .int wh)] [.int 1] (SK, M, N) _
  refine g_if_ne (tgt := 31) (pc' := 29) dX12_luck_26 (by decide) rfl (fun _ => ?_) (fun hc => absurd hc (by decide))
  refine g_iconst (v := 1) (pc' := 32) dX12_luck_31 (by decide) rfl ?_
  refine g_istore (L' := [(0, .ref 189), (1, .int (nI m)), (2, .int (nI i)), (3, .int wh), (4, .int 1)]) (pc' := 34) dX12_luck_32 (by decide) rfl rfl ?_
  refine g_iconst (v := 0) (pc' := 35) dX12_luck_34 (by decide) rfl ?_
  refine g_istore (L' := [(0, .ref 189), (1, .int (nI m)), (2, .int (nI i)), (3, .int wh), (4, .int 1), (5, .int 0)]) (pc' := 37) dX12_luck_35 (by decide) rfl rfl ?_
  have eucl : ∀ (b u v : Nat) (M1 : Nat → Nat → Int32), v ≤ b → u < 1000 → v < 1000 → Nat.gcd u v = Nat.gcd (sumN f (3 ^ n)) (3 ^ n) → (∀ a, ¬ tmpR a → M1 a = M a) → Go mX12_luck 30 0 0 175 [(0, .ref 189), (1, .int (nI m)), (2, .int (nI i)), (3, .int wh), (4, .int (nI (3 ^ n))), (5, .int (nI (sumN f (3 ^ n)))), (6, .int (nI u)), (7, .int (nI v))] [] (SK, M1, N) (RQ M N (if wh = 0 then nI (rdc n (sumN f (3 ^ n)) (3 ^ n)).1 else nI (rdc n (sumN f (3 ^ n)) (3 ^ n)).2) ((n, k, P, pa), kp, tp, sh)) := by
    intro b
    induction b with
    | zero =>
      intro u v M1 hv hu1 hv1 hg hf2
      obtain rfl : v = 0 := by omega
      refine g_iload (j := 7) (pc' := 177) dX12_luck_175 rfl rfl ?_
      refine g_if_eq (tgt := 198) (pc' := 180) dX12_luck_177 (by decide) rfl (fun hc => ?_) (fun hc => (absurd rfl hc))
      have hsl := sumN_le hf1 (3 ^ n)
      rw [Nat.gcd_zero_right] at hg
      have hgp : 0 < Nat.gcd (sumN f (3 ^ n)) (3 ^ n) := Nat.gcd_pos_of_pos_right _ h3p
      have hgl : Nat.gcd (sumN f (3 ^ n)) (3 ^ n) ≤ 3 ^ n := Nat.gcd_le_right _ h3p
      rw [← hg] at hgp hgl
      rw [rdc_gcd, ← hg]
      refine g_less (L' := [(0, .ref 189), (1, .int (nI m)), (2, .int (nI i)), (3, .int wh), (4, .int (nI (3 ^ n))), (5, .int (nI (sumN f (3 ^ n)))), (6, .int (nI u))]) [0, 1, 2, 3, 4, 5, 6] rfl ?_
      refine g_iload_n (j := 3) (pc' := 199) dX12_luck_198 rfl rfl ?_
      refine g_if_ne (tgt := 210) (pc' := 202) dX12_luck_199 (by decide) rfl (fun hc5 => ?_) (fun hc5 => ?_)
      · rw [if_neg hc5]
        refine g_iload (j := 4) (pc' := 212) dX12_luck_210 rfl rfl ?_
        refine g_iload (j := 6) (pc' := 214) dX12_luck_212 rfl rfl ?_
        refine g_idiv (pc' := 215) dX12_luck_214 (nI_ne0 (by omega) (by omega)) rfl ?_
        refine g_top (y := nI (3 ^ n / u)) (pk_div (by omega) (by omega) (by omega)) ?_
        exact g_iret dX12_luck_215 rfl rfl (RQ.tmp hI hf2)
      · rw [if_pos hc5]
        refine g_iload (j := 5) (pc' := 204) dX12_luck_202 rfl rfl ?_
        refine g_iload (j := 6) (pc' := 206) dX12_luck_204 rfl rfl ?_
        refine g_idiv (pc' := 207) dX12_luck_206 (nI_ne0 (by omega) (by omega)) rfl ?_
        refine g_goto (tgt := 215) dX12_luck_207 (by decide) ?_
        refine g_top (y := nI (sumN f (3 ^ n) / u)) (pk_div (by omega) (by omega) (by omega)) ?_
        exact g_iret dX12_luck_215 rfl rfl (RQ.tmp hI hf2)
    | succ b ih =>
      intro u v M1 hv hu1 hv1 hg hf2
      by_cases hv0 : v = 0
      · subst hv0
        refine g_iload (j := 7) (pc' := 177) dX12_luck_175 rfl rfl ?_
        refine g_if_eq (tgt := 198) (pc' := 180) dX12_luck_177 (by decide) rfl (fun hc => ?_) (fun hc => (absurd rfl hc))
        have hsl := sumN_le hf1 (3 ^ n)
        rw [Nat.gcd_zero_right] at hg
        have hgp : 0 < Nat.gcd (sumN f (3 ^ n)) (3 ^ n) := Nat.gcd_pos_of_pos_right _ h3p
        have hgl : Nat.gcd (sumN f (3 ^ n)) (3 ^ n) ≤ 3 ^ n := Nat.gcd_le_right _ h3p
        rw [← hg] at hgp hgl
        rw [rdc_gcd, ← hg]
        refine g_less (L' := [(0, .ref 189), (1, .int (nI m)), (2, .int (nI i)), (3, .int wh), (4, .int (nI (3 ^ n))), (5, .int (nI (sumN f (3 ^ n)))), (6, .int (nI u))]) [0, 1, 2, 3, 4, 5, 6] rfl ?_
        refine g_iload_n (j := 3) (pc' := 199) dX12_luck_198 rfl rfl ?_
        refine g_if_ne (tgt := 210) (pc' := 202) dX12_luck_199 (by decide) rfl (fun hc5 => ?_) (fun hc5 => ?_)
        · rw [if_neg hc5]
          refine g_iload (j := 4) (pc' := 212) dX12_luck_210 rfl rfl ?_
          refine g_iload (j := 6) (pc' := 214) dX12_luck_212 rfl rfl ?_
          refine g_idiv (pc' := 215) dX12_luck_214 (nI_ne0 (by omega) (by omega)) rfl ?_
          refine g_top (y := nI (3 ^ n / u)) (pk_div (by omega) (by omega) (by omega)) ?_
          exact g_iret dX12_luck_215 rfl rfl (RQ.tmp hI hf2)
        · rw [if_pos hc5]
          refine g_iload (j := 5) (pc' := 204) dX12_luck_202 rfl rfl ?_
          refine g_iload (j := 6) (pc' := 206) dX12_luck_204 rfl rfl ?_
          refine g_idiv (pc' := 207) dX12_luck_206 (nI_ne0 (by omega) (by omega)) rfl ?_
          refine g_goto (tgt := 215) dX12_luck_207 (by decide) ?_
          refine g_top (y := nI (sumN f (3 ^ n) / u)) (pk_div (by omega) (by omega) (by omega)) ?_
          exact g_iret dX12_luck_215 rfl rfl (RQ.tmp hI hf2)
      · refine g_iload (j := 7) (pc' := 177) dX12_luck_175 rfl rfl ?_
        refine g_if_eq (tgt := 198) (pc' := 180) dX12_luck_177 (by decide) rfl (fun hc => (absurd hc (nI_ne0 (by omega) (by omega)))) (fun hc => ?_)
        refine g_iload (j := 6) (pc' := 182) dX12_luck_180 rfl rfl ?_
        refine g_iload (j := 7) (pc' := 184) dX12_luck_182 rfl rfl ?_
        refine g_irem (pc' := 185) dX12_luck_184 (nI_ne0 (by omega) (by omega)) rfl ?_
        refine g_top (y := nI (u % v)) (pk_rem (by omega) (by omega) (by omega)) ?_
        have hlt : u % v < v := Nat.mod_lt _ (by omega)
        refine g_istore (L' := [(0, .ref 189), (1, .int (nI m)), (2, .int (nI i)), (3, .int wh), (4, .int (nI (3 ^ n))), (5, .int (nI (sumN f (3 ^ n)))), (6, .int (nI u)), (7, .int (nI v)), (8, .int (nI (u % v)))]) (pc' := 187) dX12_luck_185 (by decide) rfl rfl ?_
        refine g_iload (j := 7) (pc' := 189) dX12_luck_187 rfl rfl ?_
        refine g_istore (L' := [(0, .ref 189), (1, .int (nI m)), (2, .int (nI i)), (3, .int wh), (4, .int (nI (3 ^ n))), (5, .int (nI (sumN f (3 ^ n)))), (6, .int (nI v)), (7, .int (nI v)), (8, .int (nI (u % v)))]) (pc' := 191) dX12_luck_189 (by decide) rfl rfl ?_
        refine g_iload (j := 8) (pc' := 193) dX12_luck_191 rfl rfl ?_
        refine g_istore (L' := [(0, .ref 189), (1, .int (nI m)), (2, .int (nI i)), (3, .int wh), (4, .int (nI (3 ^ n))), (5, .int (nI (sumN f (3 ^ n)))), (6, .int (nI v)), (7, .int (nI (u % v))), (8, .int (nI (u % v)))]) (pc' := 195) dX12_luck_193 (by decide) rfl rfl ?_
        refine g_less (L' := [(0, .ref 189), (1, .int (nI m)), (2, .int (nI i)), (3, .int wh), (4, .int (nI (3 ^ n))), (5, .int (nI (sumN f (3 ^ n)))), (6, .int (nI v)), (7, .int (nI (u % v)))]) [0, 1, 2, 3, 4, 5, 6, 7] rfl ?_
        refine g_goto (tgt := 175) dX12_luck_195 (by decide) ?_
        exact ih v (u % v) M1 (by omega) (by omega) (by omega) (by rw [← hg, Nat.gcd_comm u v, Nat.gcd_rec v u, Nat.gcd_comm]) hf2
  have codes : ∀ (u c : Nat) (M1 : Nat → Nat → Int32), c + u = 3 ^ n → (∀ a, ¬ tmpR a → M1 a = M a) → Go mX12_luck 30 0 0 66 [(0, .ref 189), (1, .int (nI m)), (2, .int (nI i)), (3, .int wh), (4, .int (nI (3 ^ n))), (5, .int (nI (sumN f c))), (6, .int (nI c))] [] (SK, M1, N) (RQ M N (if wh = 0 then nI (rdc n (sumN f (3 ^ n)) (3 ^ n)).1 else nI (rdc n (sumN f (3 ^ n)) (3 ^ n)).2) ((n, k, P, pa), kp, tp, sh)) := by
    intro u
    induction u with
    | zero =>
      intro c M1 hcu hf2
      have hsl := sumN_le hf1 c
      refine g_iload (j := 6) (pc' := 68) dX12_luck_66 rfl rfl ?_
      refine g_iload (j := 4) (pc' := 70) dX12_luck_68 rfl rfl ?_
      refine g_icmp_ge (tgt := 167) (pc' := 73) dX12_luck_70 (by decide) rfl (fun hc => ?_) (fun hc => (absurd (nI_le (a := 3 ^ n) (b := c) (by omega) (by omega)) hc))
      obtain rfl : c = 3 ^ n := by omega
      refine g_iload (j := 5) (pc' := 169) dX12_luck_167 rfl rfl ?_
      refine g_istore (L' := [(0, .ref 189), (1, .int (nI m)), (2, .int (nI i)), (3, .int wh), (4, .int (nI (3 ^ n))), (5, .int (nI (sumN f (3 ^ n)))), (6, .int (nI (sumN f (3 ^ n))))]) (pc' := 171) dX12_luck_169 (by decide) rfl rfl ?_
      refine g_iload (j := 4) (pc' := 173) dX12_luck_171 rfl rfl ?_
      refine g_istore (L' := [(0, .ref 189), (1, .int (nI m)), (2, .int (nI i)), (3, .int wh), (4, .int (nI (3 ^ n))), (5, .int (nI (sumN f (3 ^ n)))), (6, .int (nI (sumN f (3 ^ n)))), (7, .int (nI (3 ^ n)))]) (pc' := 175) dX12_luck_173 (by decide) rfl rfl ?_
      exact eucl (3 ^ n) (sumN f (3 ^ n)) (3 ^ n) M1 (Nat.le_refl _) (by omega) (by omega) rfl hf2
    | succ u ih =>
      intro c M1 hcu hf2
      have hsl := sumN_le hf1 c
      refine g_iload (j := 6) (pc' := 68) dX12_luck_66 rfl rfl ?_
      refine g_iload (j := 4) (pc' := 70) dX12_luck_68 rfl rfl ?_
      refine g_icmp_ge (tgt := 167) (pc' := 73) dX12_luck_70 (by decide) rfl (fun hc => (absurd hc (nI_ge (a := c) (b := 3 ^ n) (by omega) (by omega)))) (fun hc => ?_)
      have hP1 : ∀ j, j < 47 → M1 190 j = P j := fun j hj => by rw [hf2 190 (by unfold tmpR; omega)]; exact hP j hj
      refine g_aload_n (j := 0) (pc' := 74) dX12_luck_73 rfl rfl ?_
      refine g_aload_n (j := 0) (pc' := 75) dX12_luck_74 rfl rfl ?_
      refine g_getR (pc' := 78) dX12_luck_75 fX12_7 rfl rfl rfl ?_
      refine g_aload_n (j := 0) (pc' := 79) dX12_luck_78 rfl rfl ?_
      refine g_getR (pc' := 82) dX12_luck_79 fX12_7 rfl rfl rfl ?_
      refine g_iconst (v := 2) (pc' := 83) dX12_luck_82 (by decide) rfl ?_
      refine g_iald (n := 2) (pc' := 84) dX12_luck_83 rfl rfl (by omega) rfl ?_
      refine g_top (y := P 2) (hP1 2 (by omega)) ?_
      refine g_callV (my := mX12_layOff) (k := 189) (st := []) (av := [.ref 190, .int (P 2)]) (mcr := 0) (msr := 0) (mc := 0) (ms := 0) (pc' := 87) dX12_luck_84 kX12_layOff wX12_70 rfl ⟨rfl, rfl⟩ rfl (Nat.le_of_ble_eq_true rfl) (by decide) (r_layOff (c := 190) rfl (by omega) hok hP1 (P 2)) rfl ?_
      rintro _ _ ⟨M2, rfl, rfl, ho2, hfo⟩
      show Go mX12_luck _ _ _ 87 [(0, .ref 189), (1, .int (nI m)), (2, .int (nI i)), (3, .int wh), (4, .int (nI (3 ^ n))), (5, .int (nI (sumN f c))), (6, .int (nI c))] [] (SK, M2, N) _
      refine g_iload (j := 6) (pc' := 89) dX12_luck_87 rfl rfl ?_
      refine g_istore (L' := [(0, .ref 189), (1, .int (nI m)), (2, .int (nI i)), (3, .int wh), (4, .int (nI (3 ^ n))), (5, .int (nI (sumN f c))), (6, .int (nI c)), (7, .int (nI c))]) (pc' := 91) dX12_luck_89 (by decide) rfl rfl ?_
      refine g_iconst (v := 0) (pc' := 92) dX12_luck_91 (by decide) rfl ?_
      refine g_istore (L' := [(0, .ref 189), (1, .int (nI m)), (2, .int (nI i)), (3, .int wh), (4, .int (nI (3 ^ n))), (5, .int (nI (sumN f c))), (6, .int (nI c)), (7, .int (nI c)), (8, .int 0)]) (pc' := 94) dX12_luck_92 (by decide) rfl rfl ?_
      have hf3 : ∀ a, ¬ tmpR a → M2 a = M a := fun a ta => by rw [hfo a (by unfold tmpR at ta; omega)]; exact hf2 a ta
      have inner : ∀ (u2 j : Nat) (M3 : Nat → Nat → Int32), j + u2 = n → (∀ q, q < n → M3 198 q = if q < j then nI (o q + c / 3 ^ q % 3) else nI (o q)) → (∀ a, ¬ tmpR a → M3 a = M a) → Go mX12_luck 30 0 0 94 [(0, .ref 189), (1, .int (nI m)), (2, .int (nI i)), (3, .int wh), (4, .int (nI (3 ^ n))), (5, .int (nI (sumN f c))), (6, .int (nI c)), (7, .int (nI (c / 3 ^ j))), (8, .int (nI j))] [] (SK, M3, N) (RQ M N (if wh = 0 then nI (rdc n (sumN f (3 ^ n)) (3 ^ n)).1 else nI (rdc n (sumN f (3 ^ n)) (3 ^ n)).2) ((n, k, P, pa), kp, tp, sh)) := by
        intro u2
        induction u2 with
        | zero =>
          intro j M3 hj h3 hf4
          have hP3 : ∀ j, j < 47 → M3 190 j = P j := fun j hj => by rw [hf4 190 (by unfold tmpR; omega)]; exact hP j hj
          have hcj : c / 3 ^ j < 1000 := Nat.lt_of_le_of_lt (Nat.div_le_self _ _) (by omega)
          refine g_iload (j := 8) (pc' := 96) dX12_luck_94 rfl rfl ?_
          refine g_aload_n (j := 0) (pc' := 97) dX12_luck_96 rfl rfl ?_
          refine g_getR (pc' := 100) dX12_luck_97 fX12_7 rfl rfl rfl ?_
          refine g_iconst (v := 0) (pc' := 101) dX12_luck_100 (by decide) rfl ?_
          refine g_iald (n := 0) (pc' := 102) dX12_luck_101 rfl rfl (by omega) rfl ?_
          refine g_top (y := nI n) ((hP3 0 (by omega)).trans hok.2.2.1) ?_
          refine g_icmp_ge (tgt := 131) (pc' := 105) dX12_luck_102 (by decide) rfl (fun hc => ?_) (fun hc => (absurd (nI_le (a := n) (b := j) (by omega) (by omega)) hc))
          refine g_less (L' := [(0, .ref 189), (1, .int (nI m)), (2, .int (nI i)), (3, .int wh), (4, .int (nI (3 ^ n))), (5, .int (nI (sumN f c))), (6, .int (nI c))]) [0, 1, 2, 3, 4, 5, 6] rfl ?_
          refine g_aload_n (j := 0) (pc' := 132) dX12_luck_131 rfl rfl ?_
          refine g_aload_n (j := 0) (pc' := 133) dX12_luck_132 rfl rfl ?_
          refine g_getR (pc' := 136) dX12_luck_133 fX12_7 rfl rfl rfl ?_
          refine g_callV (my := mX12_chooses) (k := 189) (st := []) (av := [.ref 190]) (mcr := 0) (msr := 0) (mc := 0) (ms := 0) (pc' := 139) dX12_luck_136 kX12_chooses wX12_74 rfl ⟨rfl, rfl⟩ rfl (Nat.le_of_ble_eq_true rfl) (by decide) (r_chooses (c := 190) (off := (fun m => nI (o m + c / 3 ^ m % 3))) rfl (by omega) (by omega) hok hP3 (fun q hq => by rw [h3 q hq, if_pos (by omega)])) rfl ?_
          rintro _ _ ⟨M4, rfl, rfl, hca, -, hf5⟩
          show Go mX12_luck _ _ _ 139 [(0, .ref 189), (1, .int (nI m)), (2, .int (nI i)), (3, .int wh), (4, .int (nI (3 ^ n))), (5, .int (nI (sumN f c))), (6, .int (nI c))] [.int ((chG P k (lineA (fun m => nI (o m + c / 3 ^ m % 3)) n) n).1)] (SK, M4, N) _
          refine g_istore (L' := [(0, .ref 189), (1, .int (nI m)), (2, .int (nI i)), (3, .int wh), (4, .int (nI (3 ^ n))), (5, .int (nI (sumN f c))), (6, .int (nI c)), (8, .int ((chG P k (lineA (fun m => nI (o m + c / 3 ^ m % 3)) n) n).1))]) (pc' := 141) dX12_luck_139 (by decide) rfl rfl ?_
          refine g_less (L' := [(0, .ref 189), (1, .int (nI m)), (2, .int (nI i)), (3, .int wh), (4, .int (nI (3 ^ n))), (5, .int (nI (sumN f c))), (6, .int (nI c))]) [0, 1, 2, 3, 4, 5, 6] rfl ?_
          have h9 := ih (c + 1) M4 (by omega) (fun a ta => by rw [hf5 a (by unfold tmpR at ta; omega) (by unfold tmpR at ta; omega)]; exact hf4 a ta)
          rw [show sumN f (c + 1) = sumN f c + f c from rfl, hfc c] at h9
          refine g_iload (j := 5) (pc' := 143) dX12_luck_141 rfl rfl ?_
          refine g_aload_n (j := 0) (pc' := 144) dX12_luck_143 rfl rfl ?_
          refine g_getR (pc' := 147) dX12_luck_144 fX12_41 rfl rfl rfl ?_
          refine g_iload_n (j := 1) (pc' := 148) dX12_luck_147 rfl rfl ?_
          refine g_iald (n := m) (pc' := 149) dX12_luck_148 rfl rfl (by omega) rfl ?_
          refine g_top (y := optI (-4) ((chG P k (lineA (fun m => nI (o m + c / 3 ^ m % 3)) n) n).2 m)) (hca m hm) ?_
          by_cases hq : (chG P k (lineA (fun m => nI (o m + c / 3 ^ m % 3)) n) n).2 m = (some i)
          · rw [if_pos hq] at h9
            rw [hq]
            show Go mX12_luck _ _ _ 149 [(0, .ref 189), (1, .int (nI m)), (2, .int (nI i)), (3, .int wh), (4, .int (nI (3 ^ n))), (5, .int (nI (sumN f c))), (6, .int (nI c))] [.int (nI i), .int (nI (sumN f c))] (SK, M4, N) _
            refine g_iload_n (j := 2) (pc' := 150) dX12_luck_149 rfl rfl ?_
            refine g_icmp_ne (tgt := 157) (pc' := 153) dX12_luck_150 (by decide) rfl (fun hc => (absurd rfl hc)) (fun hc => ?_)
            refine g_iconst (v := 1) (pc' := 154) dX12_luck_153 (by decide) rfl ?_
            refine g_goto (tgt := 158) dX12_luck_154 (by decide) ?_
            refine g_iadd (pc' := 159) dX12_luck_158 rfl ?_
            refine g_top (y := nI (sumN f c + 1)) (nI_1 _) ?_
            refine g_istore (L' := [(0, .ref 189), (1, .int (nI m)), (2, .int (nI i)), (3, .int wh), (4, .int (nI (3 ^ n))), (5, .int (nI (sumN f c + 1))), (6, .int (nI c))]) (pc' := 161) dX12_luck_159 (by decide) rfl rfl ?_
            refine g_iinc (j := 6) (v := nI (c + 1)) (L' := [(0, .ref 189), (1, .int (nI m)), (2, .int (nI i)), (3, .int wh), (4, .int (nI (3 ^ n))), (5, .int (nI (sumN f c + 1))), (6, .int (nI (c + 1)))]) (pc' := 164) dX12_luck_161 rfl (nI_1 c) (by decide) rfl rfl ?_
            refine g_goto (tgt := 66) dX12_luck_164 (by decide) ?_
            exact h9
          · rw [if_neg hq, Nat.add_zero] at h9
            refine g_iload_n (j := 2) (pc' := 150) dX12_luck_149 rfl rfl ?_
            refine g_icmp_ne (tgt := 157) (pc' := 153) dX12_luck_150 (by decide) rfl (fun hc => ?_) (fun hc => (absurd (optI4_inj (b := (some i)) (fun j hj => Nat.lt_of_lt_of_le (chG_lt hj) hk6) (fun j hj => Nat.lt_of_lt_of_le (hnm j hj) hk6) hc) hq))
            refine g_iconst (v := 0) (pc' := 158) dX12_luck_157 (by decide) rfl ?_
            refine g_iadd (pc' := 159) dX12_luck_158 rfl ?_
            refine g_top (y := nI (sumN f c)) (Int32.add_zero _) ?_
            refine g_istore (L' := [(0, .ref 189), (1, .int (nI m)), (2, .int (nI i)), (3, .int wh), (4, .int (nI (3 ^ n))), (5, .int (nI (sumN f c))), (6, .int (nI c))]) (pc' := 161) dX12_luck_159 (by decide) rfl rfl ?_
            refine g_iinc (j := 6) (v := nI (c + 1)) (L' := [(0, .ref 189), (1, .int (nI m)), (2, .int (nI i)), (3, .int wh), (4, .int (nI (3 ^ n))), (5, .int (nI (sumN f c))), (6, .int (nI (c + 1)))]) (pc' := 164) dX12_luck_161 rfl (nI_1 c) (by decide) rfl rfl ?_
            refine g_goto (tgt := 66) dX12_luck_164 (by decide) ?_
            exact h9
        | succ u2 ih2 =>
          intro j M3 hj h3 hf4
          have hP3 : ∀ j, j < 47 → M3 190 j = P j := fun j hj => by rw [hf4 190 (by unfold tmpR; omega)]; exact hP j hj
          have hcj : c / 3 ^ j < 1000 := Nat.lt_of_le_of_lt (Nat.div_le_self _ _) (by omega)
          refine g_iload (j := 8) (pc' := 96) dX12_luck_94 rfl rfl ?_
          refine g_aload_n (j := 0) (pc' := 97) dX12_luck_96 rfl rfl ?_
          refine g_getR (pc' := 100) dX12_luck_97 fX12_7 rfl rfl rfl ?_
          refine g_iconst (v := 0) (pc' := 101) dX12_luck_100 (by decide) rfl ?_
          refine g_iald (n := 0) (pc' := 102) dX12_luck_101 rfl rfl (by omega) rfl ?_
          refine g_top (y := nI n) ((hP3 0 (by omega)).trans hok.2.2.1) ?_
          refine g_icmp_ge (tgt := 131) (pc' := 105) dX12_luck_102 (by decide) rfl (fun hc => (absurd hc (nI_ge (a := j) (b := n) (by omega) (by omega)))) (fun hc => ?_)
          refine g_aload_n (j := 0) (pc' := 106) dX12_luck_105 rfl rfl ?_
          refine g_getR (pc' := 109) dX12_luck_106 fX12_35 rfl rfl rfl ?_
          refine g_iload (j := 8) (pc' := 111) dX12_luck_109 rfl rfl ?_
          refine g_dup2 (pc' := 112) dX12_luck_111 rfl rfl rfl ?_
          refine g_iald (n := j) (pc' := 113) dX12_luck_112 rfl rfl (by omega) rfl ?_
          refine g_top (y := nI (o j)) ((h3 j (by omega)).trans (if_neg (Nat.lt_irrefl _))) ?_
          refine g_iload (j := 7) (pc' := 115) dX12_luck_113 rfl rfl ?_
          refine g_iconst (v := 3) (pc' := 116) dX12_luck_115 (by decide) rfl ?_
          refine g_irem (pc' := 117) dX12_luck_116 (by decide) rfl ?_
          refine g_top (y := nI (c / 3 ^ j % 3)) (rem3 hcj) ?_
          refine g_iadd (pc' := 118) dX12_luck_117 rfl ?_
          refine g_top (y := nI (o j + c / 3 ^ j % 3)) (nI_add _ _) ?_
          refine g_iast (n := j) (pc' := 119) dX12_luck_118 rfl rfl (by omega) rfl ?_
          generalize hM4 : (um M3 198 j (nI (o j + c / 3 ^ j % 3))) = M4
          refine g_iload (j := 7) (pc' := 121) dX12_luck_119 rfl rfl ?_
          refine g_iconst (v := 3) (pc' := 122) dX12_luck_121 (by decide) rfl ?_
          refine g_idiv (pc' := 123) dX12_luck_122 (by decide) rfl ?_
          refine g_top (y := nI (c / 3 ^ (j + 1))) (by rw [div3 hcj, Nat.div_div_eq_div_mul, ← Nat.pow_succ]) ?_
          refine g_istore (L' := [(0, .ref 189), (1, .int (nI m)), (2, .int (nI i)), (3, .int wh), (4, .int (nI (3 ^ n))), (5, .int (nI (sumN f c))), (6, .int (nI c)), (7, .int (nI (c / 3 ^ (j + 1)))), (8, .int (nI j))]) (pc' := 125) dX12_luck_123 (by decide) rfl rfl ?_
          refine g_iinc (j := 8) (v := nI (j + 1)) (L' := [(0, .ref 189), (1, .int (nI m)), (2, .int (nI i)), (3, .int wh), (4, .int (nI (3 ^ n))), (5, .int (nI (sumN f c))), (6, .int (nI c)), (7, .int (nI (c / 3 ^ (j + 1)))), (8, .int (nI (j + 1)))]) (pc' := 128) dX12_luck_125 rfl (nI_1 j) (by decide) rfl rfl ?_
          refine g_goto (tgt := 94) dX12_luck_128 (by decide) ?_
          refine ih2 (j + 1) M4 (by omega) (fun q hq => ?_) (fun a ta => by rw [← hM4, um_ne (by unfold tmpR at ta; omega)]; exact hf4 a ta)
          rw [← hM4]
          by_cases e : q = j
          · subst e; rw [um_at, if_pos (by omega)]
          · rw [um_at2 e, h3 q hq]
            by_cases e2 : q < j
            · rw [if_pos e2, if_pos (by omega)]
            · rw [if_neg e2, if_neg (by omega)]
      have hi0 := inner n 0 M2 (by omega) (fun q hq => by rw [if_neg (Nat.not_lt_zero _), ho2 q hq]; exact hof q hq) hf3
      rw [Nat.pow_zero, Nat.div_one] at hi0
      exact hi0
  have pows : ∀ (u j : Nat), j + u = n → Go mX12_luck 30 0 0 37 [(0, .ref 189), (1, .int (nI m)), (2, .int (nI i)), (3, .int wh), (4, .int (nI (3 ^ j))), (5, .int (nI j))] [] (SK, M, N) (RQ M N (if wh = 0 then nI (rdc n (sumN f (3 ^ n)) (3 ^ n)).1 else nI (rdc n (sumN f (3 ^ n)) (3 ^ n)).2) ((n, k, P, pa), kp, tp, sh)) := by
    intro u
    induction u with
    | zero =>
      intro j hj
      refine g_iload (j := 5) (pc' := 39) dX12_luck_37 rfl rfl ?_
      refine g_aload_n (j := 0) (pc' := 40) dX12_luck_39 rfl rfl ?_
      refine g_getR (pc' := 43) dX12_luck_40 fX12_7 rfl rfl rfl ?_
      refine g_iconst (v := 0) (pc' := 44) dX12_luck_43 (by decide) rfl ?_
      refine g_iald (n := 0) (pc' := 45) dX12_luck_44 rfl rfl (by omega) rfl ?_
      refine g_top (y := nI n) (hn) ?_
      refine g_icmp_ge (tgt := 60) (pc' := 48) dX12_luck_45 (by decide) rfl (fun hc => ?_) (fun hc => (absurd (nI_le (a := n) (b := j) (by omega) (by omega)) hc))
      obtain rfl : n = j := by omega
      refine g_iconst (v := 0) (pc' := 61) dX12_luck_60 (by decide) rfl ?_
      refine g_istore (L' := [(0, .ref 189), (1, .int (nI m)), (2, .int (nI i)), (3, .int wh), (4, .int (nI (3 ^ n))), (5, .int 0)]) (pc' := 63) dX12_luck_61 (by decide) rfl rfl ?_
      refine g_iconst (v := 0) (pc' := 64) dX12_luck_63 (by decide) rfl ?_
      refine g_istore (L' := [(0, .ref 189), (1, .int (nI m)), (2, .int (nI i)), (3, .int wh), (4, .int (nI (3 ^ n))), (5, .int 0), (6, .int 0)]) (pc' := 66) dX12_luck_64 (by decide) rfl rfl ?_
      exact codes (3 ^ n) 0 M (by omega) (fun _ _ => rfl)
    | succ u ih =>
      intro j hj
      refine g_iload (j := 5) (pc' := 39) dX12_luck_37 rfl rfl ?_
      refine g_aload_n (j := 0) (pc' := 40) dX12_luck_39 rfl rfl ?_
      refine g_getR (pc' := 43) dX12_luck_40 fX12_7 rfl rfl rfl ?_
      refine g_iconst (v := 0) (pc' := 44) dX12_luck_43 (by decide) rfl ?_
      refine g_iald (n := 0) (pc' := 45) dX12_luck_44 rfl rfl (by omega) rfl ?_
      refine g_top (y := nI n) (hn) ?_
      refine g_icmp_ge (tgt := 60) (pc' := 48) dX12_luck_45 (by decide) rfl (fun hc => (absurd hc (nI_ge (a := j) (b := n) (by omega) (by omega)))) (fun hc => ?_)
      refine g_iload (j := 4) (pc' := 50) dX12_luck_48 rfl rfl ?_
      refine g_iconst (v := 3) (pc' := 51) dX12_luck_50 (by decide) rfl ?_
      refine g_imul (pc' := 52) dX12_luck_51 rfl ?_
      refine g_top (y := nI (3 ^ (j + 1))) (by rw [Nat.pow_succ]; exact pk_mul _ 3) ?_
      refine g_istore (L' := [(0, .ref 189), (1, .int (nI m)), (2, .int (nI i)), (3, .int wh), (4, .int (nI (3 ^ (j + 1)))), (5, .int (nI j))]) (pc' := 54) dX12_luck_52 (by decide) rfl rfl ?_
      refine g_iinc (j := 5) (v := nI (j + 1)) (L' := [(0, .ref 189), (1, .int (nI m)), (2, .int (nI i)), (3, .int wh), (4, .int (nI (3 ^ (j + 1)))), (5, .int (nI (j + 1)))]) (pc' := 57) dX12_luck_54 rfl (nI_1 j) (by decide) rfl rfl ?_
      refine g_goto (tgt := 37) dX12_luck_57 (by decide) ?_
      exact ih (j + 1) (by omega)
  exact pows n 0 (by omega)
