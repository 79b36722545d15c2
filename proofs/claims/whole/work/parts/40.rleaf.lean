/-! ===== the reference: leaves ===== -/
theorem cmpL_gt {x y : Int64} : 0 < lg_cmp x y ↔ y < x := by
  unfold lg_cmp
  by_cases h : x > y
  · rw [if_pos h]; exact ⟨fun _ => h, fun _ => by decide⟩
  · rw [if_neg h]
    refine ⟨fun q => ?_, fun q => absurd q h⟩
    split at q
    · exact absurd q (by decide)
    · exact absurd q (by decide)
theorem cmpL_lt {x y : Int64} : lg_cmp x y < 0 ↔ x < y := by
  unfold lg_cmp
  by_cases h : x > y
  · rw [if_pos h]
    refine ⟨fun q => absurd q (by decide), fun q => ?_⟩
    have h' : y < x := h
    rw [Int64.lt_iff_toInt_lt] at h' q
    omega
  · rw [if_neg h]
    by_cases e : x = y
    · rw [if_pos e]
      subst e
      exact ⟨fun q => absurd q (by decide), fun q => absurd q h⟩
    · rw [if_neg e]
      refine ⟨fun _ => ?_, fun _ => by decide⟩
      have h' : ¬ y < x := h
      rw [Int64.lt_iff_toInt_lt] at h' ⊢
      have : x.toInt ≠ y.toInt := fun q => e (Int64.toInt_inj.mp q)
      omega
theorem wid_lt {x y : Int32} : x.toInt64 < y.toInt64 ↔ x < y := by
  rw [Int64.lt_iff_toInt_lt, Int32.lt_iff_toInt_lt, Int32.toInt_toInt64, Int32.toInt_toInt64]
set_option maxRecDepth 100000 in
set_option maxHeartbeats 1000000 in
theorem s_in (v lo hi : Int32) (h : AH) : Run mX12_in 0 0 0 [.long v.toInt64, .long lo.toInt64, .long hi.toInt64] h (fun r h' => h' = h ∧ r = some (.int (if v < lo ∨ hi < v then 0 else 1))) := by
  refine Run.of (by decide) (Nat.le_of_ble_eq_true rfl) ?_
  refine g_lload_n (j := 0) (pc' := 1) dX12_in_0 rfl rfl ?_
  refine g_lload_n (j := 1) (pc' := 2) dX12_in_1 rfl rfl ?_
  refine g_lcmp (pc' := 3) dX12_in_2 rfl ?_
  refine g_if_lt (tgt := 17) (pc' := 6) dX12_in_3 (by decide) rfl (fun hc => ?_) (fun hc => ?_)
  · rw [if_pos (Or.inl (wid_lt.mp (cmpL_lt.mp hc)))]
    refine g_iconst (v := 0) (pc' := 18) dX12_in_17 (by decide) rfl ?_
    exact g_iret dX12_in_18 rfl (by decide) (⟨rfl, rfl⟩)
  · refine g_lload_n (j := 0) (pc' := 7) dX12_in_6 rfl rfl ?_
    refine g_lload (j := 2) (pc' := 9) dX12_in_7 rfl rfl ?_
    refine g_lcmp (pc' := 10) dX12_in_9 rfl ?_
    refine g_if_gt (tgt := 17) (pc' := 13) dX12_in_10 (by decide) rfl (fun hc2 => ?_) (fun hc2 => ?_)
    · rw [if_pos (Or.inr (wid_lt.mp (cmpL_gt.mp hc2)))]
      refine g_iconst (v := 0) (pc' := 18) dX12_in_17 (by decide) rfl ?_
      exact g_iret dX12_in_18 rfl (by decide) (⟨rfl, rfl⟩)
    · rw [if_neg (fun q => q.elim (fun q => hc (cmpL_lt.mpr (wid_lt.mpr q))) (fun q => hc2 (cmpL_gt.mpr (wid_lt.mpr q))))]
      refine g_iconst (v := 1) (pc' := 14) dX12_in_13 (by decide) rfl ?_
      refine g_goto (tgt := 18) dX12_in_14 (by decide) ?_
      exact g_iret dX12_in_18 rfl (by decide) (⟨rfl, rfl⟩)
theorem r_in0 {v lo hi : Int32} {a b : Int64} {h : AH} (ha : a = lo.toInt64) (hb : b = hi.toInt64) (hv : v < lo ∨ hi < v) : Run mX12_in 0 0 0 [.long v.toInt64, .long a, .long b] h (fun r h' => h' = h ∧ r = some (.int 0)) := by
  subst ha; subst hb
  exact (s_in v lo hi h).post (fun r h' q => ⟨q.1, by rw [q.2, if_pos hv]⟩)
theorem r_in1 {v lo hi : Int32} {a b : Int64} {h : AH} (ha : a = lo.toInt64) (hb : b = hi.toInt64) (hv : ¬ (v < lo ∨ hi < v)) : Run mX12_in 0 0 0 [.long v.toInt64, .long a, .long b] h (fun r h' => h' = h ∧ r = some (.int 1)) := by
  subst ha; subst hb
  exact (s_in v lo hi h).post (fun r h' q => ⟨q.1, by rw [q.2, if_neg hv]⟩)
set_option maxRecDepth 100000 in
set_option maxHeartbeats 1000000 in
theorem s_isMan1 {M : Nat → Nat → Int32} {N : Nat → Nat → Int64} {n m : Nat} (hn : M 190 0 = nI n) (h6 : n ≤ 6) (hm : m < n) : Run mX12_isMan 1 0 0 [.ref 189, .int (nI m)] (SK, M, N) (fun r h' => h' = (SK, M, N) ∧ r = some (.int 1)) := by
  refine Run.of (by decide) (Nat.le_of_ble_eq_true rfl) ?_
  refine g_iload_n (j := 1) (pc' := 1) dX12_isMan_0 rfl rfl ?_
  refine g_i2l (pc' := 2) dX12_isMan_1 rfl ?_
  refine g_lconst (v := 0) (pc' := 3) dX12_isMan_2 (by decide) rfl ?_
  refine g_aload_n (j := 0) (pc' := 4) dX12_isMan_3 rfl rfl ?_
  refine g_getR (pc' := 7) dX12_isMan_4 fX12_7 rfl rfl rfl ?_
  refine g_iconst (v := 0) (pc' := 8) dX12_isMan_7 (by decide) rfl ?_
  refine g_iald (n := 0) (pc' := 9) dX12_isMan_8 rfl rfl (by omega) rfl ?_
  refine g_iconst (v := 1) (pc' := 10) dX12_isMan_9 (by decide) rfl ?_
  refine g_isub (pc' := 11) dX12_isMan_10 rfl ?_
  refine g_top (y := nI n - 1) (by rw [hn]) ?_
  refine g_i2l (pc' := 12) dX12_isMan_11 rfl ?_
  refine g_callS (my := mX12_in) (st := []) (av := [.long (Int32.toInt64 (nI m)), .long 0, .long (Int32.toInt64 (nI n - 1))]) (mcr := 0) (msr := 0) (mc := 0) (ms := 0) (pc' := 15) dX12_isMan_12 kX12_in wX12_55 rfl (Nat.le_of_ble_eq_true rfl) (by decide) (r_in1 (lo := 0) (hi := nI n - 1) rfl rfl (not_range (by omega) hm)) rfl ?_
  rintro _ _ ⟨rfl, rfl⟩
  show Go mX12_isMan _ _ _ 15 [(0, .ref 189), (1, .int (nI m))] [.int 1] (SK, M, N) _
  exact g_iret dX12_isMan_15 rfl (by decide) (⟨rfl, rfl⟩)
set_option maxRecDepth 100000 in
set_option maxHeartbeats 1000000 in
theorem s_isMan0 {M : Nat → Nat → Int32} {N : Nat → Nat → Int64} {n : Nat} {v : Int32} (hn : M 190 0 = nI n) (h6 : n ≤ 6) (hv : ∀ m, m < n → v ≠ nI m) : Run mX12_isMan 1 0 0 [.ref 189, .int v] (SK, M, N) (fun r h' => h' = (SK, M, N) ∧ r = some (.int 0)) := by
  refine Run.of (by decide) (Nat.le_of_ble_eq_true rfl) ?_
  have hr : v < 0 ∨ nI n - 1 < v := (in_range (v := v) (n := n) (by omega)).resolve_right (fun ⟨m, hm, e⟩ => hv m hm e)
  refine g_iload_n (j := 1) (pc' := 1) dX12_isMan_0 rfl rfl ?_
  refine g_i2l (pc' := 2) dX12_isMan_1 rfl ?_
  refine g_lconst (v := 0) (pc' := 3) dX12_isMan_2 (by decide) rfl ?_
  refine g_aload_n (j := 0) (pc' := 4) dX12_isMan_3 rfl rfl ?_
  refine g_getR (pc' := 7) dX12_isMan_4 fX12_7 rfl rfl rfl ?_
  refine g_iconst (v := 0) (pc' := 8) dX12_isMan_7 (by decide) rfl ?_
  refine g_iald (n := 0) (pc' := 9) dX12_isMan_8 rfl rfl (by omega) rfl ?_
  refine g_iconst (v := 1) (pc' := 10) dX12_isMan_9 (by decide) rfl ?_
  refine g_isub (pc' := 11) dX12_isMan_10 rfl ?_
  refine g_top (y := nI n - 1) (by rw [hn]) ?_
  refine g_i2l (pc' := 12) dX12_isMan_11 rfl ?_
  refine g_callS (my := mX12_in) (st := []) (av := [.long (Int32.toInt64 v), .long 0, .long (Int32.toInt64 (nI n - 1))]) (mcr := 0) (msr := 0) (mc := 0) (ms := 0) (pc' := 15) dX12_isMan_12 kX12_in wX12_55 rfl (Nat.le_of_ble_eq_true rfl) (by decide) (r_in0 (lo := 0) (hi := nI n - 1) rfl rfl hr) rfl ?_
  rintro _ _ ⟨rfl, rfl⟩
  show Go mX12_isMan _ _ _ 15 [(0, .ref 189), (1, .int v)] [.int 0] (SK, M, N) _
  exact g_iret dX12_isMan_15 rfl (by decide) (⟨rfl, rfl⟩)
set_option maxRecDepth 100000 in
set_option maxHeartbeats 1000000 in
theorem s_isName1 {M : Nat → Nat → Int32} {N : Nat → Nat → Int64} {n m : Nat} (hn : M 190 1 = nI n) (h6 : n ≤ 6) (hm : m < n) : Run mX12_isName 1 0 0 [.ref 189, .int (nI m)] (SK, M, N) (fun r h' => h' = (SK, M, N) ∧ r = some (.int 1)) := by
  refine Run.of (by decide) (Nat.le_of_ble_eq_true rfl) ?_
  refine g_iload_n (j := 1) (pc' := 1) dX12_isName_0 rfl rfl ?_
  refine g_i2l (pc' := 2) dX12_isName_1 rfl ?_
  refine g_lconst (v := 0) (pc' := 3) dX12_isName_2 (by decide) rfl ?_
  refine g_aload_n (j := 0) (pc' := 4) dX12_isName_3 rfl rfl ?_
  refine g_getR (pc' := 7) dX12_isName_4 fX12_7 rfl rfl rfl ?_
  refine g_iconst (v := 1) (pc' := 8) dX12_isName_7 (by decide) rfl ?_
  refine g_iald (n := 1) (pc' := 9) dX12_isName_8 rfl rfl (by omega) rfl ?_
  refine g_iconst (v := 1) (pc' := 10) dX12_isName_9 (by decide) rfl ?_
  refine g_isub (pc' := 11) dX12_isName_10 rfl ?_
  refine g_top (y := nI n - 1) (by rw [hn]) ?_
  refine g_i2l (pc' := 12) dX12_isName_11 rfl ?_
  refine g_callS (my := mX12_in) (st := []) (av := [.long (Int32.toInt64 (nI m)), .long 0, .long (Int32.toInt64 (nI n - 1))]) (mcr := 0) (msr := 0) (mc := 0) (ms := 0) (pc' := 15) dX12_isName_12 kX12_in wX12_55 rfl (Nat.le_of_ble_eq_true rfl) (by decide) (r_in1 (lo := 0) (hi := nI n - 1) rfl rfl (not_range (by omega) hm)) rfl ?_
  rintro _ _ ⟨rfl, rfl⟩
  show Go mX12_isName _ _ _ 15 [(0, .ref 189), (1, .int (nI m))] [.int 1] (SK, M, N) _
  exact g_iret dX12_isName_15 rfl (by decide) (⟨rfl, rfl⟩)
set_option maxRecDepth 100000 in
set_option maxHeartbeats 1000000 in
theorem s_isName0 {M : Nat → Nat → Int32} {N : Nat → Nat → Int64} {n : Nat} {v : Int32} (hn : M 190 1 = nI n) (h6 : n ≤ 6) (hv : ∀ m, m < n → v ≠ nI m) : Run mX12_isName 1 0 0 [.ref 189, .int v] (SK, M, N) (fun r h' => h' = (SK, M, N) ∧ r = some (.int 0)) := by
  refine Run.of (by decide) (Nat.le_of_ble_eq_true rfl) ?_
  have hr : v < 0 ∨ nI n - 1 < v := (in_range (v := v) (n := n) (by omega)).resolve_right (fun ⟨m, hm, e⟩ => hv m hm e)
  refine g_iload_n (j := 1) (pc' := 1) dX12_isName_0 rfl rfl ?_
  refine g_i2l (pc' := 2) dX12_isName_1 rfl ?_
  refine g_lconst (v := 0) (pc' := 3) dX12_isName_2 (by decide) rfl ?_
  refine g_aload_n (j := 0) (pc' := 4) dX12_isName_3 rfl rfl ?_
  refine g_getR (pc' := 7) dX12_isName_4 fX12_7 rfl rfl rfl ?_
  refine g_iconst (v := 1) (pc' := 8) dX12_isName_7 (by decide) rfl ?_
  refine g_iald (n := 1) (pc' := 9) dX12_isName_8 rfl rfl (by omega) rfl ?_
  refine g_iconst (v := 1) (pc' := 10) dX12_isName_9 (by decide) rfl ?_
  refine g_isub (pc' := 11) dX12_isName_10 rfl ?_
  refine g_top (y := nI n - 1) (by rw [hn]) ?_
  refine g_i2l (pc' := 12) dX12_isName_11 rfl ?_
  refine g_callS (my := mX12_in) (st := []) (av := [.long (Int32.toInt64 v), .long 0, .long (Int32.toInt64 (nI n - 1))]) (mcr := 0) (msr := 0) (mc := 0) (ms := 0) (pc' := 15) dX12_isName_12 kX12_in wX12_55 rfl (Nat.le_of_ble_eq_true rfl) (by decide) (r_in0 (lo := 0) (hi := nI n - 1) rfl rfl hr) rfl ?_
  rintro _ _ ⟨rfl, rfl⟩
  show Go mX12_isName _ _ _ 15 [(0, .ref 189), (1, .int v)] [.int 0] (SK, M, N) _
  exact g_iret dX12_isName_15 rfl (by decide) (⟨rfl, rfl⟩)
set_option maxRecDepth 100000 in
set_option maxHeartbeats 1000000 in
theorem s_isTwo1 {v : Int32} {h : AH} (hv : ¬ (v < 0 ∨ 1 < v)) : Run mX12_isTwo 1 0 0 [.int v] h (fun r h' => h' = h ∧ r = some (.int 1)) := by
  refine Run.of (by decide) (Nat.le_of_ble_eq_true rfl) ?_
  refine g_iload_n (j := 0) (pc' := 1) dX12_isTwo_0 rfl rfl ?_
  refine g_i2l (pc' := 2) dX12_isTwo_1 rfl ?_
  refine g_lconst (v := 0) (pc' := 3) dX12_isTwo_2 (by decide) rfl ?_
  refine g_lconst (v := 1) (pc' := 4) dX12_isTwo_3 (by decide) rfl ?_
  refine g_callS (my := mX12_in) (st := []) (av := [.long (Int32.toInt64 v), .long 0, .long 1]) (mcr := 0) (msr := 0) (mc := 0) (ms := 0) (pc' := 7) dX12_isTwo_4 kX12_in wX12_55 rfl (Nat.le_of_ble_eq_true rfl) (by decide) (r_in1 (lo := 0) (hi := 1) rfl rfl hv) rfl ?_
  rintro _ _ ⟨rfl, rfl⟩
  exact g_iret dX12_isTwo_7 rfl (by decide) (⟨rfl, rfl⟩)
set_option maxRecDepth 100000 in
set_option maxHeartbeats 1000000 in
theorem s_isTwo0 {v : Int32} {h : AH} (hv : v < 0 ∨ 1 < v) : Run mX12_isTwo 1 0 0 [.int v] h (fun r h' => h' = h ∧ r = some (.int 0)) := by
  refine Run.of (by decide) (Nat.le_of_ble_eq_true rfl) ?_
  refine g_iload_n (j := 0) (pc' := 1) dX12_isTwo_0 rfl rfl ?_
  refine g_i2l (pc' := 2) dX12_isTwo_1 rfl ?_
  refine g_lconst (v := 0) (pc' := 3) dX12_isTwo_2 (by decide) rfl ?_
  refine g_lconst (v := 1) (pc' := 4) dX12_isTwo_3 (by decide) rfl ?_
  refine g_callS (my := mX12_in) (st := []) (av := [.long (Int32.toInt64 v), .long 0, .long 1]) (mcr := 0) (msr := 0) (mc := 0) (ms := 0) (pc' := 7) dX12_isTwo_4 kX12_in wX12_55 rfl (Nat.le_of_ble_eq_true rfl) (by decide) (r_in0 (lo := 0) (hi := 1) rfl rfl hv) rfl ?_
  rintro _ _ ⟨rfl, rfl⟩
  exact g_iret dX12_isTwo_7 rfl (by decide) (⟨rfl, rfl⟩)
theorem cpy2_step {M : Nat → Nat → Int32} {k0 i k1 j t : Nat} (hd : k0 ≠ k1 ∨ i + t < j ∨ j + t ≤ i) : um (cpy2 M k0 i k1 j t) k1 (j + t) (cpy2 M k0 i k1 j t k0 (i + t)) = cpy2 M k0 i k1 j (t + 1) := by
  have h0 : cpy2 M k0 i k1 j t k0 (i + t) = M k0 (i + t) := if_neg (fun q => by omega)
  rw [h0]
  funext a b
  unfold um cpy2
  by_cases e : a = k1 ∧ b = j + t
  · rw [if_pos e, if_pos (by omega), show i + (b - j) = i + t by omega]
  · rw [if_neg e]
    by_cases e2 : a = k1 ∧ j ≤ b ∧ b < j + t
    · rw [if_pos e2, if_pos (by omega)]
    · rw [if_neg e2, if_neg (by omega)]
theorem cpy2_0 {M : Nat → Nat → Int32} {k0 i k1 j : Nat} : cpy2 M k0 i k1 j 0 = M := by
  funext a b
  exact if_neg (fun q => by omega)
set_option maxRecDepth 100000 in
set_option maxHeartbeats 1000000 in
theorem s_copies {M : Nat → Nat → Int32} {N : Nat → Nat → Int64} {k0 i k1 j n : Nat} (hs0 : SK[k0]? = some (100, rep 352)) (hs1 : SK[k1]? = some (100, rep 352)) (hi : i + n ≤ 352) (hj : j + n ≤ 352) (hd : k0 ≠ k1 ∨ i + n ≤ j ∨ j + n ≤ i) : Run mX12_copies 0 0 0 [.ref k0, .int (nI i), .ref k1, .int (nI j), .int (nI n)] (SK, M, N) (fun r h' => h' = (SK, cpy2 M k0 i k1 j n, N) ∧ r = none) := by
  refine Run.of (by decide) (Nat.le_of_ble_eq_true rfl) ?_
  refine g_iconst (v := 0) (pc' := 1) dX12_copies_0 (by decide) rfl ?_
  refine g_istore (L' := [(0, .ref k0), (1, .int (nI i)), (2, .ref k1), (3, .int (nI j)), (4, .int (nI n)), (5, .int 0)]) (pc' := 3) dX12_copies_1 (by decide) rfl rfl ?_
  have loop : ∀ (l t : Nat), t + l = n → Go mX12_copies 0 0 0 3 [(0, .ref k0), (1, .int (nI i)), (2, .ref k1), (3, .int (nI j)), (4, .int (nI n)), (5, .int (nI t))] [] (SK, cpy2 M k0 i k1 j t, N) (fun r h' => h' = (SK, cpy2 M k0 i k1 j n, N) ∧ r = none) := by
    intro l
    induction l with
    | zero =>
      intro t ht
      refine g_iload (j := 5) (pc' := 5) dX12_copies_3 rfl rfl ?_
      refine g_iload (j := 4) (pc' := 7) dX12_copies_5 rfl rfl ?_
      refine g_icmp_ge (tgt := 28) (pc' := 10) dX12_copies_7 (by decide) rfl (fun hc => ?_) (fun hc => (absurd (nI_le (a := n) (b := t) (by omega) (by omega)) hc))
      obtain rfl : t = n := by omega
      exact g_vret dX12_copies_28 rfl (⟨rfl, rfl⟩)
    | succ l ih =>
      intro t ht
      refine g_iload (j := 5) (pc' := 5) dX12_copies_3 rfl rfl ?_
      refine g_iload (j := 4) (pc' := 7) dX12_copies_5 rfl rfl ?_
      refine g_icmp_ge (tgt := 28) (pc' := 10) dX12_copies_7 (by decide) rfl (fun hc => (absurd hc (nI_ge (a := t) (b := n) (by omega) (by omega)))) (fun hc => ?_)
      refine g_aload_n (j := 2) (pc' := 11) dX12_copies_10 rfl rfl ?_
      refine g_iload_n (j := 3) (pc' := 12) dX12_copies_11 rfl rfl ?_
      refine g_iload (j := 5) (pc' := 14) dX12_copies_12 rfl rfl ?_
      refine g_iadd (pc' := 15) dX12_copies_14 rfl ?_
      refine g_aload_n (j := 0) (pc' := 16) dX12_copies_15 rfl rfl ?_
      refine g_iload_n (j := 1) (pc' := 17) dX12_copies_16 rfl rfl ?_
      refine g_iload (j := 5) (pc' := 19) dX12_copies_17 rfl rfl ?_
      refine g_iadd (pc' := 20) dX12_copies_19 rfl ?_
      refine g_iald (n := i + t) (pc' := 21) dX12_copies_20 hs0 (nI_addE rfl rfl) (by omega) rfl ?_
      refine g_iast (n := j + t) (pc' := 22) dX12_copies_21 hs1 (nI_addE rfl rfl) (by omega) rfl ?_
      rw [cpy2_step (by omega)]
      refine g_iinc (j := 5) (v := nI (t + 1)) (L' := [(0, .ref k0), (1, .int (nI i)), (2, .ref k1), (3, .int (nI j)), (4, .int (nI n)), (5, .int (nI (t + 1)))]) (pc' := 25) dX12_copies_22 rfl (nI_1 t) (by decide) rfl rfl ?_
      refine g_goto (tgt := 3) dX12_copies_25 (by decide) ?_
      exact ih (t + 1) (by omega)
  have h9 := loop n 0 (by omega)
  rw [cpy2_0] at h9
  exact h9
set_option maxRecDepth 100000 in
set_option maxHeartbeats 1000000 in
theorem r_offOf {M : Nat → Nat → Int32} {N : Nat → Nat → Int64} {n k c : Nat} {P : Nat → Int32} (hs : SK[c]? = some (100, rep 352)) (hok : OkP n k P) (hP : ∀ j, j < 47 → M c j = P j) {m : Nat} (hm : m < n) (st : Int32) : Run mX12_offOf 0 0 0 [.ref c, .int (nI m), .int st] (SK, M, N) (fun r h' => h' = (SK, M, N) ∧ r = some (.int (offP P st m))) := by
  refine Run.of (by decide) (Nat.le_of_ble_eq_true rfl) ?_
  have hn6 := hok.1
  obtain ⟨-, -, ⟨qo, hqo1, hqo, eqo⟩, -⟩ := hok.2.2.2.2.1 m hm
  refine g_bipush (v := 10) (pc' := 2) dX12_offOf_0 (by decide) rfl ?_
  refine g_aload_n (j := 0) (pc' := 3) dX12_offOf_2 rfl rfl ?_
  refine g_bipush (v := 10) (pc' := 5) dX12_offOf_3 (by decide) rfl ?_
  refine g_iload_n (j := 1) (pc' := 6) dX12_offOf_5 rfl rfl ?_
  refine g_iadd (pc' := 7) dX12_offOf_6 rfl ?_
  refine g_iald (n := 10 + m) (pc' := 8) dX12_offOf_7 hs (nI_addE rfl rfl) (by omega) rfl ?_
  refine g_top (y := P (10 + m)) (hP _ (by omega)) ?_
  refine g_isub (pc' := 9) dX12_offOf_8 rfl ?_
  refine g_iload_n (j := 2) (pc' := 10) dX12_offOf_9 rfl rfl ?_
  refine g_aload_n (j := 0) (pc' := 11) dX12_offOf_10 rfl rfl ?_
  refine g_bipush (v := 16) (pc' := 13) dX12_offOf_11 (by decide) rfl ?_
  refine g_iload_n (j := 1) (pc' := 14) dX12_offOf_13 rfl rfl ?_
  refine g_iadd (pc' := 15) dX12_offOf_14 rfl ?_
  refine g_iald (n := 16 + m) (pc' := 16) dX12_offOf_15 hs (nI_addE rfl rfl) (by omega) rfl ?_
  refine g_top (y := P (16 + m)) (hP _ (by omega)) ?_
  refine g_idiv (pc' := 17) dX12_offOf_16 (by rw [eqo]; exact fun q => absurd ((nI_eq (b := 0) (by omega) (by omega)).mp q) (by omega)) rfl ?_
  refine g_iadd (pc' := 18) dX12_offOf_17 rfl ?_
  refine g_istore_n (L' := [(0, .ref c), (1, .int (nI m)), (2, .int st), (3, .int ((10 - (P (10 + m))) + (st / (P (16 + m)))))]) (pc' := 19) dX12_offOf_18 (by decide) rfl rfl ?_
  refine g_aload_n (j := 0) (pc' := 20) dX12_offOf_19 rfl rfl ?_
  refine g_iconst (v := 4) (pc' := 21) dX12_offOf_20 (by decide) rfl ?_
  refine g_iload_n (j := 1) (pc' := 22) dX12_offOf_21 rfl rfl ?_
  refine g_iadd (pc' := 23) dX12_offOf_22 rfl ?_
  refine g_iald (n := 4 + m) (pc' := 24) dX12_offOf_23 hs (nI_addE rfl rfl) (by omega) rfl ?_
  refine g_top (y := P (4 + m)) (hP _ (by omega)) ?_
  unfold offP offK
  refine g_iconst (v := 4) (pc' := 25) dX12_offOf_24 (by decide) rfl ?_
  refine g_icmp_eq (tgt := 32) (pc' := 28) dX12_offOf_25 (by decide) rfl (fun hc => ?_) (fun hc => ?_)
  · rw [if_pos hc]
    refine g_aload_n (j := 0) (pc' := 33) dX12_offOf_32 rfl rfl ?_
    refine g_iconst (v := 3) (pc' := 34) dX12_offOf_33 (by decide) rfl ?_
    refine g_iald (n := 3) (pc' := 35) dX12_offOf_34 hs rfl (by omega) rfl ?_
    refine g_top (y := P 3) (hP 3 (by omega)) ?_
    refine g_iconst (v := 2) (pc' := 36) dX12_offOf_35 (by decide) rfl ?_
    refine g_irem (pc' := 37) dX12_offOf_36 (by decide) rfl ?_
    refine g_if_ne (tgt := 46) (pc' := 40) dX12_offOf_37 (by decide) rfl (fun hc2 => ?_) (fun hc2 => ?_)
    · rw [if_neg hc2]
      refine g_iload_n (j := 3) (pc' := 47) dX12_offOf_46 rfl rfl ?_
      refine g_iconst (v := 3) (pc' := 48) dX12_offOf_47 (by decide) rfl ?_
      refine g_iadd (pc' := 49) dX12_offOf_48 rfl ?_
      exact g_iret dX12_offOf_49 rfl rfl (⟨rfl, rfl⟩)
    · rw [if_pos hc2]
      refine g_iload_n (j := 3) (pc' := 41) dX12_offOf_40 rfl rfl ?_
      refine g_iconst (v := 5) (pc' := 42) dX12_offOf_41 (by decide) rfl ?_
      refine g_iadd (pc' := 43) dX12_offOf_42 rfl ?_
      refine g_goto (tgt := 49) dX12_offOf_43 (by decide) ?_
      exact g_iret dX12_offOf_49 rfl rfl (⟨rfl, rfl⟩)
  · rw [if_neg hc]
    refine g_iload_n (j := 3) (pc' := 29) dX12_offOf_28 rfl rfl ?_
    refine g_goto (tgt := 49) dX12_offOf_29 (by decide) ?_
    exact g_iret dX12_offOf_49 rfl rfl (⟨rfl, rfl⟩)
set_option maxRecDepth 100000 in
set_option maxHeartbeats 1000000 in
theorem r_valueOf {M : Nat → Nat → Int32} {N : Nat → Nat → Int64} {n k c : Nat} {P : Nat → Int32} (hs : SK[c]? = some (100, rep 352)) (hok : OkP n k P) (hP : ∀ j, j < 47 → M c j = P j) {m i : Nat} (hm : m < n) (hi : i < k) : Run mX12_valueOf 0 0 0 [.ref c, .int (nI m), .int (nI i)] (SK, M, N) (fun r h' => h' = (SK, M, N) ∧ r = some (.int (valP P m i))) := by
  refine Run.of (by decide) (Nat.le_of_ble_eq_true rfl) ?_
  have hn6 := hok.1
  have hk6 := hok.2.1
  obtain ⟨⟨q, hq, eq⟩, -⟩ := hok.2.2.2.2.1 m hm
  refine g_aload_n (j := 0) (pc' := 1) dX12_valueOf_0 rfl rfl ?_
  refine g_bipush (v := 34) (pc' := 3) dX12_valueOf_1 (by decide) rfl ?_
  refine g_iload_n (j := 2) (pc' := 4) dX12_valueOf_3 rfl rfl ?_
  refine g_iadd (pc' := 5) dX12_valueOf_4 rfl ?_
  refine g_iald (n := 34 + i) (pc' := 6) dX12_valueOf_5 hs (nI_addE rfl rfl) (by omega) rfl ?_
  refine g_top (y := P (34 + i)) (hP _ (by omega)) ?_
  refine g_istore_n (L' := [(0, .ref c), (1, .int (nI m)), (2, .int (nI i)), (3, .int (P (34 + i)))]) (pc' := 7) dX12_valueOf_6 (by decide) rfl rfl ?_
  refine g_aload_n (j := 0) (pc' := 8) dX12_valueOf_7 rfl rfl ?_
  refine g_bipush (v := 40) (pc' := 10) dX12_valueOf_8 (by decide) rfl ?_
  refine g_iload_n (j := 2) (pc' := 11) dX12_valueOf_10 rfl rfl ?_
  refine g_iadd (pc' := 12) dX12_valueOf_11 rfl ?_
  refine g_iald (n := 40 + i) (pc' := 13) dX12_valueOf_12 hs (nI_addE rfl rfl) (by omega) rfl ?_
  refine g_top (y := P (40 + i)) (hP _ (by omega)) ?_
  refine g_istore (L' := [(0, .ref c), (1, .int (nI m)), (2, .int (nI i)), (3, .int (P (34 + i))), (4, .int (P (40 + i)))]) (pc' := 15) dX12_valueOf_13 (by decide) rfl rfl ?_
  refine g_aload_n (j := 0) (pc' := 16) dX12_valueOf_15 rfl rfl ?_
  refine g_iconst (v := 4) (pc' := 17) dX12_valueOf_16 (by decide) rfl ?_
  refine g_iload_n (j := 1) (pc' := 18) dX12_valueOf_17 rfl rfl ?_
  refine g_iadd (pc' := 19) dX12_valueOf_18 rfl ?_
  refine g_iald (n := 4 + m) (pc' := 20) dX12_valueOf_19 hs (nI_addE rfl rfl) (by omega) rfl ?_
  refine g_top (y := nI q) ((hP _ (by omega)).trans eq) ?_
  unfold valP
  rw [eq]
  unfold valK
  rcases (show q = 0 ∨ q = 1 ∨ q = 2 ∨ q = 3 ∨ q = 4 by omega) with rfl | rfl | rfl | rfl | rfl
  · refine g_tblOut (tgt := 85) dX12_valueOf_20 (Or.inl (by decide)) (by decide) ?_
    refine g_iload_n (j := 3) (pc' := 86) dX12_valueOf_85 rfl rfl ?_
    refine g_iload (j := 4) (pc' := 88) dX12_valueOf_86 rfl rfl ?_
    refine g_isub (pc' := 89) dX12_valueOf_88 rfl ?_
    exact g_iret dX12_valueOf_89 rfl rfl (⟨rfl, rfl⟩)
  · refine g_tblIn (off := 32) (tgt := 52) dX12_valueOf_20 (by decide) (by decide) (by decide) (by decide) ?_
    refine g_iconst (v := 2) (pc' := 53) dX12_valueOf_52 (by decide) rfl ?_
    refine g_iload_n (j := 3) (pc' := 54) dX12_valueOf_53 rfl rfl ?_
    refine g_imul (pc' := 55) dX12_valueOf_54 rfl ?_
    refine g_iload (j := 4) (pc' := 57) dX12_valueOf_55 rfl rfl ?_
    refine g_isub (pc' := 58) dX12_valueOf_57 rfl ?_
    exact g_iret dX12_valueOf_58 rfl rfl (⟨rfl, rfl⟩)
  · refine g_tblIn (off := 58) (tgt := 78) dX12_valueOf_20 (by decide) (by decide) (by decide) (by decide) ?_
    refine g_iload_n (j := 3) (pc' := 79) dX12_valueOf_78 rfl rfl ?_
    refine g_iconst (v := 2) (pc' := 80) dX12_valueOf_79 (by decide) rfl ?_
    refine g_iload (j := 4) (pc' := 82) dX12_valueOf_80 rfl rfl ?_
    refine g_imul (pc' := 83) dX12_valueOf_82 rfl ?_
    refine g_isub (pc' := 84) dX12_valueOf_83 rfl ?_
    exact g_iret dX12_valueOf_84 rfl rfl (⟨rfl, rfl⟩)
  · refine g_tblIn (off := 39) (tgt := 59) dX12_valueOf_20 (by decide) (by decide) (by decide) (by decide) ?_
    rw [if_neg (by decide), if_pos (by decide)]
    refine g_iconst (v := 2) (pc' := 60) dX12_valueOf_59 (by decide) rfl ?_
    refine g_iload_n (j := 3) (pc' := 61) dX12_valueOf_60 rfl rfl ?_
    refine g_imul (pc' := 62) dX12_valueOf_61 rfl ?_
    refine g_iload (j := 4) (pc' := 64) dX12_valueOf_62 rfl rfl ?_
    refine g_isub (pc' := 65) dX12_valueOf_64 rfl ?_
    refine g_iload_n (j := 1) (pc' := 66) dX12_valueOf_65 rfl rfl ?_
    refine g_iload_n (j := 2) (pc' := 67) dX12_valueOf_66 rfl rfl ?_
    refine g_icmp_ne (tgt := 75) (pc' := 70) dX12_valueOf_67 (by decide) rfl (fun hc => ?_) (fun hc => ?_)
    · rw [decide_eq_false (fun z => hc (congrArg nI z))]
      refine g_iconst (v := 0) (pc' := 76) dX12_valueOf_75 (by decide) rfl ?_
      refine g_iadd (pc' := 77) dX12_valueOf_76 rfl ?_
      exact g_iret dX12_valueOf_77 rfl rfl (⟨rfl, rfl⟩)
    · rw [decide_eq_true ((nI_eq (by omega) (by omega)).mp hc)]
      refine g_bipush (v := 9) (pc' := 72) dX12_valueOf_70 (by decide) rfl ?_
      refine g_goto (tgt := 76) dX12_valueOf_72 (by decide) ?_
      refine g_iadd (pc' := 77) dX12_valueOf_76 rfl ?_
      exact g_iret dX12_valueOf_77 rfl rfl (⟨rfl, rfl⟩)
  · refine g_tblIn (off := 58) (tgt := 78) dX12_valueOf_20 (by decide) (by decide) (by decide) (by decide) ?_
    refine g_iload_n (j := 3) (pc' := 79) dX12_valueOf_78 rfl rfl ?_
    refine g_iconst (v := 2) (pc' := 80) dX12_valueOf_79 (by decide) rfl ?_
    refine g_iload (j := 4) (pc' := 82) dX12_valueOf_80 rfl rfl ?_
    refine g_imul (pc' := 83) dX12_valueOf_82 rfl ?_
    refine g_isub (pc' := 84) dX12_valueOf_83 rfl ?_
    exact g_iret dX12_valueOf_84 rfl rfl (⟨rfl, rfl⟩)
set_option maxRecDepth 100000 in
set_option maxHeartbeats 1000000 in
theorem r_layOff {M : Nat → Nat → Int32} {N : Nat → Nat → Int64} {n k c : Nat} {P : Nat → Int32} (hs : SK[c]? = some (100, rep 352)) (hc8 : c ≠ 198) (hok : OkP n k P) (hP : ∀ j, j < 47 → M c j = P j) (st : Int32) : Run mX12_layOff 1 0 0 [.ref 189, .ref c, .int st] (SK, M, N) (fun r h' => ∃ M', h' = (SK, M', N) ∧ r = none ∧ (∀ m, m < n → M' 198 m = offP P st m) ∧ ∀ a, a ≠ 198 → M' a = M a) := by
  refine Run.of (by decide) (Nat.le_of_ble_eq_true rfl) ?_
  have hn6 := hok.1
  refine g_iconst (v := 0) (pc' := 1) dX12_layOff_0 (by decide) rfl ?_
  refine g_istore_n (L' := [(0, .ref 189), (1, .ref c), (2, .int st), (3, .int 0)]) (pc' := 2) dX12_layOff_1 (by decide) rfl rfl ?_
  have loop : ∀ (l t : Nat) (M1 : Nat → Nat → Int32), t + l = n → (∀ m, m < t → M1 198 m = offP P st m) → (∀ a, a ≠ 198 → M1 a = M a) → Go mX12_layOff 1 0 0 2 [(0, .ref 189), (1, .ref c), (2, .int st), (3, .int (nI t))] [] (SK, M1, N) (fun r h' => ∃ M', h' = (SK, M', N) ∧ r = none ∧ (∀ m, m < n → M' 198 m = offP P st m) ∧ ∀ a, a ≠ 198 → M' a = M a) := by
    intro l
    induction l with
    | zero =>
      intro t M1 ht h1 hf
      have hP1 : ∀ j, j < 47 → M1 c j = P j := fun j hj => by rw [hf c hc8]; exact hP j hj
      refine g_iload_n (j := 3) (pc' := 3) dX12_layOff_2 rfl rfl ?_
      refine g_aload_n (j := 1) (pc' := 4) dX12_layOff_3 rfl rfl ?_
      refine g_iconst (v := 0) (pc' := 5) dX12_layOff_4 (by decide) rfl ?_
      refine g_iald (n := 0) (pc' := 6) dX12_layOff_5 hs rfl (by omega) rfl ?_
      refine g_top (y := nI n) ((hP1 0 (by omega)).trans hok.2.2.1) ?_
      refine g_icmp_ge (tgt := 27) (pc' := 9) dX12_layOff_6 (by decide) rfl (fun hc => ?_) (fun hc => (absurd (nI_le (a := n) (b := t) (by omega) (by omega)) hc))
      obtain rfl : t = n := by omega
      exact g_vret dX12_layOff_27 rfl (⟨M1, rfl, rfl, h1, hf⟩)
    | succ l ih =>
      intro t M1 ht h1 hf
      have hP1 : ∀ j, j < 47 → M1 c j = P j := fun j hj => by rw [hf c hc8]; exact hP j hj
      refine g_iload_n (j := 3) (pc' := 3) dX12_layOff_2 rfl rfl ?_
      refine g_aload_n (j := 1) (pc' := 4) dX12_layOff_3 rfl rfl ?_
      refine g_iconst (v := 0) (pc' := 5) dX12_layOff_4 (by decide) rfl ?_
      refine g_iald (n := 0) (pc' := 6) dX12_layOff_5 hs rfl (by omega) rfl ?_
      refine g_top (y := nI n) ((hP1 0 (by omega)).trans hok.2.2.1) ?_
      refine g_icmp_ge (tgt := 27) (pc' := 9) dX12_layOff_6 (by decide) rfl (fun hc => (absurd hc (nI_ge (a := t) (b := n) (by omega) (by omega)))) (fun hc => ?_)
      refine g_aload_n (j := 0) (pc' := 10) dX12_layOff_9 rfl rfl ?_
      refine g_getR (pc' := 13) dX12_layOff_10 fX12_35 rfl rfl rfl ?_
      refine g_iload_n (j := 3) (pc' := 14) dX12_layOff_13 rfl rfl ?_
      refine g_aload_n (j := 1) (pc' := 15) dX12_layOff_14 rfl rfl ?_
      refine g_iload_n (j := 3) (pc' := 16) dX12_layOff_15 rfl rfl ?_
      refine g_iload_n (j := 2) (pc' := 17) dX12_layOff_16 rfl rfl ?_
      refine g_callS (my := mX12_offOf) (st := [.int (nI t), .ref 198]) (av := [.ref c, .int (nI t), .int st]) (mcr := 0) (msr := 0) (mc := 0) (ms := 0) (pc' := 20) dX12_layOff_17 kX12_offOf wX12_59 rfl (Nat.le_of_ble_eq_true rfl) (by decide) (r_offOf hs hok hP1 (show t < n by omega) st) rfl ?_
      rintro _ _ ⟨rfl, rfl⟩
      show Go mX12_layOff _ _ _ 20 [(0, .ref 189), (1, .ref c), (2, .int st), (3, .int (nI t))] [.int (offP P st t), .int (nI t), .ref 198] (SK, M1, N) _
      refine g_iast (n := t) (pc' := 21) dX12_layOff_20 rfl rfl (by omega) rfl ?_
      generalize hM2 : (um M1 198 t (offP P st t)) = M2
      refine g_iinc (j := 3) (v := nI (t + 1)) (L' := [(0, .ref 189), (1, .ref c), (2, .int st), (3, .int (nI (t + 1)))]) (pc' := 24) dX12_layOff_21 rfl (nI_1 t) (by decide) rfl rfl ?_
      refine g_goto (tgt := 2) dX12_layOff_24 (by decide) ?_
      refine ih (t + 1) M2 (by omega) (fun m hm => ?_) (fun a ha => by rw [← hM2, um_ne ha]; exact hf a ha)
      rw [← hM2]
      by_cases e : m = t
      · subst e; exact um_at
      · rw [um_at2 e]; exact h1 m (by omega)
  exact loop n 0 M (by omega) (fun m hm => absurd hm (by omega)) (fun _ _ => rfl)
