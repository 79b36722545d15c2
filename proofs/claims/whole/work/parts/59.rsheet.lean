theorem cmpL_eq {x y : Int64} : lg_cmp x y = 0 ↔ x = y := by
  unfold lg_cmp
  by_cases h : x > y
  · rw [if_pos h]
    refine ⟨fun q => absurd q (by decide), fun q => ?_⟩
    have h' : y < x := h
    rw [Int64.lt_iff_toInt_lt, q] at h'
    omega
  · rw [if_neg h]
    by_cases e : x = y
    · rw [if_pos e]; exact ⟨fun _ => e, fun _ => rfl⟩
    · rw [if_neg e]; exact ⟨fun q => absurd q (by decide), fun q => absurd q e⟩
theorem sub_toI {a b : Nat} (ha : a < 2 ^ 31) (hb : b < 2 ^ 31) : (nI a - nI b).toInt = (a : Int) - b := by
  rw [Int32.toInt_sub, nI_toInt ha, nI_toInt hb]
  exact Int.bmod_eq_of_le (by omega) (by omega)
theorem fnd_iff {i n : Int32} {ln : Nat} (hl : ln ≤ 24) (hi : ¬ i < 0) (hn : ¬ n < 0) : (0 ≤ i ∧ 0 ≤ n ∧ i ≤ nI ln - n) ↔ ¬ (nI ln).toInt64 < i.toInt64 + n.toInt64 := by
  obtain ⟨q, hq, rfl⟩ := nI_of hi
  obtain ⟨c, hc, rfl⟩ := nI_of hn
  rw [nI_l hq, nI_l hc, nI_l (by omega), lN_add, pk_lLT (by omega) (by omega), Int32.le_iff_toInt_le (x := nI q) (y := nI ln - nI c), sub_toI (by omega) hc, nI_toInt hq]
  constructor
  · rintro ⟨-, -, h⟩; omega
  · intro h; exact ⟨nI_pos' hq, nI_pos' hc, by omega⟩
theorem out4 {v : Int32} (h : ∀ a, a < 4 → v ≠ nI a) : v < 0 ∨ 3 < v := (in_rng (v := v) 3 (by omega)).resolve_right (fun ⟨m, hm, e⟩ => h m (by omega) e)
theorem RQ.sheet {M M' : Nat → Nat → Int32} {N N' : Nat → Nat → Int64} {r : Int32} {y : YS} {kp : Option YS} {tp : List Int32} {sh : Nat → Option (Nat × Nat × (Nat → Int64))} {a : Nat} {s : Option (Nat × Nat × (Nat → Int64))} (h : RI M N (y, kp, tp, sh)) (ha : a < 4) (hs : ShR M' N' a s) (he : ∀ c, c ≠ 195 → c ≠ 196 → ¬ tmpR c → M' c = M c) (h5 : ∀ i, i ≠ a → M' 195 i = M 195 i) (h6 : ∀ i, i ≠ a → M' 196 i = M 196 i) (hn : ∀ c, c ≠ 197 → N' c = N c) (hn7 : ∀ j, (j < 24 * a ∨ 24 * a + 24 ≤ j) → N' 197 j = N 197 j) : RQ M N r (y, kp, tp, upS sh a s) (some (.int r)) (SK, M', N') := by
  obtain ⟨g1, g2, g3, g4⟩ := h
  have e : ∀ c, c ≠ 195 → c ≠ 196 → (c < 191 ∨ (192 < c ∧ c < 198) ∨ 201 < c) → M' c = M c := fun c c5 c6 c7 => he c c5 c6 (by unfold tmpR; omega)
  refine ⟨M', N', rfl, rfl, ⟨g1.keep (e 190 (by omega) (by omega) (by omega)), ?_, ⟨by rw [e 189 (by omega) (by omega) (by omega)]; exact g3.1, fun j x hj => by rw [e 194 (by omega) (by omega) (by omega)]; exact g3.2 j x hj⟩, fun i hi => ?_⟩, fun c hc => ⟨e c (by omega) (by omega) (by omega), hn c (by omega)⟩⟩
  · cases kp with
    | none => show M' 189 4 = 0; rw [e 189 (by omega) (by omega) (by omega)]; exact g2
    | some z => exact ⟨by rw [e 189 (by omega) (by omega) (by omega)]; exact g2.1, g2.2.keep (e 193 (by omega) (by omega) (by omega))⟩
  · show ShR M' N' i (upS sh a s i)
    by_cases ei : i = a
    · subst ei; rw [upS_at]; exact hs
    · rw [upS_ne ei]
      have h9 := g4 i hi
      dsimp only at h9
      cases hB : sh i with
      | none => rw [hB] at h9; show M' 196 i = -1; rw [h6 i ei]; exact h9
      | some z =>
        obtain ⟨la, ln, f⟩ := z
        rw [hB] at h9
        exact ⟨by rw [h6 i ei]; exact h9.1, by rw [h5 i ei]; exact h9.2.1, fun j hj => by rw [hn7 _ (by omega)]; exact h9.2.2 j hj⟩
set_option maxRecDepth 100000 in
set_option maxHeartbeats 1000000 in
theorem s_isSheet1 {v u : Int32} {h : AH} (h1 : ¬ (v < 0 ∨ 3 < v)) (h2 : ¬ (u < 0 ∨ 3 < u)) : Run mX12_isSheet 1 0 0 [.int v, .int u] h (fun r h' => h' = h ∧ r = some (.int 1)) := by
  refine Run.of (by decide) (Nat.le_of_ble_eq_true rfl) ?_
  obtain ⟨sk, M, N⟩ := h
  refine g_iload_n (j := 0) (pc' := 1) dX12_isSheet_0 rfl rfl ?_
  refine g_i2l (pc' := 2) dX12_isSheet_1 rfl ?_
  refine g_lconst (v := 0) (pc' := 3) dX12_isSheet_2 (by decide) rfl ?_
  refine g_ldc2 (v := 3) (pc' := 6) dX12_isSheet_3 qX12_205 rfl ?_
  refine g_callS (my := mX12_in) (st := []) (av := [.long (Int32.toInt64 v), .long 0, .long 3]) (mcr := 0) (msr := 0) (mc := 0) (ms := 0) (pc' := 9) dX12_isSheet_6 kX12_in wX12_55 rfl (Nat.le_of_ble_eq_true rfl) (by decide) (r_in1 (lo := 0) (hi := 3) (by decide) (by decide) h1) rfl ?_
  rintro _ _ ⟨rfl, rfl⟩
  show Go mX12_isSheet _ _ _ 9 [(0, .int v), (1, .int u)] [.int 1] (sk, M, N) _
  refine g_if_eq (tgt := 28) (pc' := 12) dX12_isSheet_9 (by decide) rfl (fun hc => absurd hc (by decide)) (fun _ => ?_)
  refine g_iload_n (j := 1) (pc' := 13) dX12_isSheet_12 rfl rfl ?_
  refine g_i2l (pc' := 14) dX12_isSheet_13 rfl ?_
  refine g_lconst (v := 0) (pc' := 15) dX12_isSheet_14 (by decide) rfl ?_
  refine g_ldc2 (v := 3) (pc' := 18) dX12_isSheet_15 qX12_205 rfl ?_
  refine g_callS (my := mX12_in) (st := []) (av := [.long (Int32.toInt64 u), .long 0, .long 3]) (mcr := 0) (msr := 0) (mc := 0) (ms := 0) (pc' := 21) dX12_isSheet_18 kX12_in wX12_55 rfl (Nat.le_of_ble_eq_true rfl) (by decide) (r_in1 (lo := 0) (hi := 3) (by decide) (by decide) h2) rfl ?_
  rintro _ _ ⟨rfl, rfl⟩
  show Go mX12_isSheet _ _ _ 21 [(0, .int v), (1, .int u)] [.int 1] (sk, M, N) _
  refine g_if_eq (tgt := 28) (pc' := 24) dX12_isSheet_21 (by decide) rfl (fun hc => absurd hc (by decide)) (fun _ => ?_)
  refine g_iconst (v := 1) (pc' := 25) dX12_isSheet_24 (by decide) rfl ?_
  refine g_goto (tgt := 29) dX12_isSheet_25 (by decide) ?_
  exact g_iret dX12_isSheet_29 rfl (by decide) (⟨rfl, rfl⟩)
set_option maxRecDepth 100000 in
set_option maxHeartbeats 1000000 in
theorem s_isSheet0 {v u : Int32} {h : AH} (hv : (v < 0 ∨ 3 < v) ∨ (u < 0 ∨ 3 < u)) : Run mX12_isSheet 1 0 0 [.int v, .int u] h (fun r h' => h' = h ∧ r = some (.int 0)) := by
  refine Run.of (by decide) (Nat.le_of_ble_eq_true rfl) ?_
  obtain ⟨sk, M, N⟩ := h
  refine g_iload_n (j := 0) (pc' := 1) dX12_isSheet_0 rfl rfl ?_
  refine g_i2l (pc' := 2) dX12_isSheet_1 rfl ?_
  refine g_lconst (v := 0) (pc' := 3) dX12_isSheet_2 (by decide) rfl ?_
  refine g_ldc2 (v := 3) (pc' := 6) dX12_isSheet_3 qX12_205 rfl ?_
  refine g_callS (my := mX12_in) (st := []) (av := [.long (Int32.toInt64 v), .long 0, .long 3]) (mcr := 0) (msr := 0) (mc := 0) (ms := 0) (pc' := 9) dX12_isSheet_6 kX12_in wX12_55 rfl (Nat.le_of_ble_eq_true rfl) (by decide) (s_in v 0 3 (sk, M, N)) rfl ?_
  rintro _ _ ⟨rfl, rfl⟩
  show Go mX12_isSheet _ _ _ 9 [(0, .int v), (1, .int u)] [.int (if v < 0 ∨ 3 < v then 0 else 1)] (sk, M, N) _
  by_cases h1 : v < 0 ∨ 3 < v
  · rw [if_pos h1]
    refine g_if_eq (tgt := 28) (pc' := 12) dX12_isSheet_9 (by decide) rfl (fun _ => ?_) (fun hc => absurd rfl hc)
    refine g_iconst (v := 0) (pc' := 29) dX12_isSheet_28 (by decide) rfl ?_
    exact g_iret dX12_isSheet_29 rfl (by decide) (⟨rfl, rfl⟩)
  · rw [if_neg h1]
    refine g_if_eq (tgt := 28) (pc' := 12) dX12_isSheet_9 (by decide) rfl (fun hc => absurd hc (by decide)) (fun _ => ?_)
    refine g_iload_n (j := 1) (pc' := 13) dX12_isSheet_12 rfl rfl ?_
    refine g_i2l (pc' := 14) dX12_isSheet_13 rfl ?_
    refine g_lconst (v := 0) (pc' := 15) dX12_isSheet_14 (by decide) rfl ?_
    refine g_ldc2 (v := 3) (pc' := 18) dX12_isSheet_15 qX12_205 rfl ?_
    refine g_callS (my := mX12_in) (st := []) (av := [.long (Int32.toInt64 u), .long 0, .long 3]) (mcr := 0) (msr := 0) (mc := 0) (ms := 0) (pc' := 21) dX12_isSheet_18 kX12_in wX12_55 rfl (Nat.le_of_ble_eq_true rfl) (by decide) (r_in0 (lo := 0) (hi := 3) (by decide) (by decide) (hv.resolve_left h1)) rfl ?_
    rintro _ _ ⟨rfl, rfl⟩
    show Go mX12_isSheet _ _ _ 21 [(0, .int v), (1, .int u)] [.int 0] (sk, M, N) _
    refine g_if_eq (tgt := 28) (pc' := 24) dX12_isSheet_21 (by decide) rfl (fun _ => ?_) (fun hc => absurd rfl hc)
    refine g_iconst (v := 0) (pc' := 29) dX12_isSheet_28 (by decide) rfl ?_
    exact g_iret dX12_isSheet_29 rfl (by decide) (⟨rfl, rfl⟩)
set_option maxRecDepth 100000 in
set_option maxHeartbeats 1000000 in
theorem s_told (v : Int32) (h : AH) : Run mX12_told 0 0 0 [.int v] h (fun r h' => h' = h ∧ r = some (.int (unN v))) := by
  refine Run.of (by decide) (Nat.le_of_ble_eq_true rfl) ?_
  obtain ⟨sk, M, N⟩ := h
  refine g_iload_n (j := 0) (pc' := 1) dX12_told_0 rfl rfl ?_
  refine g_bipush (v := (-4)) (pc' := 3) dX12_told_1 (by decide) rfl ?_
  refine g_icmp_ne (tgt := 10) (pc' := 6) dX12_told_3 (by decide) rfl (fun hc5 => ?_) (fun hc5 => ?_)
  · rw [show unN v = v by unfold unN; rw [if_neg hc5]]
    refine g_iload_n (j := 0) (pc' := 11) dX12_told_10 rfl rfl ?_
    exact g_iret dX12_told_11 rfl rfl (⟨rfl, rfl⟩)
  · rw [show unN v = -1 by unfold unN; rw [if_pos hc5]]
    refine g_iconst (v := (-1)) (pc' := 7) dX12_told_6 (by decide) rfl ?_
    refine g_goto (tgt := 11) dX12_told_7 (by decide) ?_
    exact g_iret dX12_told_11 rfl rfl (⟨rfl, rfl⟩)
set_option maxRecDepth 100000 in
set_option maxHeartbeats 1000000 in
theorem s_cut (b : Int32) (v : Int64) (h : AH) : Run mX12_cut 0 0 0 [.int b, .long v] h (fun r h' => h' = h ∧ r = some (.long (cutL b v))) := by
  refine Run.of (by decide) (Nat.le_of_ble_eq_true rfl) ?_
  obtain ⟨sk, M, N⟩ := h
  unfold cutL
  refine g_iload_n (j := 0) (pc' := 1) dX12_cut_0 rfl rfl ?_
  refine g_if_ne (tgt := 11) (pc' := 4) dX12_cut_1 (by decide) rfl (fun hc5 => ?_) (fun hc5 => ?_)
  · rw [if_neg hc5]
    refine g_iload_n (j := 0) (pc' := 12) dX12_cut_11 rfl rfl ?_
    refine g_iconst (v := 1) (pc' := 13) dX12_cut_12 (by decide) rfl ?_
    refine g_icmp_ne (tgt := 23) (pc' := 16) dX12_cut_13 (by decide) rfl (fun hc6 => ?_) (fun hc6 => ?_)
    · rw [if_neg hc6]
      refine g_iload_n (j := 0) (pc' := 24) dX12_cut_23 rfl rfl ?_
      refine g_iconst (v := 2) (pc' := 25) dX12_cut_24 (by decide) rfl ?_
      refine g_icmp_ne (tgt := 34) (pc' := 28) dX12_cut_25 (by decide) rfl (fun hc7 => ?_) (fun hc7 => ?_)
      · rw [if_neg hc7]
        refine g_lload_n (j := 1) (pc' := 35) dX12_cut_34 rfl rfl ?_
        exact g_lret dX12_cut_35 rfl (⟨rfl, rfl⟩)
      · rw [if_pos hc7]
        refine g_lload_n (j := 1) (pc' := 29) dX12_cut_28 rfl rfl ?_
        refine g_l2i (pc' := 30) dX12_cut_29 rfl ?_
        refine g_i2l (pc' := 31) dX12_cut_30 rfl ?_
        refine g_goto (tgt := 35) dX12_cut_31 (by decide) ?_
        exact g_lret dX12_cut_35 rfl (⟨rfl, rfl⟩)
    · rw [if_pos hc6]
      refine g_lload_n (j := 1) (pc' := 17) dX12_cut_16 rfl rfl ?_
      refine g_l2i (pc' := 18) dX12_cut_17 rfl ?_
      refine g_i2s (pc' := 19) dX12_cut_18 rfl ?_
      refine g_i2l (pc' := 20) dX12_cut_19 rfl ?_
      refine g_goto (tgt := 35) dX12_cut_20 (by decide) ?_
      exact g_lret dX12_cut_35 rfl (⟨rfl, rfl⟩)
  · rw [if_pos hc5]
    refine g_lload_n (j := 1) (pc' := 5) dX12_cut_4 rfl rfl ?_
    refine g_l2i (pc' := 6) dX12_cut_5 rfl ?_
    refine g_i2b (pc' := 7) dX12_cut_6 rfl ?_
    refine g_i2l (pc' := 8) dX12_cut_7 rfl ?_
    refine g_goto (tgt := 35) dX12_cut_8 (by decide) ?_
    exact g_lret dX12_cut_35 rfl (⟨rfl, rfl⟩)
set_option maxRecDepth 100000 in
set_option maxHeartbeats 1000000 in
theorem r_found {M : Nat → Nat → Int32} {N : Nat → Nat → Int64} {A : AS} (hA : AOk A) (hI : RI M N A) {a b : Nat} (ha : a < 4) (hb : b < 4) (i : Int32) {n : Int32} (hn : ¬ n < 0) : Run mX12_found 0 0 0 [.ref 189, .int (nI a), .int (nI b), .int i, .int n] (SK, M, N) (fun r h' => h' = (SK, M, N) ∧ r = some (.int (wrS (A.2.2.2 a) b i n))) := by
  refine Run.of (by decide) (Nat.le_of_ble_eq_true rfl) ?_
  have hsh := hI.2.2.2 a ha
  cases hs : A.2.2.2 a with
  | none =>
    rw [hs] at hsh
    have h6 : M 196 a = -1 := hsh
    refine g_aload_n (j := 0) (pc' := 1) dX12_found_0 rfl rfl ?_
    refine g_getR (pc' := 4) dX12_found_1 fX12_28 rfl rfl rfl ?_
    refine g_iload_n (j := 1) (pc' := 5) dX12_found_4 rfl rfl ?_
    refine g_iald (n := a) (pc' := 6) dX12_found_5 rfl rfl (by omega) rfl ?_
    refine g_top (y := (-1)) (h6) ?_
    refine g_if_ge (tgt := 12) (pc' := 9) dX12_found_6 (by decide) rfl (fun hc => (absurd hc (by decide))) (fun hc => ?_)
    refine g_bipush (v := (-11)) (pc' := 11) dX12_found_9 (by decide) rfl ?_
    exact g_iret dX12_found_11 rfl rfl (⟨rfl, rfl⟩)
  | some z =>
    obtain ⟨la, ln, f⟩ := z
    rw [hs] at hsh
    obtain ⟨h6, h5, -⟩ := hsh
    obtain ⟨hla, hln⟩ := hA.2.2.2 a ha la ln f hs
    refine g_aload_n (j := 0) (pc' := 1) dX12_found_0 rfl rfl ?_
    refine g_getR (pc' := 4) dX12_found_1 fX12_28 rfl rfl rfl ?_
    refine g_iload_n (j := 1) (pc' := 5) dX12_found_4 rfl rfl ?_
    refine g_iald (n := a) (pc' := 6) dX12_found_5 rfl rfl (by omega) rfl ?_
    refine g_top (y := nI ln) (h6) ?_
    refine g_if_ge (tgt := 12) (pc' := 9) dX12_found_6 (by decide) rfl (fun hc => ?_) (fun hc => (absurd (nI_pos' (by omega)) hc))
    refine g_aload_n (j := 0) (pc' := 13) dX12_found_12 rfl rfl ?_
    refine g_getR (pc' := 16) dX12_found_13 fX12_25 rfl rfl rfl ?_
    refine g_iload_n (j := 1) (pc' := 17) dX12_found_16 rfl rfl ?_
    refine g_iald (n := a) (pc' := 18) dX12_found_17 rfl rfl (by omega) rfl ?_
    refine g_top (y := nI la) (h5) ?_
    refine g_iload_n (j := 2) (pc' := 19) dX12_found_18 rfl rfl ?_
    refine g_icmp_eq (tgt := 25) (pc' := 22) dX12_found_19 (by decide) rfl (fun hc5 => ?_) (fun hc5 => ?_)
    · obtain rfl : la = b := (nI_eq (by omega) (by omega)).mp hc5
      refine g_iload_n (j := 3) (pc' := 26) dX12_found_25 rfl rfl ?_
      refine g_if_lt (tgt := 46) (pc' := 29) dX12_found_26 (by decide) rfl (fun hc6 => ?_) (fun hc6 => ?_)
      · rw [show wrS (some (la, ln, f)) la i n = -13 by unfold wrS; simp only; rw [if_neg (fun q => q rfl), if_neg (fun q => absurd hc6 (Int32.not_lt.mpr q.1))]]
        refine g_bipush (v := (-13)) (pc' := 48) dX12_found_46 (by decide) rfl ?_
        refine g_goto (tgt := 52) dX12_found_48 (by decide) ?_
        exact g_iret dX12_found_52 rfl rfl (⟨rfl, rfl⟩)
      · have hff := fnd_iff (ln := ln) hln hc6 hn
        refine g_iload_n (j := 3) (pc' := 30) dX12_found_29 rfl rfl ?_
        refine g_i2l (pc' := 31) dX12_found_30 rfl ?_
        refine g_iload (j := 4) (pc' := 33) dX12_found_31 rfl rfl ?_
        refine g_i2l (pc' := 34) dX12_found_33 rfl ?_
        refine g_ladd (pc' := 35) dX12_found_34 rfl ?_
        refine g_aload_n (j := 0) (pc' := 36) dX12_found_35 rfl rfl ?_
        refine g_getR (pc' := 39) dX12_found_36 fX12_28 rfl rfl rfl ?_
        refine g_iload_n (j := 1) (pc' := 40) dX12_found_39 rfl rfl ?_
        refine g_iald (n := a) (pc' := 41) dX12_found_40 rfl rfl (by omega) rfl ?_
        refine g_top (y := nI ln) (h6) ?_
        refine g_i2l (pc' := 42) dX12_found_41 rfl ?_
        refine g_lcmp (pc' := 43) dX12_found_42 rfl ?_
        refine g_if_le (tgt := 51) (pc' := 46) dX12_found_43 (by decide) rfl (fun hc7 => ?_) (fun hc7 => ?_)
        · have hq := hff.mpr (fun q => absurd (cmpL_gt.mpr q) (Int32.not_lt.mpr hc7))
          rw [show wrS (some (la, ln, f)) la i n = 0 by unfold wrS; simp only; rw [if_neg (fun q => q rfl), if_pos hq]]
          refine g_iconst (v := 0) (pc' := 52) dX12_found_51 (by decide) rfl ?_
          exact g_iret dX12_found_52 rfl rfl (⟨rfl, rfl⟩)
        · have hq : ¬ (0 ≤ i ∧ 0 ≤ n ∧ i ≤ nI ln - n) := fun q => absurd (cmpL_gt.mp (Int32.not_le.mp hc7)) (hff.mp q)
          rw [show wrS (some (la, ln, f)) la i n = -13 by unfold wrS; simp only; rw [if_neg (fun q => q rfl), if_neg hq]]
          refine g_bipush (v := (-13)) (pc' := 48) dX12_found_46 (by decide) rfl ?_
          refine g_goto (tgt := 52) dX12_found_48 (by decide) ?_
          exact g_iret dX12_found_52 rfl rfl (⟨rfl, rfl⟩)
    · rw [show wrS (some (la, ln, f)) b i n = -12 by unfold wrS; simp only; rw [if_pos (fun q => hc5 (by rw [q]))]]
      refine g_bipush (v := (-12)) (pc' := 24) dX12_found_22 (by decide) rfl ?_
      exact g_iret dX12_found_24 rfl rfl (⟨rfl, rfl⟩)
set_option maxRecDepth 100000 in
set_option maxHeartbeats 1000000 in
theorem r_sheet_b1 {M : Nat → Nat → Int32} {N : Nat → Nat → Int64} {n k : Nat} {P : Nat → Int32} {pa : List (Nat → Int32)} {kp : Option YS} {tp : List Int32} {sh : Nat → Option (Nat × Nat × (Nat → Int64))} (hA : AOk ((n, k, P, pa), kp, tp, sh)) (hI : RI M N ((n, k, P, pa), kp, tp, sh)) {v : Int32} (u z : Int32) (h1 : v < 0 ∨ 3 < v) : Run mX12_sheet 30 0 0 [.ref 189, .int v, .int u, .int z] (SK, M, N) (RQ M N (-1) ((n, k, P, pa), kp, tp, sh)) := by
  refine Run.of (by decide) (Nat.le_of_ble_eq_true rfl) ?_
  have hok : OkP n k P := hA.1.1.1
  have hP : ∀ j, j < 47 → M 190 j = P j := hI.1.1
  have hn6 := hok.1
  have hk6 := hok.2.1
  have hn : M 190 0 = nI n := (hP 0 (by omega)).trans hok.2.2.1
  have hk : M 190 1 = nI k := (hP 1 (by omega)).trans hok.2.2.2.1
  refine g_iload_n (j := 1) (pc' := 1) dX12_sheet_0 rfl rfl ?_
  refine g_iload_n (j := 2) (pc' := 2) dX12_sheet_1 rfl rfl ?_
  refine g_callS (my := mX12_isSheet) (st := []) (av := [.int v, .int u]) (mcr := 0) (msr := 0) (mc := 0) (ms := 0) (pc' := 5) dX12_sheet_2 kX12_isSheet wX12_207 rfl (Nat.le_of_ble_eq_true rfl) (by decide) (s_isSheet0 (Or.inl h1)) rfl ?_
  rintro _ _ ⟨rfl, rfl⟩
  show Go mX12_sheet _ _ _ 5 [(0, .ref 189), (1, .int v), (2, .int u), (3, .int z)] [.int 0] (SK, M, N) _
  refine g_if_eq (tgt := 14) (pc' := 8) dX12_sheet_5 (by decide) rfl (fun _ => ?_) (fun hc => absurd rfl hc)
  refine g_iconst (v := (-1)) (pc' := 15) dX12_sheet_14 (by decide) rfl ?_
  exact g_iret dX12_sheet_15 rfl rfl (RQ.same hI)
set_option maxRecDepth 100000 in
set_option maxHeartbeats 1000000 in
theorem r_sheet_b2 {M : Nat → Nat → Int32} {N : Nat → Nat → Int64} {n k : Nat} {P : Nat → Int32} {pa : List (Nat → Int32)} {kp : Option YS} {tp : List Int32} {sh : Nat → Option (Nat × Nat × (Nat → Int64))} (hA : AOk ((n, k, P, pa), kp, tp, sh)) (hI : RI M N ((n, k, P, pa), kp, tp, sh)) {v u : Int32} (z : Int32) (h1 : ¬ (v < 0 ∨ 3 < v)) (h2 : u < 0 ∨ 3 < u) : Run mX12_sheet 30 0 0 [.ref 189, .int v, .int u, .int z] (SK, M, N) (RQ M N (-1) ((n, k, P, pa), kp, tp, sh)) := by
  refine Run.of (by decide) (Nat.le_of_ble_eq_true rfl) ?_
  have hok : OkP n k P := hA.1.1.1
  have hP : ∀ j, j < 47 → M 190 j = P j := hI.1.1
  have hn6 := hok.1
  have hk6 := hok.2.1
  have hn : M 190 0 = nI n := (hP 0 (by omega)).trans hok.2.2.1
  have hk : M 190 1 = nI k := (hP 1 (by omega)).trans hok.2.2.2.1
  refine g_iload_n (j := 1) (pc' := 1) dX12_sheet_0 rfl rfl ?_
  refine g_iload_n (j := 2) (pc' := 2) dX12_sheet_1 rfl rfl ?_
  refine g_callS (my := mX12_isSheet) (st := []) (av := [.int v, .int u]) (mcr := 0) (msr := 0) (mc := 0) (ms := 0) (pc' := 5) dX12_sheet_2 kX12_isSheet wX12_207 rfl (Nat.le_of_ble_eq_true rfl) (by decide) (s_isSheet0 (Or.inr h2)) rfl ?_
  rintro _ _ ⟨rfl, rfl⟩
  show Go mX12_sheet _ _ _ 5 [(0, .ref 189), (1, .int v), (2, .int u), (3, .int z)] [.int 0] (SK, M, N) _
  refine g_if_eq (tgt := 14) (pc' := 8) dX12_sheet_5 (by decide) rfl (fun _ => ?_) (fun hc => absurd rfl hc)
  refine g_iconst (v := (-1)) (pc' := 15) dX12_sheet_14 (by decide) rfl ?_
  exact g_iret dX12_sheet_15 rfl rfl (RQ.same hI)
set_option maxRecDepth 100000 in
set_option maxHeartbeats 1000000 in
theorem r_sheet_b3 {M : Nat → Nat → Int32} {N : Nat → Nat → Int64} {n k : Nat} {P : Nat → Int32} {pa : List (Nat → Int32)} {kp : Option YS} {tp : List Int32} {sh : Nat → Option (Nat × Nat × (Nat → Int64))} (hA : AOk ((n, k, P, pa), kp, tp, sh)) (hI : RI M N ((n, k, P, pa), kp, tp, sh)) {v u z : Int32} (h1 : ¬ (v < 0 ∨ 3 < v)) (h2 : ¬ (u < 0 ∨ 3 < u)) (h3 : 24 < z) : Run mX12_sheet 30 0 0 [.ref 189, .int v, .int u, .int z] (SK, M, N) (RQ M N (-1) ((n, k, P, pa), kp, tp, sh)) := by
  refine Run.of (by decide) (Nat.le_of_ble_eq_true rfl) ?_
  have hok : OkP n k P := hA.1.1.1
  have hP : ∀ j, j < 47 → M 190 j = P j := hI.1.1
  have hn6 := hok.1
  have hk6 := hok.2.1
  have hn : M 190 0 = nI n := (hP 0 (by omega)).trans hok.2.2.1
  have hk : M 190 1 = nI k := (hP 1 (by omega)).trans hok.2.2.2.1
  refine g_iload_n (j := 1) (pc' := 1) dX12_sheet_0 rfl rfl ?_
  refine g_iload_n (j := 2) (pc' := 2) dX12_sheet_1 rfl rfl ?_
  refine g_callS (my := mX12_isSheet) (st := []) (av := [.int v, .int u]) (mcr := 0) (msr := 0) (mc := 0) (ms := 0) (pc' := 5) dX12_sheet_2 kX12_isSheet wX12_207 rfl (Nat.le_of_ble_eq_true rfl) (by decide) (s_isSheet1 h1 h2) rfl ?_
  rintro _ _ ⟨rfl, rfl⟩
  show Go mX12_sheet _ _ _ 5 [(0, .ref 189), (1, .int v), (2, .int u), (3, .int z)] [.int 1] (SK, M, N) _
  refine g_if_eq (tgt := 14) (pc' := 8) dX12_sheet_5 (by decide) rfl (fun hc => absurd hc (by decide)) (fun _ => ?_)
  refine g_iload_n (j := 3) (pc' := 9) dX12_sheet_8 rfl rfl ?_
  refine g_bipush (v := 24) (pc' := 11) dX12_sheet_9 (by decide) rfl ?_
  refine g_icmp_le (tgt := 16) (pc' := 14) dX12_sheet_11 (by decide) rfl (fun hc => (absurd h3 (Int32.not_lt.mpr hc))) (fun hc => ?_)
  refine g_iconst (v := (-1)) (pc' := 15) dX12_sheet_14 (by decide) rfl ?_
  exact g_iret dX12_sheet_15 rfl rfl (RQ.same hI)
set_option maxRecDepth 100000 in
set_option maxHeartbeats 1000000 in
theorem r_sheet_s {M : Nat → Nat → Int32} {N : Nat → Nat → Int64} {n k : Nat} {P : Nat → Int32} {pa : List (Nat → Int32)} {kp : Option YS} {tp : List Int32} {sh : Nat → Option (Nat × Nat × (Nat → Int64))} (hA : AOk ((n, k, P, pa), kp, tp, sh)) (hI : RI M N ((n, k, P, pa), kp, tp, sh)) {v u z : Int32} (h1 : ¬ (v < 0 ∨ 3 < v)) (h2 : ¬ (u < 0 ∨ 3 < u)) (h3 : ¬ 24 < z) (h4 : z < 0) : Run mX12_sheet 30 0 0 [.ref 189, .int v, .int u, .int z] (SK, M, N) (RQ M N (-14) ((n, k, P, pa), kp, tp, sh)) := by
  refine Run.of (by decide) (Nat.le_of_ble_eq_true rfl) ?_
  have hok : OkP n k P := hA.1.1.1
  have hP : ∀ j, j < 47 → M 190 j = P j := hI.1.1
  have hn6 := hok.1
  have hk6 := hok.2.1
  have hn : M 190 0 = nI n := (hP 0 (by omega)).trans hok.2.2.1
  have hk : M 190 1 = nI k := (hP 1 (by omega)).trans hok.2.2.2.1
  refine g_iload_n (j := 1) (pc' := 1) dX12_sheet_0 rfl rfl ?_
  refine g_iload_n (j := 2) (pc' := 2) dX12_sheet_1 rfl rfl ?_
  refine g_callS (my := mX12_isSheet) (st := []) (av := [.int v, .int u]) (mcr := 0) (msr := 0) (mc := 0) (ms := 0) (pc' := 5) dX12_sheet_2 kX12_isSheet wX12_207 rfl (Nat.le_of_ble_eq_true rfl) (by decide) (s_isSheet1 h1 h2) rfl ?_
  rintro _ _ ⟨rfl, rfl⟩
  show Go mX12_sheet _ _ _ 5 [(0, .ref 189), (1, .int v), (2, .int u), (3, .int z)] [.int 1] (SK, M, N) _
  refine g_if_eq (tgt := 14) (pc' := 8) dX12_sheet_5 (by decide) rfl (fun hc => absurd hc (by decide)) (fun _ => ?_)
  refine g_iload_n (j := 3) (pc' := 9) dX12_sheet_8 rfl rfl ?_
  refine g_bipush (v := 24) (pc' := 11) dX12_sheet_9 (by decide) rfl ?_
  refine g_icmp_le (tgt := 16) (pc' := 14) dX12_sheet_11 (by decide) rfl (fun hc => ?_) (fun hc => (absurd (Int32.not_lt.mp h3) hc))
  refine g_iload_n (j := 3) (pc' := 17) dX12_sheet_16 rfl rfl ?_
  refine g_if_ge (tgt := 23) (pc' := 20) dX12_sheet_17 (by decide) rfl (fun hc => (absurd h4 (Int32.not_lt.mpr hc))) (fun hc => ?_)
  refine g_bipush (v := (-14)) (pc' := 22) dX12_sheet_20 (by decide) rfl ?_
  exact g_iret dX12_sheet_22 rfl rfl (RQ.same hI)
set_option maxRecDepth 100000 in
set_option maxHeartbeats 1000000 in
theorem r_sheet {M : Nat → Nat → Int32} {N : Nat → Nat → Int64} {n k : Nat} {P : Nat → Int32} {pa : List (Nat → Int32)} {kp : Option YS} {tp : List Int32} {sh : Nat → Option (Nat × Nat × (Nat → Int64))} (hA : AOk ((n, k, P, pa), kp, tp, sh)) (hI : RI M N ((n, k, P, pa), kp, tp, sh)) {a b q : Nat} (ha : a < 4) (hb : b < 4) (hq : q ≤ 24) : Run mX12_sheet 30 0 0 [.ref 189, .int (nI a), .int (nI b), .int (nI q)] (SK, M, N) (RQ M N (nI q) ((n, k, P, pa), kp, tp, upS sh a (some (b, q, fun _ => 0)))) := by
  refine Run.of (by decide) (Nat.le_of_ble_eq_true rfl) ?_
  have hok : OkP n k P := hA.1.1.1
  have hP : ∀ j, j < 47 → M 190 j = P j := hI.1.1
  have hn6 := hok.1
  have hk6 := hok.2.1
  have hn : M 190 0 = nI n := (hP 0 (by omega)).trans hok.2.2.1
  have hk : M 190 1 = nI k := (hP 1 (by omega)).trans hok.2.2.2.1
  refine g_iload_n (j := 1) (pc' := 1) dX12_sheet_0 rfl rfl ?_
  refine g_iload_n (j := 2) (pc' := 2) dX12_sheet_1 rfl rfl ?_
  refine g_callS (my := mX12_isSheet) (st := []) (av := [.int (nI a), .int (nI b)]) (mcr := 0) (msr := 0) (mc := 0) (ms := 0) (pc' := 5) dX12_sheet_2 kX12_isSheet wX12_207 rfl (Nat.le_of_ble_eq_true rfl) (by decide) (s_isSheet1 (not_rng (hi := 3) (by omega) (by omega)) (not_rng (hi := 3) (by omega) (by omega))) rfl ?_
  rintro _ _ ⟨rfl, rfl⟩
  show Go mX12_sheet _ _ _ 5 [(0, .ref 189), (1, .int (nI a)), (2, .int (nI b)), (3, .int (nI q))] [.int 1] (SK, M, N) _
  refine g_if_eq (tgt := 14) (pc' := 8) dX12_sheet_5 (by decide) rfl (fun hc => absurd hc (by decide)) (fun _ => ?_)
  refine g_iload_n (j := 3) (pc' := 9) dX12_sheet_8 rfl rfl ?_
  refine g_bipush (v := 24) (pc' := 11) dX12_sheet_9 (by decide) rfl ?_
  refine g_icmp_le (tgt := 16) (pc' := 14) dX12_sheet_11 (by decide) rfl (fun hc => ?_) (fun hc => (absurd (nI_le (a := q) (b := 24) hq (by omega)) hc))
  refine g_iload_n (j := 3) (pc' := 17) dX12_sheet_16 rfl rfl ?_
  refine g_if_ge (tgt := 23) (pc' := 20) dX12_sheet_17 (by decide) rfl (fun hc => ?_) (fun hc => (absurd (nI_pos' (by omega)) hc))
  refine g_aload_n (j := 0) (pc' := 24) dX12_sheet_23 rfl rfl ?_
  refine g_getR (pc' := 27) dX12_sheet_24 fX12_28 rfl rfl rfl ?_
  refine g_iload_n (j := 1) (pc' := 28) dX12_sheet_27 rfl rfl ?_
  refine g_iload_n (j := 3) (pc' := 29) dX12_sheet_28 rfl rfl ?_
  refine g_iast (n := a) (pc' := 30) dX12_sheet_29 rfl rfl (by omega) rfl ?_
  refine g_aload_n (j := 0) (pc' := 31) dX12_sheet_30 rfl rfl ?_
  refine g_getR (pc' := 34) dX12_sheet_31 fX12_25 rfl rfl rfl ?_
  refine g_iload_n (j := 1) (pc' := 35) dX12_sheet_34 rfl rfl ?_
  refine g_iload_n (j := 2) (pc' := 36) dX12_sheet_35 rfl rfl ?_
  refine g_iast (n := a) (pc' := 37) dX12_sheet_36 rfl rfl (by omega) rfl ?_
  refine g_iconst (v := 0) (pc' := 38) dX12_sheet_37 (by decide) rfl ?_
  refine g_istore (L' := [(0, .ref 189), (1, .int (nI a)), (2, .int (nI b)), (3, .int (nI q)), (4, .int 0)]) (pc' := 40) dX12_sheet_38 (by decide) rfl rfl ?_
  generalize hM1 : (um (um M 196 a (nI q)) 195 a (nI b)) = M1
  have loop : ∀ (u j : Nat) (N1 : Nat → Nat → Int64), j + u = 24 → (∀ x, x < j → N1 197 (24 * a + x) = 0) → (∀ x, (x < 24 * a ∨ 24 * a + 24 ≤ x) → N1 197 x = N 197 x) → (∀ c, c ≠ 197 → N1 c = N c) → Go mX12_sheet 30 0 0 40 [(0, .ref 189), (1, .int (nI a)), (2, .int (nI b)), (3, .int (nI q)), (4, .int (nI j))] [] (SK, M1, N1) (RQ M N (nI q) ((n, k, P, pa), kp, tp, upS sh a (some (b, q, fun _ => 0)))) := by
    intro u
    induction u with
    | zero =>
      intro j N1 hj h0 h7 hc7
      refine g_iload (j := 4) (pc' := 42) dX12_sheet_40 rfl rfl ?_
      refine g_bipush (v := 24) (pc' := 44) dX12_sheet_42 (by decide) rfl ?_
      refine g_icmp_ge (tgt := 66) (pc' := 47) dX12_sheet_44 (by decide) rfl (fun hc => ?_) (fun hc => (absurd (nI_le (a := 24) (b := j) (by omega) (by omega)) hc))
      refine g_iload_n (j := 3) (pc' := 67) dX12_sheet_66 rfl rfl ?_
      exact g_iret dX12_sheet_67 rfl rfl (RQ.sheet hI ha ⟨by rw [← hM1, um_ne (by omega), um_at], by rw [← hM1, um_at], fun j9 hj9 => h0 j9 (by omega)⟩ (fun c c5 c6 _ => by rw [← hM1, um_ne c5, um_ne c6]) (fun i hi => by rw [← hM1, um_at2 hi, um_ne (by omega)]) (fun i hi => by rw [← hM1, um_ne (by omega), um_at2 hi]) hc7 h7)
    | succ u ih =>
      intro j N1 hj h0 h7 hc7
      refine g_iload (j := 4) (pc' := 42) dX12_sheet_40 rfl rfl ?_
      refine g_bipush (v := 24) (pc' := 44) dX12_sheet_42 (by decide) rfl ?_
      refine g_icmp_ge (tgt := 66) (pc' := 47) dX12_sheet_44 (by decide) rfl (fun hc => (absurd hc (nI_ge (a := j) (b := 24) (by omega) (by omega)))) (fun hc => ?_)
      refine g_aload_n (j := 0) (pc' := 48) dX12_sheet_47 rfl rfl ?_
      refine g_getR (pc' := 51) dX12_sheet_48 fX12_31 rfl rfl rfl ?_
      refine g_bipush (v := 24) (pc' := 53) dX12_sheet_51 (by decide) rfl ?_
      refine g_iload_n (j := 1) (pc' := 54) dX12_sheet_53 rfl rfl ?_
      refine g_imul (pc' := 55) dX12_sheet_54 rfl ?_
      refine g_iload (j := 4) (pc' := 57) dX12_sheet_55 rfl rfl ?_
      refine g_iadd (pc' := 58) dX12_sheet_57 rfl ?_
      refine g_lconst (v := 0) (pc' := 59) dX12_sheet_58 (by decide) rfl ?_
      refine g_last (n := (24 * a) + j) (pc' := 60) dX12_sheet_59 rfl (nI_addE (nI_mulE rfl rfl) rfl) (by omega) rfl ?_
      generalize hN2 : (um N1 197 ((24 * a) + j) 0) = N2
      refine g_iinc (j := 4) (v := nI (j + 1)) (L' := [(0, .ref 189), (1, .int (nI a)), (2, .int (nI b)), (3, .int (nI q)), (4, .int (nI (j + 1)))]) (pc' := 63) dX12_sheet_60 rfl (nI_1 j) (by decide) rfl rfl ?_
      refine g_goto (tgt := 40) dX12_sheet_63 (by decide) ?_
      refine ih (j + 1) N2 (by omega) (fun x hx => ?_) (fun x hx => ?_) (fun c hc => by rw [← hN2, um_ne hc]; exact hc7 c hc)
      · rw [← hN2]
        by_cases e : x = j
        · subst e; exact um_at
        · rw [um_at2 (by omega)]; exact h0 x (by omega)
      · rw [← hN2, um_at2 (by omega)]; exact h7 x hx
  exact loop 24 0 N (by omega) (fun x hx => absurd hx (Nat.not_lt_zero _)) (fun _ _ => rfl) (fun _ _ => rfl)
set_option maxRecDepth 100000 in
set_option maxHeartbeats 1000000 in
theorem r_drop_b {M : Nat → Nat → Int32} {N : Nat → Nat → Int64} {n k : Nat} {P : Nat → Int32} {pa : List (Nat → Int32)} {kp : Option YS} {tp : List Int32} {sh : Nat → Option (Nat × Nat × (Nat → Int64))} (hA : AOk ((n, k, P, pa), kp, tp, sh)) (hI : RI M N ((n, k, P, pa), kp, tp, sh)) {v : Int32} (h1 : v < 0 ∨ 3 < v) : Run mX12_drop 30 0 0 [.ref 189, .int v] (SK, M, N) (RQ M N (-1) ((n, k, P, pa), kp, tp, sh)) := by
  refine Run.of (by decide) (Nat.le_of_ble_eq_true rfl) ?_
  have hok : OkP n k P := hA.1.1.1
  have hP : ∀ j, j < 47 → M 190 j = P j := hI.1.1
  have hn6 := hok.1
  have hk6 := hok.2.1
  have hn : M 190 0 = nI n := (hP 0 (by omega)).trans hok.2.2.1
  have hk : M 190 1 = nI k := (hP 1 (by omega)).trans hok.2.2.2.1
  refine g_iload_n (j := 1) (pc' := 1) dX12_drop_0 rfl rfl ?_
  refine g_i2l (pc' := 2) dX12_drop_1 rfl ?_
  refine g_lconst (v := 0) (pc' := 3) dX12_drop_2 (by decide) rfl ?_
  refine g_ldc2 (v := 3) (pc' := 6) dX12_drop_3 qX12_205 rfl ?_
  refine g_callS (my := mX12_in) (st := []) (av := [.long (Int32.toInt64 v), .long 0, .long 3]) (mcr := 0) (msr := 0) (mc := 0) (ms := 0) (pc' := 9) dX12_drop_6 kX12_in wX12_55 rfl (Nat.le_of_ble_eq_true rfl) (by decide) (r_in0 (lo := 0) (hi := 3) (by decide) (by decide) (h1)) rfl ?_
  rintro _ _ ⟨rfl, rfl⟩
  show Go mX12_drop _ _ _ 9 [(0, .ref 189), (1, .int v)] [.int 0] (SK, M, N) _
  refine g_if_ne (tgt := 14) (pc' := 12) dX12_drop_9 (by decide) rfl (fun hc => absurd rfl hc) (fun _ => ?_)
  refine g_iconst (v := (-1)) (pc' := 13) dX12_drop_12 (by decide) rfl ?_
  exact g_iret dX12_drop_13 rfl rfl (RQ.same hI)
set_option maxRecDepth 100000 in
set_option maxHeartbeats 1000000 in
theorem r_drop_n {M : Nat → Nat → Int32} {N : Nat → Nat → Int64} {n k : Nat} {P : Nat → Int32} {pa : List (Nat → Int32)} {kp : Option YS} {tp : List Int32} {sh : Nat → Option (Nat × Nat × (Nat → Int64))} (hA : AOk ((n, k, P, pa), kp, tp, sh)) (hI : RI M N ((n, k, P, pa), kp, tp, sh)) {a : Nat} (ha : a < 4) (hs : sh a = none) : Run mX12_drop 30 0 0 [.ref 189, .int (nI a)] (SK, M, N) (RQ M N (-11) ((n, k, P, pa), kp, tp, sh)) := by
  refine Run.of (by decide) (Nat.le_of_ble_eq_true rfl) ?_
  have hok : OkP n k P := hA.1.1.1
  have hP : ∀ j, j < 47 → M 190 j = P j := hI.1.1
  have hn6 := hok.1
  have hk6 := hok.2.1
  have hn : M 190 0 = nI n := (hP 0 (by omega)).trans hok.2.2.1
  have hk : M 190 1 = nI k := (hP 1 (by omega)).trans hok.2.2.2.1
  have h6 : M 196 a = -1 := by
    have h := hI.2.2.2 a ha
    rw [show (((n, k, P, pa), kp, tp, sh) : AS).2.2.2 a = none from hs] at h
    exact h
  refine g_iload_n (j := 1) (pc' := 1) dX12_drop_0 rfl rfl ?_
  refine g_i2l (pc' := 2) dX12_drop_1 rfl ?_
  refine g_lconst (v := 0) (pc' := 3) dX12_drop_2 (by decide) rfl ?_
  refine g_ldc2 (v := 3) (pc' := 6) dX12_drop_3 qX12_205 rfl ?_
  refine g_callS (my := mX12_in) (st := []) (av := [.long (Int32.toInt64 (nI a)), .long 0, .long 3]) (mcr := 0) (msr := 0) (mc := 0) (ms := 0) (pc' := 9) dX12_drop_6 kX12_in wX12_55 rfl (Nat.le_of_ble_eq_true rfl) (by decide) (r_in1 (lo := 0) (hi := 3) (by decide) (by decide) ((not_rng (hi := 3) (by omega) (by omega)))) rfl ?_
  rintro _ _ ⟨rfl, rfl⟩
  show Go mX12_drop _ _ _ 9 [(0, .ref 189), (1, .int (nI a))] [.int 1] (SK, M, N) _
  refine g_if_ne (tgt := 14) (pc' := 12) dX12_drop_9 (by decide) rfl (fun _ => ?_) (fun hc => absurd hc (by decide))
  refine g_aload_n (j := 0) (pc' := 15) dX12_drop_14 rfl rfl ?_
  refine g_getR (pc' := 18) dX12_drop_15 fX12_28 rfl rfl rfl ?_
  refine g_iload_n (j := 1) (pc' := 19) dX12_drop_18 rfl rfl ?_
  refine g_iald (n := a) (pc' := 20) dX12_drop_19 rfl rfl (by omega) rfl ?_
  refine g_top (y := (-1)) (h6) ?_
  refine g_if_ge (tgt := 26) (pc' := 23) dX12_drop_20 (by decide) rfl (fun hc => (absurd hc (by decide))) (fun hc => ?_)
  refine g_bipush (v := (-11)) (pc' := 25) dX12_drop_23 (by decide) rfl ?_
  exact g_iret dX12_drop_25 rfl rfl (RQ.same hI)
set_option maxRecDepth 100000 in
set_option maxHeartbeats 1000000 in
theorem r_drop {M : Nat → Nat → Int32} {N : Nat → Nat → Int64} {n k : Nat} {P : Nat → Int32} {pa : List (Nat → Int32)} {kp : Option YS} {tp : List Int32} {sh : Nat → Option (Nat × Nat × (Nat → Int64))} (hA : AOk ((n, k, P, pa), kp, tp, sh)) (hI : RI M N ((n, k, P, pa), kp, tp, sh)) {a la ln : Nat} {f : Nat → Int64} (ha : a < 4) (hs : sh a = some (la, ln, f)) : Run mX12_drop 30 0 0 [.ref 189, .int (nI a)] (SK, M, N) (RQ M N (nI ln) ((n, k, P, pa), kp, tp, upS sh a none)) := by
  refine Run.of (by decide) (Nat.le_of_ble_eq_true rfl) ?_
  have hok : OkP n k P := hA.1.1.1
  have hP : ∀ j, j < 47 → M 190 j = P j := hI.1.1
  have hn6 := hok.1
  have hk6 := hok.2.1
  have hn : M 190 0 = nI n := (hP 0 (by omega)).trans hok.2.2.1
  have hk : M 190 1 = nI k := (hP 1 (by omega)).trans hok.2.2.2.1
  have h0 : ShR M N a (some (la, ln, f)) := by
    have h := hI.2.2.2 a ha
    rw [show (((n, k, P, pa), kp, tp, sh) : AS).2.2.2 a = some (la, ln, f) from hs] at h
    exact h
  obtain ⟨h6, h5, h7⟩ := h0
  obtain ⟨hla, hln⟩ := hA.2.2.2 a ha la ln f hs
  refine g_iload_n (j := 1) (pc' := 1) dX12_drop_0 rfl rfl ?_
  refine g_i2l (pc' := 2) dX12_drop_1 rfl ?_
  refine g_lconst (v := 0) (pc' := 3) dX12_drop_2 (by decide) rfl ?_
  refine g_ldc2 (v := 3) (pc' := 6) dX12_drop_3 qX12_205 rfl ?_
  refine g_callS (my := mX12_in) (st := []) (av := [.long (Int32.toInt64 (nI a)), .long 0, .long 3]) (mcr := 0) (msr := 0) (mc := 0) (ms := 0) (pc' := 9) dX12_drop_6 kX12_in wX12_55 rfl (Nat.le_of_ble_eq_true rfl) (by decide) (r_in1 (lo := 0) (hi := 3) (by decide) (by decide) ((not_rng (hi := 3) (by omega) (by omega)))) rfl ?_
  rintro _ _ ⟨rfl, rfl⟩
  show Go mX12_drop _ _ _ 9 [(0, .ref 189), (1, .int (nI a))] [.int 1] (SK, M, N) _
  refine g_if_ne (tgt := 14) (pc' := 12) dX12_drop_9 (by decide) rfl (fun _ => ?_) (fun hc => absurd hc (by decide))
  refine g_aload_n (j := 0) (pc' := 15) dX12_drop_14 rfl rfl ?_
  refine g_getR (pc' := 18) dX12_drop_15 fX12_28 rfl rfl rfl ?_
  refine g_iload_n (j := 1) (pc' := 19) dX12_drop_18 rfl rfl ?_
  refine g_iald (n := a) (pc' := 20) dX12_drop_19 rfl rfl (by omega) rfl ?_
  refine g_top (y := nI ln) (h6) ?_
  refine g_if_ge (tgt := 26) (pc' := 23) dX12_drop_20 (by decide) rfl (fun hc => ?_) (fun hc => (absurd (nI_pos' (by omega)) hc))
  refine g_aload_n (j := 0) (pc' := 27) dX12_drop_26 rfl rfl ?_
  refine g_getR (pc' := 30) dX12_drop_27 fX12_28 rfl rfl rfl ?_
  refine g_iload_n (j := 1) (pc' := 31) dX12_drop_30 rfl rfl ?_
  refine g_iald (n := a) (pc' := 32) dX12_drop_31 rfl rfl (by omega) rfl ?_
  refine g_top (y := nI ln) (h6) ?_
  refine g_istore_n (L' := [(0, .ref 189), (1, .int (nI a)), (2, .int (nI ln))]) (pc' := 33) dX12_drop_32 (by decide) rfl rfl ?_
  refine g_aload_n (j := 0) (pc' := 34) dX12_drop_33 rfl rfl ?_
  refine g_getR (pc' := 37) dX12_drop_34 fX12_28 rfl rfl rfl ?_
  refine g_iload_n (j := 1) (pc' := 38) dX12_drop_37 rfl rfl ?_
  refine g_iconst (v := (-1)) (pc' := 39) dX12_drop_38 (by decide) rfl ?_
  refine g_iast (n := a) (pc' := 40) dX12_drop_39 rfl rfl (by omega) rfl ?_
  generalize hM1 : (um M 196 a (-1)) = M1
  refine g_iload_n (j := 2) (pc' := 41) dX12_drop_40 rfl rfl ?_
  exact g_iret dX12_drop_41 rfl rfl (RQ.sheet hI ha (show M1 196 a = -1 by rw [← hM1]; exact um_at) (fun c c5 c6 _ => by rw [← hM1, um_ne c6]) (fun i hi => by rw [← hM1, um_ne (by omega)]) (fun i hi => by rw [← hM1, um_at2 hi]) (fun _ _ => rfl) (fun _ _ => rfl))
set_option maxRecDepth 100000 in
set_option maxHeartbeats 1000000 in
theorem r_item_b {M : Nat → Nat → Int32} {N : Nat → Nat → Int64} {n k : Nat} {P : Nat → Int32} {pa : List (Nat → Int32)} {kp : Option YS} {tp : List Int32} {sh : Nat → Option (Nat × Nat × (Nat → Int64))} (hA : AOk ((n, k, P, pa), kp, tp, sh)) (hI : RI M N ((n, k, P, pa), kp, tp, sh)) {v u : Int32} (z : Int32) (x : Int64) (h1 : (∀ a, a < 4 → v ≠ nI a) ∨ ∀ b, b < 4 → u ≠ nI b) : Run mX12_item 30 0 0 [.ref 189, .int v, .int u, .int z, .long x] (SK, M, N) (RQ M N (-1) ((n, k, P, pa), kp, tp, sh)) := by
  refine Run.of (by decide) (Nat.le_of_ble_eq_true rfl) ?_
  have hok : OkP n k P := hA.1.1.1
  have hP : ∀ j, j < 47 → M 190 j = P j := hI.1.1
  have hn6 := hok.1
  have hk6 := hok.2.1
  have hn : M 190 0 = nI n := (hP 0 (by omega)).trans hok.2.2.1
  have hk : M 190 1 = nI k := (hP 1 (by omega)).trans hok.2.2.2.1
  refine g_iload_n (j := 1) (pc' := 1) dX12_item_0 rfl rfl ?_
  refine g_iload_n (j := 2) (pc' := 2) dX12_item_1 rfl rfl ?_
  refine g_callS (my := mX12_isSheet) (st := []) (av := [.int v, .int u]) (mcr := 0) (msr := 0) (mc := 0) (ms := 0) (pc' := 5) dX12_item_2 kX12_isSheet wX12_207 rfl (Nat.le_of_ble_eq_true rfl) (by decide) (s_isSheet0 (h1.imp out4 out4)) rfl ?_
  rintro _ _ ⟨rfl, rfl⟩
  show Go mX12_item _ _ _ 5 [(0, .ref 189), (1, .int v), (2, .int u), (3, .int z), (4, .long x)] [.int 0] (SK, M, N) _
  refine g_if_ne (tgt := 10) (pc' := 8) dX12_item_5 (by decide) rfl (fun hc => absurd rfl hc) (fun _ => ?_)
  refine g_iconst (v := (-1)) (pc' := 9) dX12_item_8 (by decide) rfl ?_
  exact g_iret dX12_item_9 rfl rfl (RQ.same hI)
theorem wrS_neg {s : Option (Nat × Nat × (Nat → Int64))} {b : Nat} {i n : Int32} (h : ¬ wrS s b i n = 0) : wrS s b i n < 0 := by
  unfold wrS at h ⊢
  cases s with
  | none => show (-11 : Int32) < 0; decide
  | some z =>
    obtain ⟨la, ln, f⟩ := z
    simp only at h ⊢
    split at h
    · rename_i e; rw [if_pos e]; decide
    · rename_i e
      split at h
      · exact absurd rfl h
      · rename_i e2; rw [if_neg e, if_neg e2]; decide
theorem wrS_of {sh : Nat → Option (Nat × Nat × (Nat → Int64))} {a b ln q c : Nat} {f : Nat → Int64} (hs : sh a = some (b, ln, f)) (hq : q + c ≤ ln) (hl : ln ≤ 24) : wrS (sh a) b (nI q) (nI c) = 0 := by
  rw [hs]
  unfold wrS
  simp only
  rw [if_neg (fun h => h rfl), if_pos (has_of hq hl)]
set_option maxRecDepth 100000 in
set_option maxHeartbeats 1000000 in
theorem r_item_w {M : Nat → Nat → Int32} {N : Nat → Nat → Int64} {n k : Nat} {P : Nat → Int32} {pa : List (Nat → Int32)} {kp : Option YS} {tp : List Int32} {sh : Nat → Option (Nat × Nat × (Nat → Int64))} (hA : AOk ((n, k, P, pa), kp, tp, sh)) (hI : RI M N ((n, k, P, pa), kp, tp, sh)) {a b : Nat} {z : Int32} (x : Int64) (ha : a < 4) (hb : b < 4) (h1 : ¬ wrS (sh a) b z 1 = 0) : Run mX12_item 30 0 0 [.ref 189, .int (nI a), .int (nI b), .int z, .long x] (SK, M, N) (RQ M N (wrS (sh a) b z 1) ((n, k, P, pa), kp, tp, sh)) := by
  refine Run.of (by decide) (Nat.le_of_ble_eq_true rfl) ?_
  have hok : OkP n k P := hA.1.1.1
  have hP : ∀ j, j < 47 → M 190 j = P j := hI.1.1
  have hn6 := hok.1
  have hk6 := hok.2.1
  have hn : M 190 0 = nI n := (hP 0 (by omega)).trans hok.2.2.1
  have hk : M 190 1 = nI k := (hP 1 (by omega)).trans hok.2.2.2.1
  refine g_iload_n (j := 1) (pc' := 1) dX12_item_0 rfl rfl ?_
  refine g_iload_n (j := 2) (pc' := 2) dX12_item_1 rfl rfl ?_
  refine g_callS (my := mX12_isSheet) (st := []) (av := [.int (nI a), .int (nI b)]) (mcr := 0) (msr := 0) (mc := 0) (ms := 0) (pc' := 5) dX12_item_2 kX12_isSheet wX12_207 rfl (Nat.le_of_ble_eq_true rfl) (by decide) (s_isSheet1 (not_rng (hi := 3) (by omega) (by omega)) (not_rng (hi := 3) (by omega) (by omega))) rfl ?_
  rintro _ _ ⟨rfl, rfl⟩
  show Go mX12_item _ _ _ 5 [(0, .ref 189), (1, .int (nI a)), (2, .int (nI b)), (3, .int z), (4, .long x)] [.int 1] (SK, M, N) _
  refine g_if_ne (tgt := 10) (pc' := 8) dX12_item_5 (by decide) rfl (fun _ => ?_) (fun hc => absurd hc (by decide))
  refine g_aload_n (j := 0) (pc' := 11) dX12_item_10 rfl rfl ?_
  refine g_iload_n (j := 1) (pc' := 12) dX12_item_11 rfl rfl ?_
  refine g_iload_n (j := 2) (pc' := 13) dX12_item_12 rfl rfl ?_
  refine g_iload_n (j := 3) (pc' := 14) dX12_item_13 rfl rfl ?_
  refine g_iconst (v := 1) (pc' := 15) dX12_item_14 (by decide) rfl ?_
  refine g_callV (my := mX12_found) (k := 189) (st := []) (av := [.int (nI a), .int (nI b), .int z, .int 1]) (mcr := 0) (msr := 0) (mc := 0) (ms := 0) (pc' := 18) dX12_item_15 kX12_found wX12_213 rfl ⟨rfl, rfl⟩ rfl (Nat.le_of_ble_eq_true rfl) (by decide) (r_found hA hI ha hb (z) (n := 1) (by decide)) rfl ?_
  rintro _ _ ⟨rfl, rfl⟩
  show Go mX12_item _ _ _ 18 [(0, .ref 189), (1, .int (nI a)), (2, .int (nI b)), (3, .int z), (4, .long x)] [.int (wrS (sh a) b (z) (1))] (SK, M, N) _
  refine g_istore (L' := [(0, .ref 189), (1, .int (nI a)), (2, .int (nI b)), (3, .int z), (4, .long x), (6, .int (wrS (sh a) b (z) (1)))]) (pc' := 20) dX12_item_18 (by decide) rfl rfl ?_
  refine g_iload (j := 5) (pc' := 22) dX12_item_20 rfl rfl ?_
  refine g_if_ge (tgt := 28) (pc' := 25) dX12_item_22 (by decide) rfl (fun hc => (absurd (wrS_neg h1) (Int32.not_lt.mpr hc))) (fun hc => ?_)
  refine g_iload (j := 5) (pc' := 27) dX12_item_25 rfl rfl ?_
  exact g_iret dX12_item_27 rfl rfl (RQ.same hI)
set_option maxRecDepth 100000 in
set_option maxHeartbeats 1000000 in
theorem r_item {M : Nat → Nat → Int32} {N : Nat → Nat → Int64} {n k : Nat} {P : Nat → Int32} {pa : List (Nat → Int32)} {kp : Option YS} {tp : List Int32} {sh : Nat → Option (Nat × Nat × (Nat → Int64))} (hA : AOk ((n, k, P, pa), kp, tp, sh)) (hI : RI M N ((n, k, P, pa), kp, tp, sh)) {a b q ln : Nat} {f : Nat → Int64} (x : Int64) (ha : a < 4) (hb : b < 4) (hs : sh a = some (b, ln, f)) (hq : q + 1 ≤ ln) (hl : ln ≤ 24) : Run mX12_item 30 0 0 [.ref 189, .int (nI a), .int (nI b), .int (nI q), .long x] (SK, M, N) (RQ M N (1) ((n, k, P, pa), kp, tp, upS sh a (some (b, ln, fun j => if j = q then cutL (nI b) x else f j)))) := by
  refine Run.of (by decide) (Nat.le_of_ble_eq_true rfl) ?_
  have hok : OkP n k P := hA.1.1.1
  have hP : ∀ j, j < 47 → M 190 j = P j := hI.1.1
  have hn6 := hok.1
  have hk6 := hok.2.1
  have hn : M 190 0 = nI n := (hP 0 (by omega)).trans hok.2.2.1
  have hk : M 190 1 = nI k := (hP 1 (by omega)).trans hok.2.2.2.1
  have h0 : ShR M N a (some (b, ln, f)) := by
    have h := hI.2.2.2 a ha
    rw [show (((n, k, P, pa), kp, tp, sh) : AS).2.2.2 a = some (b, ln, f) from hs] at h
    exact h
  obtain ⟨h6, h5, h7⟩ := h0
  obtain ⟨hla, hln⟩ := hA.2.2.2 a ha b ln f hs
  refine g_iload_n (j := 1) (pc' := 1) dX12_item_0 rfl rfl ?_
  refine g_iload_n (j := 2) (pc' := 2) dX12_item_1 rfl rfl ?_
  refine g_callS (my := mX12_isSheet) (st := []) (av := [.int (nI a), .int (nI b)]) (mcr := 0) (msr := 0) (mc := 0) (ms := 0) (pc' := 5) dX12_item_2 kX12_isSheet wX12_207 rfl (Nat.le_of_ble_eq_true rfl) (by decide) (s_isSheet1 (not_rng (hi := 3) (by omega) (by omega)) (not_rng (hi := 3) (by omega) (by omega))) rfl ?_
  rintro _ _ ⟨rfl, rfl⟩
  show Go mX12_item _ _ _ 5 [(0, .ref 189), (1, .int (nI a)), (2, .int (nI b)), (3, .int (nI q)), (4, .long x)] [.int 1] (SK, M, N) _
  refine g_if_ne (tgt := 10) (pc' := 8) dX12_item_5 (by decide) rfl (fun _ => ?_) (fun hc => absurd hc (by decide))
  refine g_aload_n (j := 0) (pc' := 11) dX12_item_10 rfl rfl ?_
  refine g_iload_n (j := 1) (pc' := 12) dX12_item_11 rfl rfl ?_
  refine g_iload_n (j := 2) (pc' := 13) dX12_item_12 rfl rfl ?_
  refine g_iload_n (j := 3) (pc' := 14) dX12_item_13 rfl rfl ?_
  refine g_iconst (v := 1) (pc' := 15) dX12_item_14 (by decide) rfl ?_
  refine g_callV (my := mX12_found) (k := 189) (st := []) (av := [.int (nI a), .int (nI b), .int (nI q), .int 1]) (mcr := 0) (msr := 0) (mc := 0) (ms := 0) (pc' := 18) dX12_item_15 kX12_found wX12_213 rfl ⟨rfl, rfl⟩ rfl (Nat.le_of_ble_eq_true rfl) (by decide) (r_found hA hI ha hb (nI q) (n := 1) (by decide)) rfl ?_
  rintro _ _ ⟨rfl, rfl⟩
  show Go mX12_item _ _ _ 18 [(0, .ref 189), (1, .int (nI a)), (2, .int (nI b)), (3, .int (nI q)), (4, .long x)] [.int (wrS (sh a) b (nI q) (1))] (SK, M, N) _
  refine g_top (y := 0) (wrS_of (c := 1) hs hq hl) ?_
  refine g_istore (L' := [(0, .ref 189), (1, .int (nI a)), (2, .int (nI b)), (3, .int (nI q)), (4, .long x), (6, .int 0)]) (pc' := 20) dX12_item_18 (by decide) rfl rfl ?_
  refine g_iload (j := 5) (pc' := 22) dX12_item_20 rfl rfl ?_
  refine g_if_ge (tgt := 28) (pc' := 25) dX12_item_22 (by decide) rfl (fun hc => ?_) (fun hc => (absurd (by decide) hc))
  refine g_less (L' := [(0, .ref 189), (1, .int (nI a)), (2, .int (nI b)), (3, .int (nI q)), (4, .long x)]) [0, 1, 2, 3, 4] rfl ?_
  refine g_aload_n (j := 0) (pc' := 29) dX12_item_28 rfl rfl ?_
  refine g_getR (pc' := 32) dX12_item_29 fX12_31 rfl rfl rfl ?_
  refine g_bipush (v := 24) (pc' := 34) dX12_item_32 (by decide) rfl ?_
  refine g_iload_n (j := 1) (pc' := 35) dX12_item_34 rfl rfl ?_
  refine g_imul (pc' := 36) dX12_item_35 rfl ?_
  refine g_iload_n (j := 3) (pc' := 37) dX12_item_36 rfl rfl ?_
  refine g_iadd (pc' := 38) dX12_item_37 rfl ?_
  refine g_iload_n (j := 2) (pc' := 39) dX12_item_38 rfl rfl ?_
  refine g_lload (j := 4) (pc' := 41) dX12_item_39 rfl rfl ?_
  refine g_callS (my := mX12_cut) (st := [.int ((24 * (nI a)) + (nI q)), .ref 197]) (av := [.int (nI b), .long x]) (mcr := 0) (msr := 0) (mc := 0) (ms := 0) (pc' := 44) dX12_item_41 kX12_cut wX12_222 rfl (Nat.le_of_ble_eq_true rfl) (by decide) (s_cut (nI b) x (SK, M, N)) rfl ?_
  rintro _ _ ⟨rfl, rfl⟩
  show Go mX12_item _ _ _ 44 [(0, .ref 189), (1, .int (nI a)), (2, .int (nI b)), (3, .int (nI q)), (4, .long x)] [.long (cutL (nI b) x), .int ((24 * (nI a)) + (nI q)), .ref 197] (SK, M, N) _
  refine g_last (n := (24 * a) + q) (pc' := 45) dX12_item_44 rfl (nI_addE (nI_mulE rfl rfl) rfl) (by omega) rfl ?_
  generalize hN1 : (um N 197 ((24 * a) + q) (cutL (nI b) x)) = N1
  refine g_iconst (v := 1) (pc' := 46) dX12_item_45 (by decide) rfl ?_
  refine g_iret dX12_item_46 rfl rfl (RQ.sheet hI ha ⟨h6, h5, fun j hj => ?_⟩ (fun _ _ _ _ => rfl) (fun _ _ => rfl) (fun _ _ => rfl) (fun c hc => by rw [← hN1, um_ne hc]) (fun j hj => by rw [← hN1, um_at2 (by omega)]))
  show N1 197 (24 * a + j) = if j = q then cutL (nI b) x else f j
  rw [← hN1]
  by_cases e : j = q
  · subst e; rw [um_at, if_pos rfl]
  · rw [um_at2 (by omega), if_neg e]; exact h7 j hj
set_option maxRecDepth 100000 in
set_option maxHeartbeats 1000000 in
theorem r_copy_b1 {M : Nat → Nat → Int32} {N : Nat → Nat → Int64} {n k : Nat} {P : Nat → Int32} {pa : List (Nat → Int32)} {kp : Option YS} {tp : List Int32} {sh : Nat → Option (Nat × Nat × (Nat → Int64))} (hA : AOk ((n, k, P, pa), kp, tp, sh)) (hI : RI M N ((n, k, P, pa), kp, tp, sh)) {v : Int32} (i u j z : Int32) (h1 : v < 0 ∨ 3 < v) : Run mX12_copy 30 0 0 [.ref 189, .int v, .int i, .int u, .int j, .int z] (SK, M, N) (RQ M N (-1) ((n, k, P, pa), kp, tp, sh)) := by
  refine Run.of (by decide) (Nat.le_of_ble_eq_true rfl) ?_
  have hok : OkP n k P := hA.1.1.1
  have hP : ∀ j, j < 47 → M 190 j = P j := hI.1.1
  have hn6 := hok.1
  have hk6 := hok.2.1
  have hn : M 190 0 = nI n := (hP 0 (by omega)).trans hok.2.2.1
  have hk : M 190 1 = nI k := (hP 1 (by omega)).trans hok.2.2.2.1
  refine g_iload_n (j := 1) (pc' := 1) dX12_copy_0 rfl rfl ?_
  refine g_i2l (pc' := 2) dX12_copy_1 rfl ?_
  refine g_lconst (v := 0) (pc' := 3) dX12_copy_2 (by decide) rfl ?_
  refine g_ldc2 (v := 3) (pc' := 6) dX12_copy_3 qX12_205 rfl ?_
  refine g_callS (my := mX12_in) (st := []) (av := [.long (Int32.toInt64 v), .long 0, .long 3]) (mcr := 0) (msr := 0) (mc := 0) (ms := 0) (pc' := 9) dX12_copy_6 kX12_in wX12_55 rfl (Nat.le_of_ble_eq_true rfl) (by decide) (r_in0 (lo := 0) (hi := 3) (by decide) (by decide) (h1)) rfl ?_
  rintro _ _ ⟨rfl, rfl⟩
  show Go mX12_copy _ _ _ 9 [(0, .ref 189), (1, .int v), (2, .int i), (3, .int u), (4, .int j), (5, .int z)] [.int 0] (SK, M, N) _
  refine g_if_eq (tgt := 24) (pc' := 12) dX12_copy_9 (by decide) rfl (fun _ => ?_) (fun hc => absurd rfl hc)
  refine g_iconst (v := (-1)) (pc' := 25) dX12_copy_24 (by decide) rfl ?_
  exact g_iret dX12_copy_25 rfl rfl (RQ.same hI)
set_option maxRecDepth 100000 in
set_option maxHeartbeats 1000000 in
theorem r_copy_b2 {M : Nat → Nat → Int32} {N : Nat → Nat → Int64} {n k : Nat} {P : Nat → Int32} {pa : List (Nat → Int32)} {kp : Option YS} {tp : List Int32} {sh : Nat → Option (Nat × Nat × (Nat → Int64))} (hA : AOk ((n, k, P, pa), kp, tp, sh)) (hI : RI M N ((n, k, P, pa), kp, tp, sh)) {v u : Int32} (i j z : Int32) (h1 : ¬ (v < 0 ∨ 3 < v)) (h2 : u < 0 ∨ 3 < u) : Run mX12_copy 30 0 0 [.ref 189, .int v, .int i, .int u, .int j, .int z] (SK, M, N) (RQ M N (-1) ((n, k, P, pa), kp, tp, sh)) := by
  refine Run.of (by decide) (Nat.le_of_ble_eq_true rfl) ?_
  have hok : OkP n k P := hA.1.1.1
  have hP : ∀ j, j < 47 → M 190 j = P j := hI.1.1
  have hn6 := hok.1
  have hk6 := hok.2.1
  have hn : M 190 0 = nI n := (hP 0 (by omega)).trans hok.2.2.1
  have hk : M 190 1 = nI k := (hP 1 (by omega)).trans hok.2.2.2.1
  refine g_iload_n (j := 1) (pc' := 1) dX12_copy_0 rfl rfl ?_
  refine g_i2l (pc' := 2) dX12_copy_1 rfl ?_
  refine g_lconst (v := 0) (pc' := 3) dX12_copy_2 (by decide) rfl ?_
  refine g_ldc2 (v := 3) (pc' := 6) dX12_copy_3 qX12_205 rfl ?_
  refine g_callS (my := mX12_in) (st := []) (av := [.long (Int32.toInt64 v), .long 0, .long 3]) (mcr := 0) (msr := 0) (mc := 0) (ms := 0) (pc' := 9) dX12_copy_6 kX12_in wX12_55 rfl (Nat.le_of_ble_eq_true rfl) (by decide) (r_in1 (lo := 0) (hi := 3) (by decide) (by decide) (h1)) rfl ?_
  rintro _ _ ⟨rfl, rfl⟩
  show Go mX12_copy _ _ _ 9 [(0, .ref 189), (1, .int v), (2, .int i), (3, .int u), (4, .int j), (5, .int z)] [.int 1] (SK, M, N) _
  refine g_if_eq (tgt := 24) (pc' := 12) dX12_copy_9 (by decide) rfl (fun hc => absurd hc (by decide)) (fun _ => ?_)
  refine g_iload_n (j := 3) (pc' := 13) dX12_copy_12 rfl rfl ?_
  refine g_i2l (pc' := 14) dX12_copy_13 rfl ?_
  refine g_lconst (v := 0) (pc' := 15) dX12_copy_14 (by decide) rfl ?_
  refine g_ldc2 (v := 3) (pc' := 18) dX12_copy_15 qX12_205 rfl ?_
  refine g_callS (my := mX12_in) (st := []) (av := [.long (Int32.toInt64 u), .long 0, .long 3]) (mcr := 0) (msr := 0) (mc := 0) (ms := 0) (pc' := 21) dX12_copy_18 kX12_in wX12_55 rfl (Nat.le_of_ble_eq_true rfl) (by decide) (r_in0 (lo := 0) (hi := 3) (by decide) (by decide) (h2)) rfl ?_
  rintro _ _ ⟨rfl, rfl⟩
  show Go mX12_copy _ _ _ 21 [(0, .ref 189), (1, .int v), (2, .int i), (3, .int u), (4, .int j), (5, .int z)] [.int 0] (SK, M, N) _
  refine g_if_ne (tgt := 26) (pc' := 24) dX12_copy_21 (by decide) rfl (fun hc => absurd rfl hc) (fun _ => ?_)
  refine g_iconst (v := (-1)) (pc' := 25) dX12_copy_24 (by decide) rfl ?_
  exact g_iret dX12_copy_25 rfl rfl (RQ.same hI)
set_option maxRecDepth 100000 in
set_option maxHeartbeats 1000000 in
theorem r_copy_n1 {M : Nat → Nat → Int32} {N : Nat → Nat → Int64} {n k : Nat} {P : Nat → Int32} {pa : List (Nat → Int32)} {kp : Option YS} {tp : List Int32} {sh : Nat → Option (Nat × Nat × (Nat → Int64))} (hA : AOk ((n, k, P, pa), kp, tp, sh)) (hI : RI M N ((n, k, P, pa), kp, tp, sh)) {a b : Nat} (i j z : Int32) (ha : a < 4) (hb : b < 4) (hs : sh a = none) : Run mX12_copy 30 0 0 [.ref 189, .int (nI a), .int i, .int (nI b), .int j, .int z] (SK, M, N) (RQ M N (-11) ((n, k, P, pa), kp, tp, sh)) := by
  refine Run.of (by decide) (Nat.le_of_ble_eq_true rfl) ?_
  have hok : OkP n k P := hA.1.1.1
  have hP : ∀ j, j < 47 → M 190 j = P j := hI.1.1
  have hn6 := hok.1
  have hk6 := hok.2.1
  have hn : M 190 0 = nI n := (hP 0 (by omega)).trans hok.2.2.1
  have hk : M 190 1 = nI k := (hP 1 (by omega)).trans hok.2.2.2.1
  have h6 : M 196 a = -1 := by
    have h := hI.2.2.2 a ha
    rw [show (((n, k, P, pa), kp, tp, sh) : AS).2.2.2 a = none from hs] at h
    exact h
  refine g_iload_n (j := 1) (pc' := 1) dX12_copy_0 rfl rfl ?_
  refine g_i2l (pc' := 2) dX12_copy_1 rfl ?_
  refine g_lconst (v := 0) (pc' := 3) dX12_copy_2 (by decide) rfl ?_
  refine g_ldc2 (v := 3) (pc' := 6) dX12_copy_3 qX12_205 rfl ?_
  refine g_callS (my := mX12_in) (st := []) (av := [.long (Int32.toInt64 (nI a)), .long 0, .long 3]) (mcr := 0) (msr := 0) (mc := 0) (ms := 0) (pc' := 9) dX12_copy_6 kX12_in wX12_55 rfl (Nat.le_of_ble_eq_true rfl) (by decide) (r_in1 (lo := 0) (hi := 3) (by decide) (by decide) ((not_rng (hi := 3) (by omega) (by omega)))) rfl ?_
  rintro _ _ ⟨rfl, rfl⟩
  show Go mX12_copy _ _ _ 9 [(0, .ref 189), (1, .int (nI a)), (2, .int i), (3, .int (nI b)), (4, .int j), (5, .int z)] [.int 1] (SK, M, N) _
  refine g_if_eq (tgt := 24) (pc' := 12) dX12_copy_9 (by decide) rfl (fun hc => absurd hc (by decide)) (fun _ => ?_)
  refine g_iload_n (j := 3) (pc' := 13) dX12_copy_12 rfl rfl ?_
  refine g_i2l (pc' := 14) dX12_copy_13 rfl ?_
  refine g_lconst (v := 0) (pc' := 15) dX12_copy_14 (by decide) rfl ?_
  refine g_ldc2 (v := 3) (pc' := 18) dX12_copy_15 qX12_205 rfl ?_
  refine g_callS (my := mX12_in) (st := []) (av := [.long (Int32.toInt64 (nI b)), .long 0, .long 3]) (mcr := 0) (msr := 0) (mc := 0) (ms := 0) (pc' := 21) dX12_copy_18 kX12_in wX12_55 rfl (Nat.le_of_ble_eq_true rfl) (by decide) (r_in1 (lo := 0) (hi := 3) (by decide) (by decide) ((not_rng (hi := 3) (by omega) (by omega)))) rfl ?_
  rintro _ _ ⟨rfl, rfl⟩
  show Go mX12_copy _ _ _ 21 [(0, .ref 189), (1, .int (nI a)), (2, .int i), (3, .int (nI b)), (4, .int j), (5, .int z)] [.int 1] (SK, M, N) _
  refine g_if_ne (tgt := 26) (pc' := 24) dX12_copy_21 (by decide) rfl (fun _ => ?_) (fun hc => absurd hc (by decide))
  refine g_aload_n (j := 0) (pc' := 27) dX12_copy_26 rfl rfl ?_
  refine g_getR (pc' := 30) dX12_copy_27 fX12_28 rfl rfl rfl ?_
  refine g_iload_n (j := 1) (pc' := 31) dX12_copy_30 rfl rfl ?_
  refine g_iald (n := a) (pc' := 32) dX12_copy_31 rfl rfl (by omega) rfl ?_
  refine g_top (y := (-1)) (h6) ?_
  refine g_if_lt (tgt := 44) (pc' := 35) dX12_copy_32 (by decide) rfl (fun hc => ?_) (fun hc => (absurd (by decide) hc))
  refine g_bipush (v := (-11)) (pc' := 46) dX12_copy_44 (by decide) rfl ?_
  exact g_iret dX12_copy_46 rfl rfl (RQ.same hI)
set_option maxRecDepth 100000 in
set_option maxHeartbeats 1000000 in
theorem r_copy_n2 {M : Nat → Nat → Int32} {N : Nat → Nat → Int64} {n k : Nat} {P : Nat → Int32} {pa : List (Nat → Int32)} {kp : Option YS} {tp : List Int32} {sh : Nat → Option (Nat × Nat × (Nat → Int64))} (hA : AOk ((n, k, P, pa), kp, tp, sh)) (hI : RI M N ((n, k, P, pa), kp, tp, sh)) {a b la ln : Nat} {f : Nat → Int64} (i j z : Int32) (ha : a < 4) (hb : b < 4) (hs : sh a = some (la, ln, f)) (hs2 : sh b = none) : Run mX12_copy 30 0 0 [.ref 189, .int (nI a), .int i, .int (nI b), .int j, .int z] (SK, M, N) (RQ M N (-11) ((n, k, P, pa), kp, tp, sh)) := by
  refine Run.of (by decide) (Nat.le_of_ble_eq_true rfl) ?_
  have hok : OkP n k P := hA.1.1.1
  have hP : ∀ j, j < 47 → M 190 j = P j := hI.1.1
  have hn6 := hok.1
  have hk6 := hok.2.1
  have hn : M 190 0 = nI n := (hP 0 (by omega)).trans hok.2.2.1
  have hk : M 190 1 = nI k := (hP 1 (by omega)).trans hok.2.2.2.1
  have h0 : ShR M N a (some (la, ln, f)) := by
    have h := hI.2.2.2 a ha
    rw [show (((n, k, P, pa), kp, tp, sh) : AS).2.2.2 a = some (la, ln, f) from hs] at h
    exact h
  obtain ⟨h6, h5, h7⟩ := h0
  obtain ⟨hla, hln⟩ := hA.2.2.2 a ha la ln f hs
  have h6b : M 196 b = -1 := by
    have h := hI.2.2.2 b hb
    rw [show (((n, k, P, pa), kp, tp, sh) : AS).2.2.2 b = none from hs2] at h
    exact h
  refine g_iload_n (j := 1) (pc' := 1) dX12_copy_0 rfl rfl ?_
  refine g_i2l (pc' := 2) dX12_copy_1 rfl ?_
  refine g_lconst (v := 0) (pc' := 3) dX12_copy_2 (by decide) rfl ?_
  refine g_ldc2 (v := 3) (pc' := 6) dX12_copy_3 qX12_205 rfl ?_
  refine g_callS (my := mX12_in) (st := []) (av := [.long (Int32.toInt64 (nI a)), .long 0, .long 3]) (mcr := 0) (msr := 0) (mc := 0) (ms := 0) (pc' := 9) dX12_copy_6 kX12_in wX12_55 rfl (Nat.le_of_ble_eq_true rfl) (by decide) (r_in1 (lo := 0) (hi := 3) (by decide) (by decide) ((not_rng (hi := 3) (by omega) (by omega)))) rfl ?_
  rintro _ _ ⟨rfl, rfl⟩
  show Go mX12_copy _ _ _ 9 [(0, .ref 189), (1, .int (nI a)), (2, .int i), (3, .int (nI b)), (4, .int j), (5, .int z)] [.int 1] (SK, M, N) _
  refine g_if_eq (tgt := 24) (pc' := 12) dX12_copy_9 (by decide) rfl (fun hc => absurd hc (by decide)) (fun _ => ?_)
  refine g_iload_n (j := 3) (pc' := 13) dX12_copy_12 rfl rfl ?_
  refine g_i2l (pc' := 14) dX12_copy_13 rfl ?_
  refine g_lconst (v := 0) (pc' := 15) dX12_copy_14 (by decide) rfl ?_
  refine g_ldc2 (v := 3) (pc' := 18) dX12_copy_15 qX12_205 rfl ?_
  refine g_callS (my := mX12_in) (st := []) (av := [.long (Int32.toInt64 (nI b)), .long 0, .long 3]) (mcr := 0) (msr := 0) (mc := 0) (ms := 0) (pc' := 21) dX12_copy_18 kX12_in wX12_55 rfl (Nat.le_of_ble_eq_true rfl) (by decide) (r_in1 (lo := 0) (hi := 3) (by decide) (by decide) ((not_rng (hi := 3) (by omega) (by omega)))) rfl ?_
  rintro _ _ ⟨rfl, rfl⟩
  show Go mX12_copy _ _ _ 21 [(0, .ref 189), (1, .int (nI a)), (2, .int i), (3, .int (nI b)), (4, .int j), (5, .int z)] [.int 1] (SK, M, N) _
  refine g_if_ne (tgt := 26) (pc' := 24) dX12_copy_21 (by decide) rfl (fun _ => ?_) (fun hc => absurd hc (by decide))
  refine g_aload_n (j := 0) (pc' := 27) dX12_copy_26 rfl rfl ?_
  refine g_getR (pc' := 30) dX12_copy_27 fX12_28 rfl rfl rfl ?_
  refine g_iload_n (j := 1) (pc' := 31) dX12_copy_30 rfl rfl ?_
  refine g_iald (n := a) (pc' := 32) dX12_copy_31 rfl rfl (by omega) rfl ?_
  refine g_top (y := nI ln) (h6) ?_
  refine g_if_lt (tgt := 44) (pc' := 35) dX12_copy_32 (by decide) rfl (fun hc => (absurd hc (nI_pos (by omega)))) (fun hc => ?_)
  refine g_aload_n (j := 0) (pc' := 36) dX12_copy_35 rfl rfl ?_
  refine g_getR (pc' := 39) dX12_copy_36 fX12_28 rfl rfl rfl ?_
  refine g_iload_n (j := 3) (pc' := 40) dX12_copy_39 rfl rfl ?_
  refine g_iald (n := b) (pc' := 41) dX12_copy_40 rfl rfl (by omega) rfl ?_
  refine g_top (y := (-1)) (h6b) ?_
  refine g_if_ge (tgt := 47) (pc' := 44) dX12_copy_41 (by decide) rfl (fun hc => (absurd hc (by decide))) (fun hc => ?_)
  refine g_bipush (v := (-11)) (pc' := 46) dX12_copy_44 (by decide) rfl ?_
  exact g_iret dX12_copy_46 rfl rfl (RQ.same hI)
set_option maxRecDepth 100000 in
set_option maxHeartbeats 1000000 in
theorem r_copy_c {M : Nat → Nat → Int32} {N : Nat → Nat → Int64} {n k : Nat} {P : Nat → Int32} {pa : List (Nat → Int32)} {kp : Option YS} {tp : List Int32} {sh : Nat → Option (Nat × Nat × (Nat → Int64))} (hA : AOk ((n, k, P, pa), kp, tp, sh)) (hI : RI M N ((n, k, P, pa), kp, tp, sh)) {a b la ln lb lm : Nat} {f g : Nat → Int64} (i j z : Int32) (ha : a < 4) (hb : b < 4) (hs : sh a = some (la, ln, f)) (hs2 : sh b = some (lb, lm, g)) (hne : la ≠ lb) : Run mX12_copy 30 0 0 [.ref 189, .int (nI a), .int i, .int (nI b), .int j, .int z] (SK, M, N) (RQ M N (-12) ((n, k, P, pa), kp, tp, sh)) := by
  refine Run.of (by decide) (Nat.le_of_ble_eq_true rfl) ?_
  have hok : OkP n k P := hA.1.1.1
  have hP : ∀ j, j < 47 → M 190 j = P j := hI.1.1
  have hn6 := hok.1
  have hk6 := hok.2.1
  have hn : M 190 0 = nI n := (hP 0 (by omega)).trans hok.2.2.1
  have hk : M 190 1 = nI k := (hP 1 (by omega)).trans hok.2.2.2.1
  have h0 : ShR M N a (some (la, ln, f)) := by
    have h := hI.2.2.2 a ha
    rw [show (((n, k, P, pa), kp, tp, sh) : AS).2.2.2 a = some (la, ln, f) from hs] at h
    exact h
  obtain ⟨h6, h5, h7⟩ := h0
  obtain ⟨hla, hln⟩ := hA.2.2.2 a ha la ln f hs
  have h0b : ShR M N b (some (lb, lm, g)) := by
    have h := hI.2.2.2 b hb
    rw [show (((n, k, P, pa), kp, tp, sh) : AS).2.2.2 b = some (lb, lm, g) from hs2] at h
    exact h
  obtain ⟨h6b, h5b, h7b⟩ := h0b
  obtain ⟨hlab, hlnb⟩ := hA.2.2.2 b hb lb lm g hs2
  refine g_iload_n (j := 1) (pc' := 1) dX12_copy_0 rfl rfl ?_
  refine g_i2l (pc' := 2) dX12_copy_1 rfl ?_
  refine g_lconst (v := 0) (pc' := 3) dX12_copy_2 (by decide) rfl ?_
  refine g_ldc2 (v := 3) (pc' := 6) dX12_copy_3 qX12_205 rfl ?_
  refine g_callS (my := mX12_in) (st := []) (av := [.long (Int32.toInt64 (nI a)), .long 0, .long 3]) (mcr := 0) (msr := 0) (mc := 0) (ms := 0) (pc' := 9) dX12_copy_6 kX12_in wX12_55 rfl (Nat.le_of_ble_eq_true rfl) (by decide) (r_in1 (lo := 0) (hi := 3) (by decide) (by decide) ((not_rng (hi := 3) (by omega) (by omega)))) rfl ?_
  rintro _ _ ⟨rfl, rfl⟩
  show Go mX12_copy _ _ _ 9 [(0, .ref 189), (1, .int (nI a)), (2, .int i), (3, .int (nI b)), (4, .int j), (5, .int z)] [.int 1] (SK, M, N) _
  refine g_if_eq (tgt := 24) (pc' := 12) dX12_copy_9 (by decide) rfl (fun hc => absurd hc (by decide)) (fun _ => ?_)
  refine g_iload_n (j := 3) (pc' := 13) dX12_copy_12 rfl rfl ?_
  refine g_i2l (pc' := 14) dX12_copy_13 rfl ?_
  refine g_lconst (v := 0) (pc' := 15) dX12_copy_14 (by decide) rfl ?_
  refine g_ldc2 (v := 3) (pc' := 18) dX12_copy_15 qX12_205 rfl ?_
  refine g_callS (my := mX12_in) (st := []) (av := [.long (Int32.toInt64 (nI b)), .long 0, .long 3]) (mcr := 0) (msr := 0) (mc := 0) (ms := 0) (pc' := 21) dX12_copy_18 kX12_in wX12_55 rfl (Nat.le_of_ble_eq_true rfl) (by decide) (r_in1 (lo := 0) (hi := 3) (by decide) (by decide) ((not_rng (hi := 3) (by omega) (by omega)))) rfl ?_
  rintro _ _ ⟨rfl, rfl⟩
  show Go mX12_copy _ _ _ 21 [(0, .ref 189), (1, .int (nI a)), (2, .int i), (3, .int (nI b)), (4, .int j), (5, .int z)] [.int 1] (SK, M, N) _
  refine g_if_ne (tgt := 26) (pc' := 24) dX12_copy_21 (by decide) rfl (fun _ => ?_) (fun hc => absurd hc (by decide))
  refine g_aload_n (j := 0) (pc' := 27) dX12_copy_26 rfl rfl ?_
  refine g_getR (pc' := 30) dX12_copy_27 fX12_28 rfl rfl rfl ?_
  refine g_iload_n (j := 1) (pc' := 31) dX12_copy_30 rfl rfl ?_
  refine g_iald (n := a) (pc' := 32) dX12_copy_31 rfl rfl (by omega) rfl ?_
  refine g_top (y := nI ln) (h6) ?_
  refine g_if_lt (tgt := 44) (pc' := 35) dX12_copy_32 (by decide) rfl (fun hc => (absurd hc (nI_pos (by omega)))) (fun hc => ?_)
  refine g_aload_n (j := 0) (pc' := 36) dX12_copy_35 rfl rfl ?_
  refine g_getR (pc' := 39) dX12_copy_36 fX12_28 rfl rfl rfl ?_
  refine g_iload_n (j := 3) (pc' := 40) dX12_copy_39 rfl rfl ?_
  refine g_iald (n := b) (pc' := 41) dX12_copy_40 rfl rfl (by omega) rfl ?_
  refine g_top (y := nI lm) (h6b) ?_
  refine g_if_ge (tgt := 47) (pc' := 44) dX12_copy_41 (by decide) rfl (fun hc => ?_) (fun hc => (absurd (nI_pos' (by omega)) hc))
  refine g_aload_n (j := 0) (pc' := 48) dX12_copy_47 rfl rfl ?_
  refine g_getR (pc' := 51) dX12_copy_48 fX12_25 rfl rfl rfl ?_
  refine g_iload_n (j := 1) (pc' := 52) dX12_copy_51 rfl rfl ?_
  refine g_iald (n := a) (pc' := 53) dX12_copy_52 rfl rfl (by omega) rfl ?_
  refine g_top (y := nI la) (h5) ?_
  refine g_aload_n (j := 0) (pc' := 54) dX12_copy_53 rfl rfl ?_
  refine g_getR (pc' := 57) dX12_copy_54 fX12_25 rfl rfl rfl ?_
  refine g_iload_n (j := 3) (pc' := 58) dX12_copy_57 rfl rfl ?_
  refine g_iald (n := b) (pc' := 59) dX12_copy_58 rfl rfl (by omega) rfl ?_
  refine g_top (y := nI lb) (h5b) ?_
  refine g_icmp_eq (tgt := 65) (pc' := 62) dX12_copy_59 (by decide) rfl (fun hc => (absurd ((nI_eq (by omega) (by omega)).mp hc) hne)) (fun hc => ?_)
  refine g_bipush (v := (-12)) (pc' := 64) dX12_copy_62 (by decide) rfl ?_
  exact g_iret dX12_copy_64 rfl rfl (RQ.same hI)
set_option maxRecDepth 100000 in
set_option maxHeartbeats 1000000 in
theorem r_copy_i1 {M : Nat → Nat → Int32} {N : Nat → Nat → Int64} {n k : Nat} {P : Nat → Int32} {pa : List (Nat → Int32)} {kp : Option YS} {tp : List Int32} {sh : Nat → Option (Nat × Nat × (Nat → Int64))} (hA : AOk ((n, k, P, pa), kp, tp, sh)) (hI : RI M N ((n, k, P, pa), kp, tp, sh)) {a b la ln lb lm : Nat} {f g : Nat → Int64} {i : Int32} (j : Int32) {z : Int32} (ha : a < 4) (hb : b < 4) (hs : sh a = some (la, ln, f)) (hs2 : sh b = some (lb, lm, g)) (hne : lb = la) (h1 : ¬ (0 ≤ i ∧ 0 ≤ z ∧ i ≤ nI ln - z)) : Run mX12_copy 30 0 0 [.ref 189, .int (nI a), .int i, .int (nI b), .int j, .int z] (SK, M, N) (RQ M N (-13) ((n, k, P, pa), kp, tp, sh)) := by
  refine Run.of (by decide) (Nat.le_of_ble_eq_true rfl) ?_
  have hok : OkP n k P := hA.1.1.1
  have hP : ∀ j, j < 47 → M 190 j = P j := hI.1.1
  have hn6 := hok.1
  have hk6 := hok.2.1
  have hn : M 190 0 = nI n := (hP 0 (by omega)).trans hok.2.2.1
  have hk : M 190 1 = nI k := (hP 1 (by omega)).trans hok.2.2.2.1
  obtain rfl : la = lb := hne.symm
  have h0 : ShR M N a (some (la, ln, f)) := by
    have h := hI.2.2.2 a ha
    rw [show (((n, k, P, pa), kp, tp, sh) : AS).2.2.2 a = some (la, ln, f) from hs] at h
    exact h
  obtain ⟨h6, h5, h7⟩ := h0
  obtain ⟨hla, hln⟩ := hA.2.2.2 a ha la ln f hs
  have h0b : ShR M N b (some (la, lm, g)) := by
    have h := hI.2.2.2 b hb
    rw [show (((n, k, P, pa), kp, tp, sh) : AS).2.2.2 b = some (la, lm, g) from hs2] at h
    exact h
  obtain ⟨h6b, h5b, h7b⟩ := h0b
  obtain ⟨hlab, hlnb⟩ := hA.2.2.2 b hb la lm g hs2
  refine g_iload_n (j := 1) (pc' := 1) dX12_copy_0 rfl rfl ?_
  refine g_i2l (pc' := 2) dX12_copy_1 rfl ?_
  refine g_lconst (v := 0) (pc' := 3) dX12_copy_2 (by decide) rfl ?_
  refine g_ldc2 (v := 3) (pc' := 6) dX12_copy_3 qX12_205 rfl ?_
  refine g_callS (my := mX12_in) (st := []) (av := [.long (Int32.toInt64 (nI a)), .long 0, .long 3]) (mcr := 0) (msr := 0) (mc := 0) (ms := 0) (pc' := 9) dX12_copy_6 kX12_in wX12_55 rfl (Nat.le_of_ble_eq_true rfl) (by decide) (r_in1 (lo := 0) (hi := 3) (by decide) (by decide) ((not_rng (hi := 3) (by omega) (by omega)))) rfl ?_
  rintro _ _ ⟨rfl, rfl⟩
  show Go mX12_copy _ _ _ 9 [(0, .ref 189), (1, .int (nI a)), (2, .int i), (3, .int (nI b)), (4, .int j), (5, .int z)] [.int 1] (SK, M, N) _
  refine g_if_eq (tgt := 24) (pc' := 12) dX12_copy_9 (by decide) rfl (fun hc => absurd hc (by decide)) (fun _ => ?_)
  refine g_iload_n (j := 3) (pc' := 13) dX12_copy_12 rfl rfl ?_
  refine g_i2l (pc' := 14) dX12_copy_13 rfl ?_
  refine g_lconst (v := 0) (pc' := 15) dX12_copy_14 (by decide) rfl ?_
  refine g_ldc2 (v := 3) (pc' := 18) dX12_copy_15 qX12_205 rfl ?_
  refine g_callS (my := mX12_in) (st := []) (av := [.long (Int32.toInt64 (nI b)), .long 0, .long 3]) (mcr := 0) (msr := 0) (mc := 0) (ms := 0) (pc' := 21) dX12_copy_18 kX12_in wX12_55 rfl (Nat.le_of_ble_eq_true rfl) (by decide) (r_in1 (lo := 0) (hi := 3) (by decide) (by decide) ((not_rng (hi := 3) (by omega) (by omega)))) rfl ?_
  rintro _ _ ⟨rfl, rfl⟩
  show Go mX12_copy _ _ _ 21 [(0, .ref 189), (1, .int (nI a)), (2, .int i), (3, .int (nI b)), (4, .int j), (5, .int z)] [.int 1] (SK, M, N) _
  refine g_if_ne (tgt := 26) (pc' := 24) dX12_copy_21 (by decide) rfl (fun _ => ?_) (fun hc => absurd hc (by decide))
  refine g_aload_n (j := 0) (pc' := 27) dX12_copy_26 rfl rfl ?_
  refine g_getR (pc' := 30) dX12_copy_27 fX12_28 rfl rfl rfl ?_
  refine g_iload_n (j := 1) (pc' := 31) dX12_copy_30 rfl rfl ?_
  refine g_iald (n := a) (pc' := 32) dX12_copy_31 rfl rfl (by omega) rfl ?_
  refine g_top (y := nI ln) (h6) ?_
  refine g_if_lt (tgt := 44) (pc' := 35) dX12_copy_32 (by decide) rfl (fun hc => (absurd hc (nI_pos (by omega)))) (fun hc => ?_)
  refine g_aload_n (j := 0) (pc' := 36) dX12_copy_35 rfl rfl ?_
  refine g_getR (pc' := 39) dX12_copy_36 fX12_28 rfl rfl rfl ?_
  refine g_iload_n (j := 3) (pc' := 40) dX12_copy_39 rfl rfl ?_
  refine g_iald (n := b) (pc' := 41) dX12_copy_40 rfl rfl (by omega) rfl ?_
  refine g_top (y := nI lm) (h6b) ?_
  refine g_if_ge (tgt := 47) (pc' := 44) dX12_copy_41 (by decide) rfl (fun hc => ?_) (fun hc => (absurd (nI_pos' (by omega)) hc))
  refine g_aload_n (j := 0) (pc' := 48) dX12_copy_47 rfl rfl ?_
  refine g_getR (pc' := 51) dX12_copy_48 fX12_25 rfl rfl rfl ?_
  refine g_iload_n (j := 1) (pc' := 52) dX12_copy_51 rfl rfl ?_
  refine g_iald (n := a) (pc' := 53) dX12_copy_52 rfl rfl (by omega) rfl ?_
  refine g_top (y := nI la) (h5) ?_
  refine g_aload_n (j := 0) (pc' := 54) dX12_copy_53 rfl rfl ?_
  refine g_getR (pc' := 57) dX12_copy_54 fX12_25 rfl rfl rfl ?_
  refine g_iload_n (j := 3) (pc' := 58) dX12_copy_57 rfl rfl ?_
  refine g_iald (n := b) (pc' := 59) dX12_copy_58 rfl rfl (by omega) rfl ?_
  refine g_top (y := nI la) (h5b) ?_
  refine g_icmp_eq (tgt := 65) (pc' := 62) dX12_copy_59 (by decide) rfl (fun hc => ?_) (fun hc => (absurd rfl hc))
  refine g_iload (j := 5) (pc' := 67) dX12_copy_65 rfl rfl ?_
  refine g_if_lt (tgt := 105) (pc' := 70) dX12_copy_67 (by decide) rfl (fun hc5 => ?_) (fun hc5 => ?_)
  · refine g_bipush (v := (-13)) (pc' := 107) dX12_copy_105 (by decide) rfl ?_
    exact g_iret dX12_copy_107 rfl rfl (RQ.same hI)
  · refine g_aload_n (j := 0) (pc' := 71) dX12_copy_70 rfl rfl ?_
    refine g_iload_n (j := 1) (pc' := 72) dX12_copy_71 rfl rfl ?_
    refine g_aload_n (j := 0) (pc' := 73) dX12_copy_72 rfl rfl ?_
    refine g_getR (pc' := 76) dX12_copy_73 fX12_25 rfl rfl rfl ?_
    refine g_iload_n (j := 1) (pc' := 77) dX12_copy_76 rfl rfl ?_
    refine g_iald (n := a) (pc' := 78) dX12_copy_77 rfl rfl (by omega) rfl ?_
    refine g_top (y := nI la) (h5) ?_
    refine g_iload_n (j := 2) (pc' := 79) dX12_copy_78 rfl rfl ?_
    refine g_iload (j := 5) (pc' := 81) dX12_copy_79 rfl rfl ?_
    refine g_callV (my := mX12_found) (k := 189) (st := []) (av := [.int (nI a), .int (nI la), .int i, .int z]) (mcr := 0) (msr := 0) (mc := 0) (ms := 0) (pc' := 84) dX12_copy_81 kX12_found wX12_213 rfl ⟨rfl, rfl⟩ rfl (Nat.le_of_ble_eq_true rfl) (by decide) (r_found hA hI ha hla i hc5) rfl ?_
    rintro _ _ ⟨rfl, rfl⟩
    show Go mX12_copy _ _ _ 84 [(0, .ref 189), (1, .int (nI a)), (2, .int i), (3, .int (nI b)), (4, .int j), (5, .int z)] [.int (wrS (sh a) la i z)] (SK, M, N) _
    have h9 : wrS (sh a) la i z = -13 := by rw [hs]; unfold wrS; simp only; rw [if_neg (fun q => q rfl), if_neg h1]
    refine g_top (y := (-13)) (h9) ?_
    refine g_if_lt (tgt := 105) (pc' := 87) dX12_copy_84 (by decide) rfl (fun hc => ?_) (fun hc => (absurd (by decide) hc))
    refine g_bipush (v := (-13)) (pc' := 107) dX12_copy_105 (by decide) rfl ?_
    exact g_iret dX12_copy_107 rfl rfl (RQ.same hI)
set_option maxRecDepth 100000 in
set_option maxHeartbeats 1000000 in
theorem r_copy_i2 {M : Nat → Nat → Int32} {N : Nat → Nat → Int64} {n k : Nat} {P : Nat → Int32} {pa : List (Nat → Int32)} {kp : Option YS} {tp : List Int32} {sh : Nat → Option (Nat × Nat × (Nat → Int64))} (hA : AOk ((n, k, P, pa), kp, tp, sh)) (hI : RI M N ((n, k, P, pa), kp, tp, sh)) {a b la ln lb lm : Nat} {f g : Nat → Int64} {i j z : Int32} (ha : a < 4) (hb : b < 4) (hs : sh a = some (la, ln, f)) (hs2 : sh b = some (lb, lm, g)) (hne : lb = la) (h1 : 0 ≤ i ∧ 0 ≤ z ∧ i ≤ nI ln - z) (h2 : ¬ (0 ≤ j ∧ 0 ≤ z ∧ j ≤ nI lm - z)) : Run mX12_copy 30 0 0 [.ref 189, .int (nI a), .int i, .int (nI b), .int j, .int z] (SK, M, N) (RQ M N (-13) ((n, k, P, pa), kp, tp, sh)) := by
  refine Run.of (by decide) (Nat.le_of_ble_eq_true rfl) ?_
  have hok : OkP n k P := hA.1.1.1
  have hP : ∀ j, j < 47 → M 190 j = P j := hI.1.1
  have hn6 := hok.1
  have hk6 := hok.2.1
  have hn : M 190 0 = nI n := (hP 0 (by omega)).trans hok.2.2.1
  have hk : M 190 1 = nI k := (hP 1 (by omega)).trans hok.2.2.2.1
  obtain rfl : la = lb := hne.symm
  have h0 : ShR M N a (some (la, ln, f)) := by
    have h := hI.2.2.2 a ha
    rw [show (((n, k, P, pa), kp, tp, sh) : AS).2.2.2 a = some (la, ln, f) from hs] at h
    exact h
  obtain ⟨h6, h5, h7⟩ := h0
  obtain ⟨hla, hln⟩ := hA.2.2.2 a ha la ln f hs
  have h0b : ShR M N b (some (la, lm, g)) := by
    have h := hI.2.2.2 b hb
    rw [show (((n, k, P, pa), kp, tp, sh) : AS).2.2.2 b = some (la, lm, g) from hs2] at h
    exact h
  obtain ⟨h6b, h5b, h7b⟩ := h0b
  obtain ⟨hlab, hlnb⟩ := hA.2.2.2 b hb la lm g hs2
  refine g_iload_n (j := 1) (pc' := 1) dX12_copy_0 rfl rfl ?_
  refine g_i2l (pc' := 2) dX12_copy_1 rfl ?_
  refine g_lconst (v := 0) (pc' := 3) dX12_copy_2 (by decide) rfl ?_
  refine g_ldc2 (v := 3) (pc' := 6) dX12_copy_3 qX12_205 rfl ?_
  refine g_callS (my := mX12_in) (st := []) (av := [.long (Int32.toInt64 (nI a)), .long 0, .long 3]) (mcr := 0) (msr := 0) (mc := 0) (ms := 0) (pc' := 9) dX12_copy_6 kX12_in wX12_55 rfl (Nat.le_of_ble_eq_true rfl) (by decide) (r_in1 (lo := 0) (hi := 3) (by decide) (by decide) ((not_rng (hi := 3) (by omega) (by omega)))) rfl ?_
  rintro _ _ ⟨rfl, rfl⟩
  show Go mX12_copy _ _ _ 9 [(0, .ref 189), (1, .int (nI a)), (2, .int i), (3, .int (nI b)), (4, .int j), (5, .int z)] [.int 1] (SK, M, N) _
  refine g_if_eq (tgt := 24) (pc' := 12) dX12_copy_9 (by decide) rfl (fun hc => absurd hc (by decide)) (fun _ => ?_)
  refine g_iload_n (j := 3) (pc' := 13) dX12_copy_12 rfl rfl ?_
  refine g_i2l (pc' := 14) dX12_copy_13 rfl ?_
  refine g_lconst (v := 0) (pc' := 15) dX12_copy_14 (by decide) rfl ?_
  refine g_ldc2 (v := 3) (pc' := 18) dX12_copy_15 qX12_205 rfl ?_
  refine g_callS (my := mX12_in) (st := []) (av := [.long (Int32.toInt64 (nI b)), .long 0, .long 3]) (mcr := 0) (msr := 0) (mc := 0) (ms := 0) (pc' := 21) dX12_copy_18 kX12_in wX12_55 rfl (Nat.le_of_ble_eq_true rfl) (by decide) (r_in1 (lo := 0) (hi := 3) (by decide) (by decide) ((not_rng (hi := 3) (by omega) (by omega)))) rfl ?_
  rintro _ _ ⟨rfl, rfl⟩
  show Go mX12_copy _ _ _ 21 [(0, .ref 189), (1, .int (nI a)), (2, .int i), (3, .int (nI b)), (4, .int j), (5, .int z)] [.int 1] (SK, M, N) _
  refine g_if_ne (tgt := 26) (pc' := 24) dX12_copy_21 (by decide) rfl (fun _ => ?_) (fun hc => absurd hc (by decide))
  refine g_aload_n (j := 0) (pc' := 27) dX12_copy_26 rfl rfl ?_
  refine g_getR (pc' := 30) dX12_copy_27 fX12_28 rfl rfl rfl ?_
  refine g_iload_n (j := 1) (pc' := 31) dX12_copy_30 rfl rfl ?_
  refine g_iald (n := a) (pc' := 32) dX12_copy_31 rfl rfl (by omega) rfl ?_
  refine g_top (y := nI ln) (h6) ?_
  refine g_if_lt (tgt := 44) (pc' := 35) dX12_copy_32 (by decide) rfl (fun hc => (absurd hc (nI_pos (by omega)))) (fun hc => ?_)
  refine g_aload_n (j := 0) (pc' := 36) dX12_copy_35 rfl rfl ?_
  refine g_getR (pc' := 39) dX12_copy_36 fX12_28 rfl rfl rfl ?_
  refine g_iload_n (j := 3) (pc' := 40) dX12_copy_39 rfl rfl ?_
  refine g_iald (n := b) (pc' := 41) dX12_copy_40 rfl rfl (by omega) rfl ?_
  refine g_top (y := nI lm) (h6b) ?_
  refine g_if_ge (tgt := 47) (pc' := 44) dX12_copy_41 (by decide) rfl (fun hc => ?_) (fun hc => (absurd (nI_pos' (by omega)) hc))
  refine g_aload_n (j := 0) (pc' := 48) dX12_copy_47 rfl rfl ?_
  refine g_getR (pc' := 51) dX12_copy_48 fX12_25 rfl rfl rfl ?_
  refine g_iload_n (j := 1) (pc' := 52) dX12_copy_51 rfl rfl ?_
  refine g_iald (n := a) (pc' := 53) dX12_copy_52 rfl rfl (by omega) rfl ?_
  refine g_top (y := nI la) (h5) ?_
  refine g_aload_n (j := 0) (pc' := 54) dX12_copy_53 rfl rfl ?_
  refine g_getR (pc' := 57) dX12_copy_54 fX12_25 rfl rfl rfl ?_
  refine g_iload_n (j := 3) (pc' := 58) dX12_copy_57 rfl rfl ?_
  refine g_iald (n := b) (pc' := 59) dX12_copy_58 rfl rfl (by omega) rfl ?_
  refine g_top (y := nI la) (h5b) ?_
  refine g_icmp_eq (tgt := 65) (pc' := 62) dX12_copy_59 (by decide) rfl (fun hc => ?_) (fun hc => (absurd rfl hc))
  refine g_iload (j := 5) (pc' := 67) dX12_copy_65 rfl rfl ?_
  refine g_if_lt (tgt := 105) (pc' := 70) dX12_copy_67 (by decide) rfl (fun hc5 => ?_) (fun hc5 => ?_)
  · refine g_bipush (v := (-13)) (pc' := 107) dX12_copy_105 (by decide) rfl ?_
    exact g_iret dX12_copy_107 rfl rfl (RQ.same hI)
  · refine g_aload_n (j := 0) (pc' := 71) dX12_copy_70 rfl rfl ?_
    refine g_iload_n (j := 1) (pc' := 72) dX12_copy_71 rfl rfl ?_
    refine g_aload_n (j := 0) (pc' := 73) dX12_copy_72 rfl rfl ?_
    refine g_getR (pc' := 76) dX12_copy_73 fX12_25 rfl rfl rfl ?_
    refine g_iload_n (j := 1) (pc' := 77) dX12_copy_76 rfl rfl ?_
    refine g_iald (n := a) (pc' := 78) dX12_copy_77 rfl rfl (by omega) rfl ?_
    refine g_top (y := nI la) (h5) ?_
    refine g_iload_n (j := 2) (pc' := 79) dX12_copy_78 rfl rfl ?_
    refine g_iload (j := 5) (pc' := 81) dX12_copy_79 rfl rfl ?_
    refine g_callV (my := mX12_found) (k := 189) (st := []) (av := [.int (nI a), .int (nI la), .int i, .int z]) (mcr := 0) (msr := 0) (mc := 0) (ms := 0) (pc' := 84) dX12_copy_81 kX12_found wX12_213 rfl ⟨rfl, rfl⟩ rfl (Nat.le_of_ble_eq_true rfl) (by decide) (r_found hA hI ha hla i hc5) rfl ?_
    rintro _ _ ⟨rfl, rfl⟩
    show Go mX12_copy _ _ _ 84 [(0, .ref 189), (1, .int (nI a)), (2, .int i), (3, .int (nI b)), (4, .int j), (5, .int z)] [.int (wrS (sh a) la i z)] (SK, M, N) _
    have h9 : wrS (sh a) la i z = 0 := by rw [hs]; unfold wrS; simp only; rw [if_neg (fun q => q rfl), if_pos h1]
    refine g_top (y := 0) (h9) ?_
    refine g_if_lt (tgt := 105) (pc' := 87) dX12_copy_84 (by decide) rfl (fun hc => (absurd hc (by decide))) (fun hc => ?_)
    refine g_aload_n (j := 0) (pc' := 88) dX12_copy_87 rfl rfl ?_
    refine g_iload_n (j := 3) (pc' := 89) dX12_copy_88 rfl rfl ?_
    refine g_aload_n (j := 0) (pc' := 90) dX12_copy_89 rfl rfl ?_
    refine g_getR (pc' := 93) dX12_copy_90 fX12_25 rfl rfl rfl ?_
    refine g_iload_n (j := 3) (pc' := 94) dX12_copy_93 rfl rfl ?_
    refine g_iald (n := b) (pc' := 95) dX12_copy_94 rfl rfl (by omega) rfl ?_
    refine g_top (y := nI la) (h5b) ?_
    refine g_iload (j := 4) (pc' := 97) dX12_copy_95 rfl rfl ?_
    refine g_iload (j := 5) (pc' := 99) dX12_copy_97 rfl rfl ?_
    refine g_callV (my := mX12_found) (k := 189) (st := []) (av := [.int (nI b), .int (nI la), .int j, .int z]) (mcr := 0) (msr := 0) (mc := 0) (ms := 0) (pc' := 102) dX12_copy_99 kX12_found wX12_213 rfl ⟨rfl, rfl⟩ rfl (Nat.le_of_ble_eq_true rfl) (by decide) (r_found hA hI hb hla j hc5) rfl ?_
    rintro _ _ ⟨rfl, rfl⟩
    show Go mX12_copy _ _ _ 102 [(0, .ref 189), (1, .int (nI a)), (2, .int i), (3, .int (nI b)), (4, .int j), (5, .int z)] [.int (wrS (sh b) la j z)] (SK, M, N) _
    have h8 : wrS (sh b) la j z = -13 := by rw [hs2]; unfold wrS; simp only; rw [if_neg (fun q => q rfl), if_neg h2]
    refine g_top (y := (-13)) (h8) ?_
    refine g_if_ge (tgt := 108) (pc' := 105) dX12_copy_102 (by decide) rfl (fun hc => (absurd hc (by decide))) (fun hc => ?_)
    refine g_bipush (v := (-13)) (pc' := 107) dX12_copy_105 (by decide) rfl ?_
    exact g_iret dX12_copy_107 rfl rfl (RQ.same hI)
set_option maxRecDepth 100000 in
set_option maxHeartbeats 1000000 in
theorem r_copy {M : Nat → Nat → Int32} {N : Nat → Nat → Int64} {n k : Nat} {P : Nat → Int32} {pa : List (Nat → Int32)} {kp : Option YS} {tp : List Int32} {sh : Nat → Option (Nat × Nat × (Nat → Int64))} (hA : AOk ((n, k, P, pa), kp, tp, sh)) (hI : RI M N ((n, k, P, pa), kp, tp, sh)) {a b la ln lb lm : Nat} {f g : Nat → Int64} {q t c : Nat} (ha : a < 4) (hb : b < 4) (hs : sh a = some (la, ln, f)) (hs2 : sh b = some (lb, lm, g)) (hne : lb = la) (h1 : q + c ≤ ln) (hl1 : ln ≤ 24) (h2 : t + c ≤ lm) (hl2 : lm ≤ 24) : Run mX12_copy 30 0 0 [.ref 189, .int (nI a), .int (nI q), .int (nI b), .int (nI t), .int (nI c)] (SK, M, N) (RQ M N (nI c) ((n, k, P, pa), kp, tp, upS sh b (some (lb, lm, fun j => if t ≤ j ∧ j < t + c then f (q + (j - t)) else g j)))) := by
  refine Run.of (by decide) (Nat.le_of_ble_eq_true rfl) ?_
  have hok : OkP n k P := hA.1.1.1
  have hP : ∀ j, j < 47 → M 190 j = P j := hI.1.1
  have hn6 := hok.1
  have hk6 := hok.2.1
  have hn : M 190 0 = nI n := (hP 0 (by omega)).trans hok.2.2.1
  have hk : M 190 1 = nI k := (hP 1 (by omega)).trans hok.2.2.2.1
  obtain rfl : la = lb := hne.symm
  have h0 : ShR M N a (some (la, ln, f)) := by
    have h := hI.2.2.2 a ha
    rw [show (((n, k, P, pa), kp, tp, sh) : AS).2.2.2 a = some (la, ln, f) from hs] at h
    exact h
  obtain ⟨h6, h5, h7⟩ := h0
  obtain ⟨hla, hln⟩ := hA.2.2.2 a ha la ln f hs
  have h0b : ShR M N b (some (la, lm, g)) := by
    have h := hI.2.2.2 b hb
    rw [show (((n, k, P, pa), kp, tp, sh) : AS).2.2.2 b = some (la, lm, g) from hs2] at h
    exact h
  obtain ⟨h6b, h5b, h7b⟩ := h0b
  obtain ⟨hlab, hlnb⟩ := hA.2.2.2 b hb la lm g hs2
  refine g_iload_n (j := 1) (pc' := 1) dX12_copy_0 rfl rfl ?_
  refine g_i2l (pc' := 2) dX12_copy_1 rfl ?_
  refine g_lconst (v := 0) (pc' := 3) dX12_copy_2 (by decide) rfl ?_
  refine g_ldc2 (v := 3) (pc' := 6) dX12_copy_3 qX12_205 rfl ?_
  refine g_callS (my := mX12_in) (st := []) (av := [.long (Int32.toInt64 (nI a)), .long 0, .long 3]) (mcr := 0) (msr := 0) (mc := 0) (ms := 0) (pc' := 9) dX12_copy_6 kX12_in wX12_55 rfl (Nat.le_of_ble_eq_true rfl) (by decide) (r_in1 (lo := 0) (hi := 3) (by decide) (by decide) ((not_rng (hi := 3) (by omega) (by omega)))) rfl ?_
  rintro _ _ ⟨rfl, rfl⟩
  show Go mX12_copy _ _ _ 9 [(0, .ref 189), (1, .int (nI a)), (2, .int (nI q)), (3, .int (nI b)), (4, .int (nI t)), (5, .int (nI c))] [.int 1] (SK, M, N) _
  refine g_if_eq (tgt := 24) (pc' := 12) dX12_copy_9 (by decide) rfl (fun hc => absurd hc (by decide)) (fun _ => ?_)
  refine g_iload_n (j := 3) (pc' := 13) dX12_copy_12 rfl rfl ?_
  refine g_i2l (pc' := 14) dX12_copy_13 rfl ?_
  refine g_lconst (v := 0) (pc' := 15) dX12_copy_14 (by decide) rfl ?_
  refine g_ldc2 (v := 3) (pc' := 18) dX12_copy_15 qX12_205 rfl ?_
  refine g_callS (my := mX12_in) (st := []) (av := [.long (Int32.toInt64 (nI b)), .long 0, .long 3]) (mcr := 0) (msr := 0) (mc := 0) (ms := 0) (pc' := 21) dX12_copy_18 kX12_in wX12_55 rfl (Nat.le_of_ble_eq_true rfl) (by decide) (r_in1 (lo := 0) (hi := 3) (by decide) (by decide) ((not_rng (hi := 3) (by omega) (by omega)))) rfl ?_
  rintro _ _ ⟨rfl, rfl⟩
  show Go mX12_copy _ _ _ 21 [(0, .ref 189), (1, .int (nI a)), (2, .int (nI q)), (3, .int (nI b)), (4, .int (nI t)), (5, .int (nI c))] [.int 1] (SK, M, N) _
  refine g_if_ne (tgt := 26) (pc' := 24) dX12_copy_21 (by decide) rfl (fun _ => ?_) (fun hc => absurd hc (by decide))
  refine g_aload_n (j := 0) (pc' := 27) dX12_copy_26 rfl rfl ?_
  refine g_getR (pc' := 30) dX12_copy_27 fX12_28 rfl rfl rfl ?_
  refine g_iload_n (j := 1) (pc' := 31) dX12_copy_30 rfl rfl ?_
  refine g_iald (n := a) (pc' := 32) dX12_copy_31 rfl rfl (by omega) rfl ?_
  refine g_top (y := nI ln) (h6) ?_
  refine g_if_lt (tgt := 44) (pc' := 35) dX12_copy_32 (by decide) rfl (fun hc => (absurd hc (nI_pos (by omega)))) (fun hc => ?_)
  refine g_aload_n (j := 0) (pc' := 36) dX12_copy_35 rfl rfl ?_
  refine g_getR (pc' := 39) dX12_copy_36 fX12_28 rfl rfl rfl ?_
  refine g_iload_n (j := 3) (pc' := 40) dX12_copy_39 rfl rfl ?_
  refine g_iald (n := b) (pc' := 41) dX12_copy_40 rfl rfl (by omega) rfl ?_
  refine g_top (y := nI lm) (h6b) ?_
  refine g_if_ge (tgt := 47) (pc' := 44) dX12_copy_41 (by decide) rfl (fun hc => ?_) (fun hc => (absurd (nI_pos' (by omega)) hc))
  refine g_aload_n (j := 0) (pc' := 48) dX12_copy_47 rfl rfl ?_
  refine g_getR (pc' := 51) dX12_copy_48 fX12_25 rfl rfl rfl ?_
  refine g_iload_n (j := 1) (pc' := 52) dX12_copy_51 rfl rfl ?_
  refine g_iald (n := a) (pc' := 53) dX12_copy_52 rfl rfl (by omega) rfl ?_
  refine g_top (y := nI la) (h5) ?_
  refine g_aload_n (j := 0) (pc' := 54) dX12_copy_53 rfl rfl ?_
  refine g_getR (pc' := 57) dX12_copy_54 fX12_25 rfl rfl rfl ?_
  refine g_iload_n (j := 3) (pc' := 58) dX12_copy_57 rfl rfl ?_
  refine g_iald (n := b) (pc' := 59) dX12_copy_58 rfl rfl (by omega) rfl ?_
  refine g_top (y := nI la) (h5b) ?_
  refine g_icmp_eq (tgt := 65) (pc' := 62) dX12_copy_59 (by decide) rfl (fun hc => ?_) (fun hc => (absurd rfl hc))
  refine g_iload (j := 5) (pc' := 67) dX12_copy_65 rfl rfl ?_
  refine g_if_lt (tgt := 105) (pc' := 70) dX12_copy_67 (by decide) rfl (fun hc => (absurd hc (nI_pos (by omega)))) (fun hc => ?_)
  refine g_aload_n (j := 0) (pc' := 71) dX12_copy_70 rfl rfl ?_
  refine g_iload_n (j := 1) (pc' := 72) dX12_copy_71 rfl rfl ?_
  refine g_aload_n (j := 0) (pc' := 73) dX12_copy_72 rfl rfl ?_
  refine g_getR (pc' := 76) dX12_copy_73 fX12_25 rfl rfl rfl ?_
  refine g_iload_n (j := 1) (pc' := 77) dX12_copy_76 rfl rfl ?_
  refine g_iald (n := a) (pc' := 78) dX12_copy_77 rfl rfl (by omega) rfl ?_
  refine g_top (y := nI la) (h5) ?_
  refine g_iload_n (j := 2) (pc' := 79) dX12_copy_78 rfl rfl ?_
  refine g_iload (j := 5) (pc' := 81) dX12_copy_79 rfl rfl ?_
  refine g_callV (my := mX12_found) (k := 189) (st := []) (av := [.int (nI a), .int (nI la), .int (nI q), .int (nI c)]) (mcr := 0) (msr := 0) (mc := 0) (ms := 0) (pc' := 84) dX12_copy_81 kX12_found wX12_213 rfl ⟨rfl, rfl⟩ rfl (Nat.le_of_ble_eq_true rfl) (by decide) (r_found hA hI ha hla (nI q) (n := nI c) (nI_pos (by omega))) rfl ?_
  rintro _ _ ⟨rfl, rfl⟩
  show Go mX12_copy _ _ _ 84 [(0, .ref 189), (1, .int (nI a)), (2, .int (nI q)), (3, .int (nI b)), (4, .int (nI t)), (5, .int (nI c))] [.int (wrS (sh a) la (nI q) (nI c))] (SK, M, N) _
  refine g_top (y := 0) (wrS_of hs h1 hl1) ?_
  refine g_if_lt (tgt := 105) (pc' := 87) dX12_copy_84 (by decide) rfl (fun hc => (absurd hc (by decide))) (fun hc => ?_)
  refine g_aload_n (j := 0) (pc' := 88) dX12_copy_87 rfl rfl ?_
  refine g_iload_n (j := 3) (pc' := 89) dX12_copy_88 rfl rfl ?_
  refine g_aload_n (j := 0) (pc' := 90) dX12_copy_89 rfl rfl ?_
  refine g_getR (pc' := 93) dX12_copy_90 fX12_25 rfl rfl rfl ?_
  refine g_iload_n (j := 3) (pc' := 94) dX12_copy_93 rfl rfl ?_
  refine g_iald (n := b) (pc' := 95) dX12_copy_94 rfl rfl (by omega) rfl ?_
  refine g_top (y := nI la) (h5b) ?_
  refine g_iload (j := 4) (pc' := 97) dX12_copy_95 rfl rfl ?_
  refine g_iload (j := 5) (pc' := 99) dX12_copy_97 rfl rfl ?_
  refine g_callV (my := mX12_found) (k := 189) (st := []) (av := [.int (nI b), .int (nI la), .int (nI t), .int (nI c)]) (mcr := 0) (msr := 0) (mc := 0) (ms := 0) (pc' := 102) dX12_copy_99 kX12_found wX12_213 rfl ⟨rfl, rfl⟩ rfl (Nat.le_of_ble_eq_true rfl) (by decide) (r_found hA hI hb hla (nI t) (n := nI c) (nI_pos (by omega))) rfl ?_
  rintro _ _ ⟨rfl, rfl⟩
  show Go mX12_copy _ _ _ 102 [(0, .ref 189), (1, .int (nI a)), (2, .int (nI q)), (3, .int (nI b)), (4, .int (nI t)), (5, .int (nI c))] [.int (wrS (sh b) la (nI t) (nI c))] (SK, M, N) _
  refine g_top (y := 0) (wrS_of hs2 h2 hl2) ?_
  refine g_if_ge (tgt := 108) (pc' := 105) dX12_copy_102 (by decide) rfl (fun hc => ?_) (fun hc => (absurd (by decide) hc))
  refine g_iconst (v := 0) (pc' := 109) dX12_copy_108 (by decide) rfl ?_
  refine g_istore (L' := [(0, .ref 189), (1, .int (nI a)), (2, .int (nI q)), (3, .int (nI b)), (4, .int (nI t)), (5, .int (nI c)), (6, .int 0)]) (pc' := 111) dX12_copy_109 (by decide) rfl rfl ?_
  have fin : ∀ (N1 : Nat → Nat → Int64), (∀ x, N1 197 x = if 24 * b + t ≤ x ∧ x < 24 * b + t + c then N 197 (24 * a + q + (x - (24 * b + t))) else N 197 x) → (∀ e, e ≠ 197 → N1 e = N e) → RQ M N (nI c) ((n, k, P, pa), kp, tp, upS sh b (some (la, lm, fun j => if t ≤ j ∧ j < t + c then f (q + (j - t)) else g j))) (some (.int (nI c))) (SK, M, N1) := by
    intro N1 hx hf
    refine RQ.sheet hI hb ⟨h6b, h5b, fun j hj => ?_⟩ (fun _ _ _ _ => rfl) (fun _ _ => rfl) (fun _ _ => rfl) hf (fun j hj => by rw [hx, if_neg (by omega)])
    show N1 197 (24 * b + j) = if t ≤ j ∧ j < t + c then f (q + (j - t)) else g j
    rw [hx]
    by_cases e : t ≤ j ∧ j < t + c
    · rw [if_pos (by omega), if_pos e, ← h7 (q + (j - t)) (by omega)]
      congr 1
      omega
    · rw [if_neg (by omega), if_neg e]; exact h7b j hj
  rcases Nat.lt_or_ge q t with hqt | hqt
  · have loop : ∀ (u s : Nat) (N1 : Nat → Nat → Int64), s + u = c → (∀ x, N1 197 x = if 24 * b + t + (c - s) ≤ x ∧ x < 24 * b + t + c then N 197 (24 * a + q + (x - (24 * b + t))) else N 197 x) → (∀ e, e ≠ 197 → N1 e = N e) → Go mX12_copy 30 0 0 111 [(0, .ref 189), (1, .int (nI a)), (2, .int (nI q)), (3, .int (nI b)), (4, .int (nI t)), (5, .int (nI c)), (6, .int (nI s))] [] (SK, M, N1) (RQ M N (nI c) ((n, k, P, pa), kp, tp, upS sh b (some (la, lm, fun j => if t ≤ j ∧ j < t + c then f (q + (j - t)) else g j)))) := by
      intro u
      induction u with
      | zero =>
        intro s N1 hsu hx hf
        refine g_iload (j := 6) (pc' := 113) dX12_copy_111 rfl rfl ?_
        refine g_iload (j := 5) (pc' := 115) dX12_copy_113 rfl rfl ?_
        refine g_icmp_ge (tgt := 173) (pc' := 118) dX12_copy_115 (by decide) rfl (fun hc => ?_) (fun hc => (absurd (nI_le (a := c) (b := s) (by omega) (by omega)) hc))
        refine g_iload (j := 5) (pc' := 175) dX12_copy_173 rfl rfl ?_
        refine g_iret dX12_copy_175 rfl rfl (fin N1 (fun x => ?_) hf)
        rw [hx x]
        by_cases e : 24 * b + t ≤ x ∧ x < 24 * b + t + c
        · rw [if_pos e, if_pos (by omega)]
        · rw [if_neg e, if_neg (by omega)]
      | succ u ih =>
        intro s N1 hsu hx hf
        refine g_iload (j := 6) (pc' := 113) dX12_copy_111 rfl rfl ?_
        refine g_iload (j := 5) (pc' := 115) dX12_copy_113 rfl rfl ?_
        refine g_icmp_ge (tgt := 173) (pc' := 118) dX12_copy_115 (by decide) rfl (fun hc => (absurd hc (nI_ge (a := s) (b := c) (by omega) (by omega)))) (fun hc => ?_)
        refine g_iload (j := 4) (pc' := 120) dX12_copy_118 rfl rfl ?_
        refine g_iload_n (j := 2) (pc' := 121) dX12_copy_120 rfl rfl ?_
        refine g_icmp_le (tgt := 134) (pc' := 124) dX12_copy_121 (by decide) rfl (fun hc => (absurd hc (nI_ge (a := q) (b := t) hqt (by omega)))) (fun hc => ?_)
        refine g_iload (j := 5) (pc' := 126) dX12_copy_124 rfl rfl ?_
        refine g_iconst (v := 1) (pc' := 127) dX12_copy_126 (by decide) rfl ?_
        refine g_isub (pc' := 128) dX12_copy_127 rfl ?_
        refine g_top (y := nI (c - 1)) (pk_sub (a := c) (b := 1) (by omega)) ?_
        refine g_iload (j := 6) (pc' := 130) dX12_copy_128 rfl rfl ?_
        refine g_isub (pc' := 131) dX12_copy_130 rfl ?_
        refine g_top (y := nI (c - 1 - s)) (pk_sub (by omega)) ?_
        refine g_goto (tgt := 136) dX12_copy_131 (by decide) ?_
        refine g_istore (L' := [(0, .ref 189), (1, .int (nI a)), (2, .int (nI q)), (3, .int (nI b)), (4, .int (nI t)), (5, .int (nI c)), (6, .int (nI s)), (7, .int (nI (c - 1 - s)))]) (pc' := 138) dX12_copy_136 (by decide) rfl rfl ?_
        refine g_aload_n (j := 0) (pc' := 139) dX12_copy_138 rfl rfl ?_
        refine g_getR (pc' := 142) dX12_copy_139 fX12_31 rfl rfl rfl ?_
        refine g_bipush (v := 24) (pc' := 144) dX12_copy_142 (by decide) rfl ?_
        refine g_iload_n (j := 3) (pc' := 145) dX12_copy_144 rfl rfl ?_
        refine g_imul (pc' := 146) dX12_copy_145 rfl ?_
        refine g_iload (j := 4) (pc' := 148) dX12_copy_146 rfl rfl ?_
        refine g_iadd (pc' := 149) dX12_copy_148 rfl ?_
        refine g_iload (j := 7) (pc' := 151) dX12_copy_149 rfl rfl ?_
        refine g_iadd (pc' := 152) dX12_copy_151 rfl ?_
        refine g_aload_n (j := 0) (pc' := 153) dX12_copy_152 rfl rfl ?_
        refine g_getR (pc' := 156) dX12_copy_153 fX12_31 rfl rfl rfl ?_
        refine g_bipush (v := 24) (pc' := 158) dX12_copy_156 (by decide) rfl ?_
        refine g_iload_n (j := 1) (pc' := 159) dX12_copy_158 rfl rfl ?_
        refine g_imul (pc' := 160) dX12_copy_159 rfl ?_
        refine g_iload_n (j := 2) (pc' := 161) dX12_copy_160 rfl rfl ?_
        refine g_iadd (pc' := 162) dX12_copy_161 rfl ?_
        refine g_iload (j := 7) (pc' := 164) dX12_copy_162 rfl rfl ?_
        refine g_iadd (pc' := 165) dX12_copy_164 rfl ?_
        refine g_lald (n := ((24 * a) + q) + (c - 1 - s)) (pc' := 166) dX12_copy_165 rfl (nI_addE (nI_addE (nI_mulE rfl rfl) rfl) rfl) (by omega) rfl ?_
        have hrd : N1 197 (24 * a + q + (c - 1 - s)) = N 197 (24 * a + q + (c - 1 - s)) := by rw [hx, if_neg (by omega)]
        refine g_topL (y := N 197 (24 * a + q + (c - 1 - s))) hrd ?_
        refine g_last (n := ((24 * b) + t) + (c - 1 - s)) (pc' := 167) dX12_copy_166 rfl (nI_addE (nI_addE (nI_mulE rfl rfl) rfl) rfl) (by omega) rfl ?_
        generalize hN2 : (um N1 197 (((24 * b) + t) + (c - 1 - s)) (N 197 (24 * a + q + (c - 1 - s)))) = N2
        refine g_iinc (j := 6) (v := nI (s + 1)) (L' := [(0, .ref 189), (1, .int (nI a)), (2, .int (nI q)), (3, .int (nI b)), (4, .int (nI t)), (5, .int (nI c)), (6, .int (nI (s + 1))), (7, .int (nI (c - 1 - s)))]) (pc' := 170) dX12_copy_167 rfl (nI_1 s) (by decide) rfl rfl ?_
        refine g_less (L' := [(0, .ref 189), (1, .int (nI a)), (2, .int (nI q)), (3, .int (nI b)), (4, .int (nI t)), (5, .int (nI c)), (6, .int (nI (s + 1)))]) [0, 1, 2, 3, 4, 5, 6] rfl ?_
        refine g_goto (tgt := 111) dX12_copy_170 (by decide) ?_
        refine ih (s + 1) N2 (by omega) (fun x => ?_) (fun e he => by rw [← hN2, um_ne he]; exact hf e he)
        rw [← hN2]
        by_cases e : x = 24 * b + t + (c - 1 - s)
        · subst e; rw [um_at, if_pos (by omega)]; congr 1; omega
        · rw [um_at2 e, hx x]
          by_cases e2 : 24 * b + t + (c - s) ≤ x ∧ x < 24 * b + t + c
          · rw [if_pos e2, if_pos (by omega)]
          · rw [if_neg e2, if_neg (by omega)]
    exact loop c 0 N (by omega) (fun x => by rw [if_neg (by omega)]) (fun _ _ => rfl)
  · have loop : ∀ (u s : Nat) (N1 : Nat → Nat → Int64), s + u = c → (∀ x, N1 197 x = if 24 * b + t + 0 ≤ x ∧ x < 24 * b + t + s then N 197 (24 * a + q + (x - (24 * b + t))) else N 197 x) → (∀ e, e ≠ 197 → N1 e = N e) → Go mX12_copy 30 0 0 111 [(0, .ref 189), (1, .int (nI a)), (2, .int (nI q)), (3, .int (nI b)), (4, .int (nI t)), (5, .int (nI c)), (6, .int (nI s))] [] (SK, M, N1) (RQ M N (nI c) ((n, k, P, pa), kp, tp, upS sh b (some (la, lm, fun j => if t ≤ j ∧ j < t + c then f (q + (j - t)) else g j)))) := by
      intro u
      induction u with
      | zero =>
        intro s N1 hsu hx hf
        refine g_iload (j := 6) (pc' := 113) dX12_copy_111 rfl rfl ?_
        refine g_iload (j := 5) (pc' := 115) dX12_copy_113 rfl rfl ?_
        refine g_icmp_ge (tgt := 173) (pc' := 118) dX12_copy_115 (by decide) rfl (fun hc => ?_) (fun hc => (absurd (nI_le (a := c) (b := s) (by omega) (by omega)) hc))
        refine g_iload (j := 5) (pc' := 175) dX12_copy_173 rfl rfl ?_
        refine g_iret dX12_copy_175 rfl rfl (fin N1 (fun x => ?_) hf)
        rw [hx x]
        by_cases e : 24 * b + t ≤ x ∧ x < 24 * b + t + c
        · rw [if_pos e, if_pos (by omega)]
        · rw [if_neg e, if_neg (by omega)]
      | succ u ih =>
        intro s N1 hsu hx hf
        refine g_iload (j := 6) (pc' := 113) dX12_copy_111 rfl rfl ?_
        refine g_iload (j := 5) (pc' := 115) dX12_copy_113 rfl rfl ?_
        refine g_icmp_ge (tgt := 173) (pc' := 118) dX12_copy_115 (by decide) rfl (fun hc => (absurd hc (nI_ge (a := s) (b := c) (by omega) (by omega)))) (fun hc => ?_)
        refine g_iload (j := 4) (pc' := 120) dX12_copy_118 rfl rfl ?_
        refine g_iload_n (j := 2) (pc' := 121) dX12_copy_120 rfl rfl ?_
        refine g_icmp_le (tgt := 134) (pc' := 124) dX12_copy_121 (by decide) rfl (fun hc => ?_) (fun hc => (absurd (nI_le (a := t) (b := q) hqt (by omega)) hc))
        refine g_iload (j := 6) (pc' := 136) dX12_copy_134 rfl rfl ?_
        refine g_istore (L' := [(0, .ref 189), (1, .int (nI a)), (2, .int (nI q)), (3, .int (nI b)), (4, .int (nI t)), (5, .int (nI c)), (6, .int (nI s)), (7, .int (nI s))]) (pc' := 138) dX12_copy_136 (by decide) rfl rfl ?_
        refine g_aload_n (j := 0) (pc' := 139) dX12_copy_138 rfl rfl ?_
        refine g_getR (pc' := 142) dX12_copy_139 fX12_31 rfl rfl rfl ?_
        refine g_bipush (v := 24) (pc' := 144) dX12_copy_142 (by decide) rfl ?_
        refine g_iload_n (j := 3) (pc' := 145) dX12_copy_144 rfl rfl ?_
        refine g_imul (pc' := 146) dX12_copy_145 rfl ?_
        refine g_iload (j := 4) (pc' := 148) dX12_copy_146 rfl rfl ?_
        refine g_iadd (pc' := 149) dX12_copy_148 rfl ?_
        refine g_iload (j := 7) (pc' := 151) dX12_copy_149 rfl rfl ?_
        refine g_iadd (pc' := 152) dX12_copy_151 rfl ?_
        refine g_aload_n (j := 0) (pc' := 153) dX12_copy_152 rfl rfl ?_
        refine g_getR (pc' := 156) dX12_copy_153 fX12_31 rfl rfl rfl ?_
        refine g_bipush (v := 24) (pc' := 158) dX12_copy_156 (by decide) rfl ?_
        refine g_iload_n (j := 1) (pc' := 159) dX12_copy_158 rfl rfl ?_
        refine g_imul (pc' := 160) dX12_copy_159 rfl ?_
        refine g_iload_n (j := 2) (pc' := 161) dX12_copy_160 rfl rfl ?_
        refine g_iadd (pc' := 162) dX12_copy_161 rfl ?_
        refine g_iload (j := 7) (pc' := 164) dX12_copy_162 rfl rfl ?_
        refine g_iadd (pc' := 165) dX12_copy_164 rfl ?_
        refine g_lald (n := ((24 * a) + q) + s) (pc' := 166) dX12_copy_165 rfl (nI_addE (nI_addE (nI_mulE rfl rfl) rfl) rfl) (by omega) rfl ?_
        have hrd : N1 197 (24 * a + q + s) = N 197 (24 * a + q + s) := by rw [hx, if_neg (by omega)]
        refine g_topL (y := N 197 (24 * a + q + s)) hrd ?_
        refine g_last (n := ((24 * b) + t) + s) (pc' := 167) dX12_copy_166 rfl (nI_addE (nI_addE (nI_mulE rfl rfl) rfl) rfl) (by omega) rfl ?_
        generalize hN2 : (um N1 197 (((24 * b) + t) + s) (N 197 (24 * a + q + s))) = N2
        refine g_iinc (j := 6) (v := nI (s + 1)) (L' := [(0, .ref 189), (1, .int (nI a)), (2, .int (nI q)), (3, .int (nI b)), (4, .int (nI t)), (5, .int (nI c)), (6, .int (nI (s + 1))), (7, .int (nI s))]) (pc' := 170) dX12_copy_167 rfl (nI_1 s) (by decide) rfl rfl ?_
        refine g_less (L' := [(0, .ref 189), (1, .int (nI a)), (2, .int (nI q)), (3, .int (nI b)), (4, .int (nI t)), (5, .int (nI c)), (6, .int (nI (s + 1)))]) [0, 1, 2, 3, 4, 5, 6] rfl ?_
        refine g_goto (tgt := 111) dX12_copy_170 (by decide) ?_
        refine ih (s + 1) N2 (by omega) (fun x => ?_) (fun e he => by rw [← hN2, um_ne he]; exact hf e he)
        rw [← hN2]
        by_cases e : x = 24 * b + t + s
        · subst e; rw [um_at, if_pos (by omega)]; congr 1; omega
        · rw [um_at2 e, hx x]
          by_cases e2 : 24 * b + t + 0 ≤ x ∧ x < 24 * b + t + s
          · rw [if_pos e2, if_pos (by omega)]
          · rw [if_neg e2, if_neg (by omega)]
    exact loop c 0 N (by omega) (fun x => by rw [if_neg (by omega)]) (fun _ _ => rfl)
