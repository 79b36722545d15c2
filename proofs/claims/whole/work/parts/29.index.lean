/-! ===== String.indexOf(int) on a constant ===== -/
theorem sJ0_9 : Cond.fieldLink RJ0 9 "java/lang/String" "value" "[B" ∈ gtbl := tb_of 1074 (by decide +kernel) (by decide +kernel)
theorem sJ0_15 : Cond.fieldLink RJ0 15 "java/lang/String" "coder" "B" ∈ gtbl := tb_of 1073 (by decide +kernel) (by decide +kernel)
theorem sJ0_38 : Cond.fieldLink RJ0 38 "java/lang/String" "COMPACT_STRINGS" "Z" ∈ gtbl := tb_of 422 (by decide +kernel) (by decide +kernel)
theorem zJ1_92 : Cond.methodLink RJ1 92 Lib.Math.max.name ∈ gtbl ∧ Cond.static Lib.Math.max.name ∈ gtbl ∧ Cond.initialized "java/lang/Math" ∈ gtbl ∧ Cond.code Lib.Math.max.name Lib.Math.max.code 2 (some .int) ∈ gtbl := ⟨tb_of 438 (by decide +kernel) (by decide +kernel), tb_of 439 (by decide +kernel) (by decide +kernel), tb_of 16 (by decide +kernel) (by decide +kernel), tb_of 440 (by decide +kernel) (by decide +kernel)⟩
theorem zJ1_38 : Cond.methodLink RJ1 38 Lib.Math.min.name ∈ gtbl ∧ Cond.static Lib.Math.min.name ∈ gtbl ∧ Cond.initialized "java/lang/Math" ∈ gtbl ∧ Cond.code Lib.Math.min.name Lib.Math.min.code 2 (some .int) ∈ gtbl := ⟨tb_of 441 (by decide +kernel) (by decide +kernel), tb_of 442 (by decide +kernel) (by decide +kernel), tb_of 16 (by decide +kernel) (by decide +kernel), tb_of 443 (by decide +kernel) (by decide +kernel)⟩
theorem slen_lt {i : Nat} (hi : i < 7) : slen.getD i 0 < 1000 := by
  have h : ∀ i, i < 7 → slen.getD i 0 < 1000 := by decide
  exact h i hi
theorem slen_ok {i : Nat} (hi : i < 7) : slen.getD i 0 = (sbyt.getD i []).length ∧ 0 < slen.getD i 0 := by
  have h : ∀ i, i < 7 → (slen.getD i 0 = (sbyt.getD i []).length ∧ 0 < slen.getD i 0) := by decide
  exact h i hi
theorem byteI : ∀ q, q < 128 → (nI q).toInt8.toInt32 = nI q := by decide
/-- where q stands among the signs of constant i -/
def ixO (i q : Nat) : Option Nat := firstIx (fun j => (sbyt.getD i []).getD j 0 == nI q) 0 (slen.getD i 0)
set_option maxRecDepth 100000 in
set_option maxHeartbeats 1000000 in
theorem s_isLatin1 {i : Nat} (h : AH) (hi : i < 7) : Run mJ0_isLatin1_aae02 0 0 0 [.ref (2000000 + i)] h (fun r h' => h' = h ∧ r = some (.int 1)) := by
  refine Run.of (by decide) (Nat.le_of_ble_eq_true rfl) ?_
  refine g_cstat (pc' := 3) dJ0_isLatin1_aae02_0 sJ0_38 rfl ?_
  refine g_if_eq (tgt := 17) (pc' := 6) dJ0_isLatin1_aae02_3 (by decide) rfl (fun hc => absurd hc (by decide)) (fun _ => ?_)
  refine g_aload_n (j := 0) (pc' := 7) dJ0_isLatin1_aae02_6 rfl rfl ?_
  refine g_strC (pc' := 10) dJ0_isLatin1_aae02_7 hi sJ0_15 rfl ?_
  refine g_if_ne (tgt := 17) (pc' := 13) dJ0_isLatin1_aae02_10 (by decide) rfl (fun hc => absurd rfl hc) (fun _ => ?_)
  refine g_iconst (v := 1) (pc' := 14) dJ0_isLatin1_aae02_13 (by decide) rfl ?_
  refine g_goto (tgt := 18) dJ0_isLatin1_aae02_14 (by decide) ?_
  exact g_iret dJ0_isLatin1_aae02_18 rfl (by decide) (⟨rfl, rfl⟩)
abbrev mJ0_coder_7d493 : MM := (yJ0_coder_7d493, cJ0_coder_7d493, 1, some .byte)
theorem kJ0_coder_7d493 : MOk mJ0_coder_7d493 0 := ⟨tb_of 431 (by decide +kernel) (by decide +kernel), tb_of 14 (by decide +kernel) (by decide +kernel), ⟨by decide +kernel, by decide +kernel, by decide +kernel⟩, by decide⟩
set_option maxRecDepth 100000 in
set_option maxHeartbeats 1000000 in
theorem s_coder {i : Nat} (h : AH) (hi : i < 7) : Run mJ0_coder_7d493 0 0 0 [.ref (2000000 + i)] h (fun r h' => h' = h ∧ r = some (.int 0)) := by
  refine Run.of (by decide) (Nat.le_of_ble_eq_true rfl) ?_
  refine g_cstat (pc' := 3) dJ0_coder_7d493_0 sJ0_38 rfl ?_
  refine g_if_eq (tgt := 13) (pc' := 6) dJ0_coder_7d493_3 (by decide) rfl (fun hc => absurd hc (by decide)) (fun _ => ?_)
  refine g_aload_n (j := 0) (pc' := 7) dJ0_coder_7d493_6 rfl rfl ?_
  refine g_strC (pc' := 10) dJ0_coder_7d493_7 hi sJ0_15 rfl ?_
  refine g_goto (tgt := 14) dJ0_coder_7d493_10 (by decide) ?_
  exact g_iret dJ0_coder_7d493_14 rfl (by decide) (⟨rfl, rfl⟩)
set_option maxRecDepth 100000 in
set_option maxHeartbeats 1000000 in
theorem s_strlen {i : Nat} (h : AH) (hi : i < 7) : Run mJ0_length_8abf5 1 0 0 [.ref (2000000 + i)] h (fun r h' => h' = h ∧ r = some (.int (nI (slen.getD i 0)))) := by
  refine Run.of (by decide) (Nat.le_of_ble_eq_true rfl) ?_
  refine g_aload_n (j := 0) (pc' := 1) dJ0_length_8abf5_0 rfl rfl ?_
  refine g_strV (pc' := 4) dJ0_length_8abf5_1 hi sJ0_9 rfl ?_
  refine g_tlen (pc' := 5) dJ0_length_8abf5_4 hi rfl ?_
  refine g_aload_n (j := 0) (pc' := 6) dJ0_length_8abf5_5 rfl rfl ?_
  refine g_callVS (my := mJ0_coder_7d493) (i := i) (st := [.int (nI (slen.getD i 0))]) (av := []) (mcr := 0) (msr := 0) (mc := 0) (ms := 0) (pc' := 9) dJ0_length_8abf5_6 kJ0_coder_7d493 wJ0_335 hi rfl rfl (Nat.le_of_ble_eq_true rfl) (by decide) (s_coder h hi) rfl ?_
  rintro _ _ ⟨h9, rfl⟩
  rw [h9]
  show Go mJ0_length_8abf5 _ _ _ 9 [(0, .ref (2000000 + i))] [.int 0, .int (nI (slen.getD i 0))] h _
  refine g_ishr (pc' := 10) dJ0_length_8abf5_9 rfl ?_
  exact g_iret dJ0_length_8abf5_10 rfl rfl (⟨rfl, by rw [sc_shr0 (by have := slen_lt hi; omega)]⟩)
set_option maxRecDepth 100000 in
set_option maxHeartbeats 1000000 in
theorem s_canEncode {q : Nat} (h : AH) (hq : q < 128) : Run mJ1_canEncode_9a6ad 0 0 0 [.int (nI q)] h (fun r h' => h' = h ∧ r = some (.int 1)) := by
  refine Run.of (by decide) (Nat.le_of_ble_eq_true rfl) ?_
  refine g_iload_n (j := 0) (pc' := 1) dJ1_canEncode_9a6ad_0 rfl rfl ?_
  refine g_if_lt (tgt := 15) (pc' := 4) dJ1_canEncode_9a6ad_1 (by decide) rfl (fun hc => (absurd hc (nI_pos (by omega)))) (fun hc => ?_)
  refine g_iload_n (j := 0) (pc' := 5) dJ1_canEncode_9a6ad_4 rfl rfl ?_
  refine g_sipush (v := 255) (pc' := 8) dJ1_canEncode_9a6ad_5 (by decide) rfl ?_
  refine g_icmp_gt (tgt := 15) (pc' := 11) dJ1_canEncode_9a6ad_8 (by decide) rfl (fun hc => (absurd hc (nI_nlt (a := 255) (b := q) (by omega) (by omega)))) (fun hc => ?_)
  refine g_iconst (v := 1) (pc' := 12) dJ1_canEncode_9a6ad_11 (by decide) rfl ?_
  refine g_goto (tgt := 16) dJ1_canEncode_9a6ad_12 (by decide) ?_
  exact g_iret dJ1_canEncode_9a6ad_16 rfl (by decide) (⟨rfl, rfl⟩)
set_option maxRecDepth 100000 in
set_option maxHeartbeats 1000000 in
theorem s_indexOfChar {i q : Nat} (h : AH) (hi : i < 7) (hq : q < 128) : Run mJ1_indexOfChar_4cfef 0 0 0 [.ref (2000010 + i), .int (nI q), .int 0, .int (nI (slen.getD i 0))] h (fun r h' => h' = h ∧ r = some (.int (optI (-1) (ixO i q)))) := by
  refine Run.of (by decide) (Nat.le_of_ble_eq_true rfl) ?_
  refine g_iload_n (j := 1) (pc' := 1) dJ1_indexOfChar_4cfef_0 rfl rfl ?_
  refine g_i2b (pc' := 2) dJ1_indexOfChar_4cfef_1 rfl ?_
  refine g_top (y := nI q) (byteI q hq) ?_
  refine g_istore (L' := [(0, .ref (2000010 + i)), (1, .int (nI q)), (2, .int 0), (3, .int (nI (slen.getD i 0))), (4, .int (nI q))]) (pc' := 4) dJ1_indexOfChar_4cfef_2 (by decide) rfl rfl ?_
  refine g_iload_n (j := 2) (pc' := 5) dJ1_indexOfChar_4cfef_4 rfl rfl ?_
  refine g_istore (L' := [(0, .ref (2000010 + i)), (1, .int (nI q)), (2, .int 0), (3, .int (nI (slen.getD i 0))), (4, .int (nI q)), (5, .int 0)]) (pc' := 7) dJ1_indexOfChar_4cfef_5 (by decide) rfl rfl ?_
  have hsl := slen_lt hi
  have loop : ∀ (t j : Nat), j + t = slen.getD i 0 → Go mJ1_indexOfChar_4cfef 0 0 0 7 [(0, .ref (2000010 + i)), (1, .int (nI q)), (2, .int 0), (3, .int (nI (slen.getD i 0))), (4, .int (nI q)), (5, .int (nI j))] [] h (fun r h' => h' = h ∧ r = some (.int (optI (-1) (firstIx (fun j => (sbyt.getD i []).getD j 0 == nI q) j t)))) := by
    intro t
    induction t with
    | zero =>
      intro j hj
      refine g_iload (j := 5) (pc' := 9) dJ1_indexOfChar_4cfef_7 rfl rfl ?_
      refine g_iload_n (j := 3) (pc' := 10) dJ1_indexOfChar_4cfef_9 rfl rfl ?_
      refine g_icmp_ge (tgt := 31) (pc' := 13) dJ1_indexOfChar_4cfef_10 (by decide) rfl (fun hc => ?_) (fun hc => (absurd (nI_le (by omega) (by omega)) hc))
      refine g_iconst (v := (-1)) (pc' := 32) dJ1_indexOfChar_4cfef_31 (by decide) rfl ?_
      exact g_iret dJ1_indexOfChar_4cfef_32 rfl rfl (⟨rfl, rfl⟩)
    | succ t ih =>
      intro j hj
      refine g_iload (j := 5) (pc' := 9) dJ1_indexOfChar_4cfef_7 rfl rfl ?_
      refine g_iload_n (j := 3) (pc' := 10) dJ1_indexOfChar_4cfef_9 rfl rfl ?_
      refine g_icmp_ge (tgt := 31) (pc' := 13) dJ1_indexOfChar_4cfef_10 (by decide) rfl (fun hc => (absurd hc (nI_ge (by omega) (by omega)))) (fun hc => ?_)
      refine g_aload_n (j := 0) (pc' := 14) dJ1_indexOfChar_4cfef_13 rfl rfl ?_
      refine g_iload (j := 5) (pc' := 16) dJ1_indexOfChar_4cfef_14 rfl rfl ?_
      refine g_tb (n := j) (pc' := 17) dJ1_indexOfChar_4cfef_16 hi rfl (by omega) (slen_lt hi) rfl ?_
      refine g_iload (j := 4) (pc' := 19) dJ1_indexOfChar_4cfef_17 rfl rfl ?_
      refine g_icmp_ne (tgt := 25) (pc' := 22) dJ1_indexOfChar_4cfef_19 (by decide) rfl (fun hc2 => ?_) (fun hc2 => ?_)
      · refine g_iinc (j := 5) (v := nI (j + 1)) (L' := [(0, .ref (2000010 + i)), (1, .int (nI q)), (2, .int 0), (3, .int (nI (slen.getD i 0))), (4, .int (nI q)), (5, .int (nI (j + 1)))]) (pc' := 28) dJ1_indexOfChar_4cfef_25 rfl (nI_1 j) (by decide) rfl rfl ?_
        refine g_goto (tgt := 7) dJ1_indexOfChar_4cfef_28 (by decide) ?_
        simp only [firstIx, beq_iff_eq, hc2, if_false]
        exact ih (j + 1) (by omega)
      · refine g_iload (j := 5) (pc' := 24) dJ1_indexOfChar_4cfef_22 rfl rfl ?_
        exact g_iret dJ1_indexOfChar_4cfef_24 rfl rfl (⟨rfl, by simp only [firstIx, beq_iff_eq, hc2, if_true, optI]⟩)
  exact loop (slen.getD i 0) 0 (by omega)
set_option maxRecDepth 100000 in
set_option maxHeartbeats 1000000 in
theorem s_l1index {i q : Nat} (h : AH) (hi : i < 7) (hq : q < 128) : Run mJ1_indexOf_4cfef 1 0 0 [.ref (2000010 + i), .int (nI q), .int 0, .int (nI (slen.getD i 0))] h (fun r h' => h' = h ∧ r = some (.int (optI (-1) (ixO i q)))) := by
  refine Run.of (by decide) (Nat.le_of_ble_eq_true rfl) ?_
  have hsl := slen_lt hi
  have hok := slen_ok hi
  refine g_iload_n (j := 1) (pc' := 1) dJ1_indexOf_4cfef_0 rfl rfl ?_
  refine g_callS (my := mJ1_canEncode_9a6ad) (st := []) (av := [.int (nI q)]) (mcr := 0) (msr := 0) (mc := 0) (ms := 0) (pc' := 4) dJ1_indexOf_4cfef_1 kJ1_canEncode_9a6ad wJ1_88 rfl (Nat.le_of_ble_eq_true rfl) (by decide) (s_canEncode h hq) rfl ?_
  rintro _ _ ⟨h9, rfl⟩
  rw [h9]
  show Go mJ1_indexOf_4cfef _ _ _ 4 [(0, .ref (2000010 + i)), (1, .int (nI q)), (2, .int 0), (3, .int (nI (slen.getD i 0)))] [.int 1] h _
  refine g_if_ne (tgt := 9) (pc' := 7) dJ1_indexOf_4cfef_4 (by decide) rfl (fun _ => ?_) (fun hc => absurd hc (by decide))
  refine g_iload_n (j := 2) (pc' := 10) dJ1_indexOf_4cfef_9 rfl rfl ?_
  refine g_iconst (v := 0) (pc' := 11) dJ1_indexOf_4cfef_10 (by decide) rfl ?_
  refine g_max (st := []) (pc' := 14) dJ1_indexOf_4cfef_11 zJ1_92 (Nat.le_of_ble_eq_true rfl) (by decide) rfl ?_
  refine g_top (y := 0) (by decide) ?_
  refine g_istore_n (L' := [(0, .ref (2000010 + i)), (1, .int (nI q)), (2, .int 0), (3, .int (nI (slen.getD i 0)))]) (pc' := 15) dJ1_indexOf_4cfef_14 (by decide) rfl rfl ?_
  refine g_iload_n (j := 3) (pc' := 16) dJ1_indexOf_4cfef_15 rfl rfl ?_
  refine g_aload_n (j := 0) (pc' := 17) dJ1_indexOf_4cfef_16 rfl rfl ?_
  refine g_tlen (pc' := 18) dJ1_indexOf_4cfef_17 hi rfl ?_
  refine g_min (st := []) (pc' := 21) dJ1_indexOf_4cfef_18 zJ1_38 (Nat.le_of_ble_eq_true rfl) (by decide) rfl ?_
  refine g_top (y := nI (slen.getD i 0)) (if_neg (nI_nlt (Nat.le_refl _) (by omega))) ?_
  refine g_istore_n (L' := [(0, .ref (2000010 + i)), (1, .int (nI q)), (2, .int 0), (3, .int (nI (slen.getD i 0)))]) (pc' := 22) dJ1_indexOf_4cfef_21 (by decide) rfl rfl ?_
  refine g_iload_n (j := 2) (pc' := 23) dJ1_indexOf_4cfef_22 rfl rfl ?_
  refine g_iload_n (j := 3) (pc' := 24) dJ1_indexOf_4cfef_23 rfl rfl ?_
  refine g_icmp_lt (tgt := 29) (pc' := 27) dJ1_indexOf_4cfef_24 (by decide) rfl (fun hc => ?_) (fun hc => (absurd (show (0 : Int32) < nI (slen.getD i 0) from nI_lt (a := 0) hok.2 (by omega)) hc))
  refine g_aload_n (j := 0) (pc' := 30) dJ1_indexOf_4cfef_29 rfl rfl ?_
  refine g_iload_n (j := 1) (pc' := 31) dJ1_indexOf_4cfef_30 rfl rfl ?_
  refine g_iload_n (j := 2) (pc' := 32) dJ1_indexOf_4cfef_31 rfl rfl ?_
  refine g_iload_n (j := 3) (pc' := 33) dJ1_indexOf_4cfef_32 rfl rfl ?_
  refine g_callS (my := mJ1_indexOfChar_4cfef) (st := []) (av := [.ref (2000010 + i), .int (nI q), .int 0, .int (nI (slen.getD i 0))]) (mcr := 0) (msr := 0) (mc := 0) (ms := 0) (pc' := 36) dJ1_indexOf_4cfef_33 kJ1_indexOfChar_4cfef wJ1_95 rfl (Nat.le_of_ble_eq_true rfl) (by decide) (s_indexOfChar h hi hq) rfl ?_
  rintro _ _ ⟨h9, rfl⟩
  rw [h9]
  show Go mJ1_indexOf_4cfef _ _ _ 36 [(0, .ref (2000010 + i)), (1, .int (nI q)), (2, .int 0), (3, .int (nI (slen.getD i 0)))] [.int (optI (-1) (ixO i q))] h _
  exact g_iret dJ1_indexOf_4cfef_36 rfl rfl (⟨rfl, rfl⟩)
set_option maxRecDepth 100000 in
set_option maxHeartbeats 1000000 in
theorem s_index2 {i q : Nat} (h : AH) (hi : i < 7) (hq : q < 128) : Run mJ0_indexOf_7cf53 2 0 0 [.ref (2000000 + i), .int (nI q), .int 0] h (fun r h' => h' = h ∧ r = some (.int (optI (-1) (ixO i q)))) := by
  refine Run.of (by decide) (Nat.le_of_ble_eq_true rfl) ?_
  refine g_aload_n (j := 0) (pc' := 1) dJ0_indexOf_7cf53_0 rfl rfl ?_
  refine g_callVS (my := mJ0_isLatin1_aae02) (i := i) (st := []) (av := []) (mcr := 0) (msr := 0) (mc := 0) (ms := 0) (pc' := 4) dJ0_indexOf_7cf53_1 kJ0_isLatin1_aae02 wJ0_492 hi rfl rfl (Nat.le_of_ble_eq_true rfl) (by decide) (s_isLatin1 h hi) rfl ?_
  rintro _ _ ⟨h9, rfl⟩
  rw [h9]
  show Go mJ0_indexOf_7cf53 _ _ _ 4 [(0, .ref (2000000 + i)), (1, .int (nI q)), (2, .int 0)] [.int 1] h _
  refine g_if_eq (tgt := 23) (pc' := 7) dJ0_indexOf_7cf53_4 (by decide) rfl (fun hc => absurd hc (by decide)) (fun _ => ?_)
  refine g_aload_n (j := 0) (pc' := 8) dJ0_indexOf_7cf53_7 rfl rfl ?_
  refine g_strV (pc' := 11) dJ0_indexOf_7cf53_8 hi sJ0_9 rfl ?_
  refine g_iload_n (j := 1) (pc' := 12) dJ0_indexOf_7cf53_11 rfl rfl ?_
  refine g_iload_n (j := 2) (pc' := 13) dJ0_indexOf_7cf53_12 rfl rfl ?_
  refine g_aload_n (j := 0) (pc' := 14) dJ0_indexOf_7cf53_13 rfl rfl ?_
  refine g_callVS (my := mJ0_length_8abf5) (i := i) (st := [.int 0, .int (nI q), .ref (2000010 + i)]) (av := []) (mcr := 0) (msr := 0) (mc := 0) (ms := 0) (pc' := 17) dJ0_indexOf_7cf53_14 kJ0_length_8abf5 wJ0_505 hi rfl rfl (Nat.le_of_ble_eq_true rfl) (by decide) (s_strlen h hi) rfl ?_
  rintro _ _ ⟨h9, rfl⟩
  rw [h9]
  show Go mJ0_indexOf_7cf53 _ _ _ 17 [(0, .ref (2000000 + i)), (1, .int (nI q)), (2, .int 0)] [.int (nI (slen.getD i 0)), .int 0, .int (nI q), .ref (2000010 + i)] h _
  refine g_callS (my := mJ1_indexOf_4cfef) (st := []) (av := [.ref (2000010 + i), .int (nI q), .int 0, .int (nI (slen.getD i 0))]) (mcr := 0) (msr := 0) (mc := 0) (ms := 0) (pc' := 20) dJ0_indexOf_7cf53_17 kJ1_indexOf_4cfef wJ0_637 rfl (Nat.le_of_ble_eq_true rfl) (by decide) (s_l1index h hi hq) rfl ?_
  rintro _ _ ⟨h9, rfl⟩
  rw [h9]
  show Go mJ0_indexOf_7cf53 _ _ _ 20 [(0, .ref (2000000 + i)), (1, .int (nI q)), (2, .int 0)] [.int (optI (-1) (ixO i q))] h _
  refine g_goto (tgt := 36) dJ0_indexOf_7cf53_20 (by decide) ?_
  exact g_iret dJ0_indexOf_7cf53_36 rfl rfl (⟨rfl, rfl⟩)
set_option maxRecDepth 100000 in
set_option maxHeartbeats 1000000 in
theorem s_indexOf {i q : Nat} (h : AH) (hi : i < 7) (hq : q < 128) : Run mJ0_indexOf_0f7a4 3 0 0 [.ref (2000000 + i), .int (nI q)] h (fun r h' => h' = h ∧ r = some (.int (optI (-1) (ixO i q)))) := by
  refine Run.of (by decide) (Nat.le_of_ble_eq_true rfl) ?_
  refine g_aload_n (j := 0) (pc' := 1) dJ0_indexOf_0f7a4_0 rfl rfl ?_
  refine g_iload_n (j := 1) (pc' := 2) dJ0_indexOf_0f7a4_1 rfl rfl ?_
  refine g_iconst (v := 0) (pc' := 3) dJ0_indexOf_0f7a4_2 (by decide) rfl ?_
  refine g_callVS (my := mJ0_indexOf_7cf53) (i := i) (st := []) (av := [.int (nI q), .int 0]) (mcr := 0) (msr := 0) (mc := 0) (ms := 0) (pc' := 6) dJ0_indexOf_0f7a4_3 kJ0_indexOf_7cf53 wJ0_633 hi rfl rfl (Nat.le_of_ble_eq_true rfl) (by decide) (s_index2 h hi hq) rfl ?_
  rintro _ _ ⟨h9, rfl⟩
  rw [h9]
  show Go mJ0_indexOf_0f7a4 _ _ _ 6 [(0, .ref (2000000 + i)), (1, .int (nI q))] [.int (optI (-1) (ixO i q))] h _
  exact g_iret dJ0_indexOf_0f7a4_6 rfl rfl (⟨rfl, rfl⟩)
