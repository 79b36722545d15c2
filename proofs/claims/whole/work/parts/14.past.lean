/-! ===== Math, Integer, Arrays; Past; Sheet ===== -/
theorem zX5_23 : Cond.methodLink RX5 23 Lib.Math.min.name ∈ gtbl ∧ Cond.static Lib.Math.min.name ∈ gtbl ∧ Cond.initialized "java/lang/Math" ∈ gtbl ∧ Cond.code Lib.Math.min.name Lib.Math.min.code 2 (some .int) ∈ gtbl := ⟨tb_of 549 (by decide +kernel) (by decide +kernel), tb_of 442 (by decide +kernel) (by decide +kernel), tb_of 16 (by decide +kernel) (by decide +kernel), tb_of 443 (by decide +kernel) (by decide +kernel)⟩
theorem zX0_102 : Cond.methodLink RX0 102 Lib.Math.max.name ∈ gtbl ∧ Cond.static Lib.Math.max.name ∈ gtbl ∧ Cond.initialized "java/lang/Math" ∈ gtbl ∧ Cond.code Lib.Math.max.name Lib.Math.max.code 2 (some .int) ∈ gtbl := ⟨tb_of 556 (by decide +kernel) (by decide +kernel), tb_of 439 (by decide +kernel) (by decide +kernel), tb_of 16 (by decide +kernel) (by decide +kernel), tb_of 440 (by decide +kernel) (by decide +kernel)⟩
theorem zX11_272 : Cond.methodLink RX11 272 Lib.Math.max.name ∈ gtbl ∧ Cond.static Lib.Math.max.name ∈ gtbl ∧ Cond.initialized "java/lang/Math" ∈ gtbl ∧ Cond.code Lib.Math.max.name Lib.Math.max.code 2 (some .int) ∈ gtbl := ⟨tb_of 635 (by decide +kernel) (by decide +kernel), tb_of 439 (by decide +kernel) (by decide +kernel), tb_of 16 (by decide +kernel) (by decide +kernel), tb_of 440 (by decide +kernel) (by decide +kernel)⟩
def bitC (x : Int32) : Int32 := (((((((x - (((x.toUInt32 >>> (Int32.toUInt32 1 &&& Int32.toUInt32 31)).toInt32) &&& 1431655765)) &&& 858993459) + ((((x - (((x.toUInt32 >>> (Int32.toUInt32 1 &&& Int32.toUInt32 31)).toInt32) &&& 1431655765)).toUInt32 >>> (Int32.toUInt32 2 &&& Int32.toUInt32 31)).toInt32) &&& 858993459)) + (((((x - (((x.toUInt32 >>> (Int32.toUInt32 1 &&& Int32.toUInt32 31)).toInt32) &&& 1431655765)) &&& 858993459) + ((((x - (((x.toUInt32 >>> (Int32.toUInt32 1 &&& Int32.toUInt32 31)).toInt32) &&& 1431655765)).toUInt32 >>> (Int32.toUInt32 2 &&& Int32.toUInt32 31)).toInt32) &&& 858993459)).toUInt32 >>> (Int32.toUInt32 4 &&& Int32.toUInt32 31)).toInt32)) &&& 252645135) + (((((((x - (((x.toUInt32 >>> (Int32.toUInt32 1 &&& Int32.toUInt32 31)).toInt32) &&& 1431655765)) &&& 858993459) + ((((x - (((x.toUInt32 >>> (Int32.toUInt32 1 &&& Int32.toUInt32 31)).toInt32) &&& 1431655765)).toUInt32 >>> (Int32.toUInt32 2 &&& Int32.toUInt32 31)).toInt32) &&& 858993459)) + (((((x - (((x.toUInt32 >>> (Int32.toUInt32 1 &&& Int32.toUInt32 31)).toInt32) &&& 1431655765)) &&& 858993459) + ((((x - (((x.toUInt32 >>> (Int32.toUInt32 1 &&& Int32.toUInt32 31)).toInt32) &&& 1431655765)).toUInt32 >>> (Int32.toUInt32 2 &&& Int32.toUInt32 31)).toInt32) &&& 858993459)).toUInt32 >>> (Int32.toUInt32 4 &&& Int32.toUInt32 31)).toInt32)) &&& 252645135).toUInt32 >>> (Int32.toUInt32 8 &&& Int32.toUInt32 31)).toInt32)) + ((((((((x - (((x.toUInt32 >>> (Int32.toUInt32 1 &&& Int32.toUInt32 31)).toInt32) &&& 1431655765)) &&& 858993459) + ((((x - (((x.toUInt32 >>> (Int32.toUInt32 1 &&& Int32.toUInt32 31)).toInt32) &&& 1431655765)).toUInt32 >>> (Int32.toUInt32 2 &&& Int32.toUInt32 31)).toInt32) &&& 858993459)) + (((((x - (((x.toUInt32 >>> (Int32.toUInt32 1 &&& Int32.toUInt32 31)).toInt32) &&& 1431655765)) &&& 858993459) + ((((x - (((x.toUInt32 >>> (Int32.toUInt32 1 &&& Int32.toUInt32 31)).toInt32) &&& 1431655765)).toUInt32 >>> (Int32.toUInt32 2 &&& Int32.toUInt32 31)).toInt32) &&& 858993459)).toUInt32 >>> (Int32.toUInt32 4 &&& Int32.toUInt32 31)).toInt32)) &&& 252645135) + (((((((x - (((x.toUInt32 >>> (Int32.toUInt32 1 &&& Int32.toUInt32 31)).toInt32) &&& 1431655765)) &&& 858993459) + ((((x - (((x.toUInt32 >>> (Int32.toUInt32 1 &&& Int32.toUInt32 31)).toInt32) &&& 1431655765)).toUInt32 >>> (Int32.toUInt32 2 &&& Int32.toUInt32 31)).toInt32) &&& 858993459)) + (((((x - (((x.toUInt32 >>> (Int32.toUInt32 1 &&& Int32.toUInt32 31)).toInt32) &&& 1431655765)) &&& 858993459) + ((((x - (((x.toUInt32 >>> (Int32.toUInt32 1 &&& Int32.toUInt32 31)).toInt32) &&& 1431655765)).toUInt32 >>> (Int32.toUInt32 2 &&& Int32.toUInt32 31)).toInt32) &&& 858993459)).toUInt32 >>> (Int32.toUInt32 4 &&& Int32.toUInt32 31)).toInt32)) &&& 252645135).toUInt32 >>> (Int32.toUInt32 8 &&& Int32.toUInt32 31)).toInt32)).toUInt32 >>> (Int32.toUInt32 16 &&& Int32.toUInt32 31)).toInt32)) &&& 63
set_option maxRecDepth 100000 in
set_option maxHeartbeats 1000000 in
theorem s_bitCount (x : Int32) (h : AH) : Run mJ6_bitCount_0f7a4 0 0 0 [.int x] h (fun r h' => h' = h ∧ r = some (.int (bitC x))) := by
  refine Run.of (by decide) (Nat.le_of_ble_eq_true rfl) ?_
  refine g_iload_n (j := 0) (pc' := 1) dJ6_bitCount_0f7a4_0 rfl rfl ?_
  refine g_iload_n (j := 0) (pc' := 2) dJ6_bitCount_0f7a4_1 rfl rfl ?_
  refine g_iconst (v := 1) (pc' := 3) dJ6_bitCount_0f7a4_2 (by decide) rfl ?_
  refine g_iushr (pc' := 4) dJ6_bitCount_0f7a4_3 rfl ?_
  refine g_ldcw (v := 1431655765) (pc' := 7) dJ6_bitCount_0f7a4_4 qJ6_265 rfl ?_
  refine g_iand (pc' := 8) dJ6_bitCount_0f7a4_7 rfl ?_
  refine g_isub (pc' := 9) dJ6_bitCount_0f7a4_8 rfl ?_
  refine g_istore_n (L' := [(0, .int (x - (((x.toUInt32 >>> (Int32.toUInt32 1 &&& Int32.toUInt32 31)).toInt32) &&& 1431655765)))]) (pc' := 10) dJ6_bitCount_0f7a4_9 (by decide) rfl rfl ?_
  refine g_iload_n (j := 0) (pc' := 11) dJ6_bitCount_0f7a4_10 rfl rfl ?_
  refine g_ldcw (v := 858993459) (pc' := 14) dJ6_bitCount_0f7a4_11 qJ6_266 rfl ?_
  refine g_iand (pc' := 15) dJ6_bitCount_0f7a4_14 rfl ?_
  refine g_iload_n (j := 0) (pc' := 16) dJ6_bitCount_0f7a4_15 rfl rfl ?_
  refine g_iconst (v := 2) (pc' := 17) dJ6_bitCount_0f7a4_16 (by decide) rfl ?_
  refine g_iushr (pc' := 18) dJ6_bitCount_0f7a4_17 rfl ?_
  refine g_ldcw (v := 858993459) (pc' := 21) dJ6_bitCount_0f7a4_18 qJ6_266 rfl ?_
  refine g_iand (pc' := 22) dJ6_bitCount_0f7a4_21 rfl ?_
  refine g_iadd (pc' := 23) dJ6_bitCount_0f7a4_22 rfl ?_
  refine g_istore_n (L' := [(0, .int (((x - (((x.toUInt32 >>> (Int32.toUInt32 1 &&& Int32.toUInt32 31)).toInt32) &&& 1431655765)) &&& 858993459) + ((((x - (((x.toUInt32 >>> (Int32.toUInt32 1 &&& Int32.toUInt32 31)).toInt32) &&& 1431655765)).toUInt32 >>> (Int32.toUInt32 2 &&& Int32.toUInt32 31)).toInt32) &&& 858993459)))]) (pc' := 24) dJ6_bitCount_0f7a4_23 (by decide) rfl rfl ?_
  refine g_iload_n (j := 0) (pc' := 25) dJ6_bitCount_0f7a4_24 rfl rfl ?_
  refine g_iload_n (j := 0) (pc' := 26) dJ6_bitCount_0f7a4_25 rfl rfl ?_
  refine g_iconst (v := 4) (pc' := 27) dJ6_bitCount_0f7a4_26 (by decide) rfl ?_
  refine g_iushr (pc' := 28) dJ6_bitCount_0f7a4_27 rfl ?_
  refine g_iadd (pc' := 29) dJ6_bitCount_0f7a4_28 rfl ?_
  refine g_ldcw (v := 252645135) (pc' := 32) dJ6_bitCount_0f7a4_29 qJ6_267 rfl ?_
  refine g_iand (pc' := 33) dJ6_bitCount_0f7a4_32 rfl ?_
  refine g_istore_n (L' := [(0, .int (((((x - (((x.toUInt32 >>> (Int32.toUInt32 1 &&& Int32.toUInt32 31)).toInt32) &&& 1431655765)) &&& 858993459) + ((((x - (((x.toUInt32 >>> (Int32.toUInt32 1 &&& Int32.toUInt32 31)).toInt32) &&& 1431655765)).toUInt32 >>> (Int32.toUInt32 2 &&& Int32.toUInt32 31)).toInt32) &&& 858993459)) + (((((x - (((x.toUInt32 >>> (Int32.toUInt32 1 &&& Int32.toUInt32 31)).toInt32) &&& 1431655765)) &&& 858993459) + ((((x - (((x.toUInt32 >>> (Int32.toUInt32 1 &&& Int32.toUInt32 31)).toInt32) &&& 1431655765)).toUInt32 >>> (Int32.toUInt32 2 &&& Int32.toUInt32 31)).toInt32) &&& 858993459)).toUInt32 >>> (Int32.toUInt32 4 &&& Int32.toUInt32 31)).toInt32)) &&& 252645135))]) (pc' := 34) dJ6_bitCount_0f7a4_33 (by decide) rfl rfl ?_
  refine g_iload_n (j := 0) (pc' := 35) dJ6_bitCount_0f7a4_34 rfl rfl ?_
  refine g_iload_n (j := 0) (pc' := 36) dJ6_bitCount_0f7a4_35 rfl rfl ?_
  refine g_bipush (v := 8) (pc' := 38) dJ6_bitCount_0f7a4_36 (by decide) rfl ?_
  refine g_iushr (pc' := 39) dJ6_bitCount_0f7a4_38 rfl ?_
  refine g_iadd (pc' := 40) dJ6_bitCount_0f7a4_39 rfl ?_
  refine g_istore_n (L' := [(0, .int ((((((x - (((x.toUInt32 >>> (Int32.toUInt32 1 &&& Int32.toUInt32 31)).toInt32) &&& 1431655765)) &&& 858993459) + ((((x - (((x.toUInt32 >>> (Int32.toUInt32 1 &&& Int32.toUInt32 31)).toInt32) &&& 1431655765)).toUInt32 >>> (Int32.toUInt32 2 &&& Int32.toUInt32 31)).toInt32) &&& 858993459)) + (((((x - (((x.toUInt32 >>> (Int32.toUInt32 1 &&& Int32.toUInt32 31)).toInt32) &&& 1431655765)) &&& 858993459) + ((((x - (((x.toUInt32 >>> (Int32.toUInt32 1 &&& Int32.toUInt32 31)).toInt32) &&& 1431655765)).toUInt32 >>> (Int32.toUInt32 2 &&& Int32.toUInt32 31)).toInt32) &&& 858993459)).toUInt32 >>> (Int32.toUInt32 4 &&& Int32.toUInt32 31)).toInt32)) &&& 252645135) + (((((((x - (((x.toUInt32 >>> (Int32.toUInt32 1 &&& Int32.toUInt32 31)).toInt32) &&& 1431655765)) &&& 858993459) + ((((x - (((x.toUInt32 >>> (Int32.toUInt32 1 &&& Int32.toUInt32 31)).toInt32) &&& 1431655765)).toUInt32 >>> (Int32.toUInt32 2 &&& Int32.toUInt32 31)).toInt32) &&& 858993459)) + (((((x - (((x.toUInt32 >>> (Int32.toUInt32 1 &&& Int32.toUInt32 31)).toInt32) &&& 1431655765)) &&& 858993459) + ((((x - (((x.toUInt32 >>> (Int32.toUInt32 1 &&& Int32.toUInt32 31)).toInt32) &&& 1431655765)).toUInt32 >>> (Int32.toUInt32 2 &&& Int32.toUInt32 31)).toInt32) &&& 858993459)).toUInt32 >>> (Int32.toUInt32 4 &&& Int32.toUInt32 31)).toInt32)) &&& 252645135).toUInt32 >>> (Int32.toUInt32 8 &&& Int32.toUInt32 31)).toInt32)))]) (pc' := 41) dJ6_bitCount_0f7a4_40 (by decide) rfl rfl ?_
  refine g_iload_n (j := 0) (pc' := 42) dJ6_bitCount_0f7a4_41 rfl rfl ?_
  refine g_iload_n (j := 0) (pc' := 43) dJ6_bitCount_0f7a4_42 rfl rfl ?_
  refine g_bipush (v := 16) (pc' := 45) dJ6_bitCount_0f7a4_43 (by decide) rfl ?_
  refine g_iushr (pc' := 46) dJ6_bitCount_0f7a4_45 rfl ?_
  refine g_iadd (pc' := 47) dJ6_bitCount_0f7a4_46 rfl ?_
  refine g_istore_n (L' := [(0, .int (((((((x - (((x.toUInt32 >>> (Int32.toUInt32 1 &&& Int32.toUInt32 31)).toInt32) &&& 1431655765)) &&& 858993459) + ((((x - (((x.toUInt32 >>> (Int32.toUInt32 1 &&& Int32.toUInt32 31)).toInt32) &&& 1431655765)).toUInt32 >>> (Int32.toUInt32 2 &&& Int32.toUInt32 31)).toInt32) &&& 858993459)) + (((((x - (((x.toUInt32 >>> (Int32.toUInt32 1 &&& Int32.toUInt32 31)).toInt32) &&& 1431655765)) &&& 858993459) + ((((x - (((x.toUInt32 >>> (Int32.toUInt32 1 &&& Int32.toUInt32 31)).toInt32) &&& 1431655765)).toUInt32 >>> (Int32.toUInt32 2 &&& Int32.toUInt32 31)).toInt32) &&& 858993459)).toUInt32 >>> (Int32.toUInt32 4 &&& Int32.toUInt32 31)).toInt32)) &&& 252645135) + (((((((x - (((x.toUInt32 >>> (Int32.toUInt32 1 &&& Int32.toUInt32 31)).toInt32) &&& 1431655765)) &&& 858993459) + ((((x - (((x.toUInt32 >>> (Int32.toUInt32 1 &&& Int32.toUInt32 31)).toInt32) &&& 1431655765)).toUInt32 >>> (Int32.toUInt32 2 &&& Int32.toUInt32 31)).toInt32) &&& 858993459)) + (((((x - (((x.toUInt32 >>> (Int32.toUInt32 1 &&& Int32.toUInt32 31)).toInt32) &&& 1431655765)) &&& 858993459) + ((((x - (((x.toUInt32 >>> (Int32.toUInt32 1 &&& Int32.toUInt32 31)).toInt32) &&& 1431655765)).toUInt32 >>> (Int32.toUInt32 2 &&& Int32.toUInt32 31)).toInt32) &&& 858993459)).toUInt32 >>> (Int32.toUInt32 4 &&& Int32.toUInt32 31)).toInt32)) &&& 252645135).toUInt32 >>> (Int32.toUInt32 8 &&& Int32.toUInt32 31)).toInt32)) + ((((((((x - (((x.toUInt32 >>> (Int32.toUInt32 1 &&& Int32.toUInt32 31)).toInt32) &&& 1431655765)) &&& 858993459) + ((((x - (((x.toUInt32 >>> (Int32.toUInt32 1 &&& Int32.toUInt32 31)).toInt32) &&& 1431655765)).toUInt32 >>> (Int32.toUInt32 2 &&& Int32.toUInt32 31)).toInt32) &&& 858993459)) + (((((x - (((x.toUInt32 >>> (Int32.toUInt32 1 &&& Int32.toUInt32 31)).toInt32) &&& 1431655765)) &&& 858993459) + ((((x - (((x.toUInt32 >>> (Int32.toUInt32 1 &&& Int32.toUInt32 31)).toInt32) &&& 1431655765)).toUInt32 >>> (Int32.toUInt32 2 &&& Int32.toUInt32 31)).toInt32) &&& 858993459)).toUInt32 >>> (Int32.toUInt32 4 &&& Int32.toUInt32 31)).toInt32)) &&& 252645135) + (((((((x - (((x.toUInt32 >>> (Int32.toUInt32 1 &&& Int32.toUInt32 31)).toInt32) &&& 1431655765)) &&& 858993459) + ((((x - (((x.toUInt32 >>> (Int32.toUInt32 1 &&& Int32.toUInt32 31)).toInt32) &&& 1431655765)).toUInt32 >>> (Int32.toUInt32 2 &&& Int32.toUInt32 31)).toInt32) &&& 858993459)) + (((((x - (((x.toUInt32 >>> (Int32.toUInt32 1 &&& Int32.toUInt32 31)).toInt32) &&& 1431655765)) &&& 858993459) + ((((x - (((x.toUInt32 >>> (Int32.toUInt32 1 &&& Int32.toUInt32 31)).toInt32) &&& 1431655765)).toUInt32 >>> (Int32.toUInt32 2 &&& Int32.toUInt32 31)).toInt32) &&& 858993459)).toUInt32 >>> (Int32.toUInt32 4 &&& Int32.toUInt32 31)).toInt32)) &&& 252645135).toUInt32 >>> (Int32.toUInt32 8 &&& Int32.toUInt32 31)).toInt32)).toUInt32 >>> (Int32.toUInt32 16 &&& Int32.toUInt32 31)).toInt32)))]) (pc' := 48) dJ6_bitCount_0f7a4_47 (by decide) rfl rfl ?_
  refine g_iload_n (j := 0) (pc' := 49) dJ6_bitCount_0f7a4_48 rfl rfl ?_
  refine g_bipush (v := 63) (pc' := 51) dJ6_bitCount_0f7a4_49 (by decide) rfl ?_
  refine g_iand (pc' := 52) dJ6_bitCount_0f7a4_51 rfl ?_
  exact g_iret dJ6_bitCount_0f7a4_52 rfl rfl (⟨rfl, rfl⟩)
set_option maxRecDepth 100000 in
set_option maxHeartbeats 1000000 in
theorem s_fillI {M : Nat → Nat → Int32} {N : Nat → Nat → Int64} {k n : Nat} (x : Int32) (hs : SK[k]? = some (100, rep n)) (hn : n < 1000) : Run mJ7_fill_53178 0 0 0 [.ref k, .int x] (SK, M, N) (fun r h' => ∃ M', h' = (SK, M', N) ∧ r = none ∧ (∀ j, j < n → M' k j = x) ∧ (∀ a, a ≠ k → M' a = M a)) := by
  refine Run.of (by decide) (Nat.le_of_ble_eq_true rfl) ?_
  refine g_iconst (v := 0) (pc' := 1) dJ7_fill_53178_0 (by decide) rfl ?_
  refine g_istore_n (L' := [(0, .ref k), (1, .int x), (2, .int 0)]) (pc' := 2) dJ7_fill_53178_1 (by decide) rfl rfl ?_
  refine g_aload_n (j := 0) (pc' := 3) dJ7_fill_53178_2 rfl rfl ?_
  refine g_alen (pc' := 4) dJ7_fill_53178_3 hs ⟨rfl, by decide, by decide⟩ rfl ?_
  refine g_istore_n (L' := [(0, .ref k), (1, .int x), (2, .int 0), (3, .int (nI n))]) (pc' := 5) dJ7_fill_53178_4 (by decide) rfl rfl ?_
  have loop : ∀ (j i : Nat) (M1 : Nat → Nat → Int32), i + j = n → (∀ j, j < n → M1 k j = if j < i then x else M k j) ∧ (∀ a, a ≠ k → M1 a = M a) → Go mJ7_fill_53178 0 0 0 5 [(0, .ref k), (1, .int x), (2, .int (nI i)), (3, .int (nI n))] [] (SK, M1, N) (fun r h' => ∃ M', h' = (SK, M', N) ∧ r = none ∧ (∀ j, j < n → M' k j = x) ∧ (∀ a, a ≠ k → M' a = M a)) := by
    intro j
    induction j with
    | zero =>
      intro i M1 hi hv
      refine g_iload_n (j := 2) (pc' := 6) dJ7_fill_53178_5 rfl rfl ?_
      refine g_iload_n (j := 3) (pc' := 7) dJ7_fill_53178_6 rfl rfl ?_
      refine g_icmp_ge (tgt := 20) (pc' := 10) dJ7_fill_53178_7 (by decide) rfl (fun hc => ?_) (fun hc => ?_)
      · exact g_vret dJ7_fill_53178_20 rfl (⟨M1, rfl, rfl, fun j hj => by rw [hv.1 j hj, if_pos (by omega)], hv.2⟩)
      · exact absurd (nI_le (by omega) (by omega)) hc
    | succ j ih =>
      intro i M1 hi hv
      refine g_iload_n (j := 2) (pc' := 6) dJ7_fill_53178_5 rfl rfl ?_
      refine g_iload_n (j := 3) (pc' := 7) dJ7_fill_53178_6 rfl rfl ?_
      refine g_icmp_ge (tgt := 20) (pc' := 10) dJ7_fill_53178_7 (by decide) rfl (fun hc => ?_) (fun hc => ?_)
      · exact absurd hc (nI_ge (by omega) (by omega))
      · refine g_aload_n (j := 0) (pc' := 11) dJ7_fill_53178_10 rfl rfl ?_
        refine g_iload_n (j := 2) (pc' := 12) dJ7_fill_53178_11 rfl rfl ?_
        refine g_iload_n (j := 1) (pc' := 13) dJ7_fill_53178_12 rfl rfl ?_
        refine g_iast (n := i) (pc' := 14) dJ7_fill_53178_13 hs rfl (by omega) rfl ?_ (by omega)
        refine g_iinc (j := 2) (v := nI (i + 1)) (L' := [(0, .ref k), (1, .int x), (2, .int (nI (i + 1))), (3, .int (nI n))]) (pc' := 17) dJ7_fill_53178_14 rfl (nI_1 i) (by decide) rfl rfl ?_
        refine g_goto (tgt := 5) dJ7_fill_53178_17 (by decide) ?_
        refine ih (i + 1) _ (by omega) ⟨fun j hj => ?_, fun a ha => ?_⟩
        · by_cases e : j = i
          · subst e; rw [um_at, if_pos (by omega)]
          · rw [um_at2 e, hv.1 j hj]
            by_cases e2 : j < i
            · rw [if_pos e2, if_pos (by omega)]
            · rw [if_neg e2, if_neg (by omega)]
        · rw [um_ne ha]; exact hv.2 a ha
  exact loop n 0 M (by omega) ⟨fun j _ => by rw [if_neg (by omega)], fun a _ => rfl⟩
set_option maxRecDepth 100000 in
set_option maxHeartbeats 1000000 in
theorem s_fillL {M : Nat → Nat → Int32} {N : Nat → Nat → Int64} {k n : Nat} (x : Int64) (hs : SK[k]? = some (101, rep n)) (hn : n < 1000) : Run mJ7_fill_d0a16 0 0 0 [.ref k, .long x] (SK, M, N) (fun r h' => ∃ N', h' = (SK, M, N') ∧ r = none ∧ (∀ j, j < n → N' k j = x) ∧ (∀ a, a ≠ k → N' a = N a)) := by
  refine Run.of (by decide) (Nat.le_of_ble_eq_true rfl) ?_
  refine g_iconst (v := 0) (pc' := 1) dJ7_fill_d0a16_0 (by decide) rfl ?_
  refine g_istore_n (L' := [(0, .ref k), (1, .long x), (3, .int 0)]) (pc' := 2) dJ7_fill_d0a16_1 (by decide) rfl rfl ?_
  refine g_aload_n (j := 0) (pc' := 3) dJ7_fill_d0a16_2 rfl rfl ?_
  refine g_alen (pc' := 4) dJ7_fill_d0a16_3 hs ⟨rfl, by decide, by decide⟩ rfl ?_
  refine g_istore (L' := [(0, .ref k), (1, .long x), (3, .int 0), (4, .int (nI n))]) (pc' := 6) dJ7_fill_d0a16_4 (by decide) rfl rfl ?_
  have loop : ∀ (j i : Nat) (N1 : Nat → Nat → Int64), i + j = n → (∀ j, j < n → N1 k j = if j < i then x else N k j) ∧ (∀ a, a ≠ k → N1 a = N a) → Go mJ7_fill_d0a16 0 0 0 6 [(0, .ref k), (1, .long x), (3, .int (nI i)), (4, .int (nI n))] [] (SK, M, N1) (fun r h' => ∃ N', h' = (SK, M, N') ∧ r = none ∧ (∀ j, j < n → N' k j = x) ∧ (∀ a, a ≠ k → N' a = N a)) := by
    intro j
    induction j with
    | zero =>
      intro i N1 hi hv
      refine g_iload_n (j := 2) (pc' := 7) dJ7_fill_d0a16_6 rfl rfl ?_
      refine g_iload (j := 3) (pc' := 9) dJ7_fill_d0a16_7 rfl rfl ?_
      refine g_icmp_ge (tgt := 22) (pc' := 12) dJ7_fill_d0a16_9 (by decide) rfl (fun hc => ?_) (fun hc => ?_)
      · exact g_vret dJ7_fill_d0a16_22 rfl (⟨N1, rfl, rfl, fun j hj => by rw [hv.1 j hj, if_pos (by omega)], hv.2⟩)
      · exact absurd (nI_le (by omega) (by omega)) hc
    | succ j ih =>
      intro i N1 hi hv
      refine g_iload_n (j := 2) (pc' := 7) dJ7_fill_d0a16_6 rfl rfl ?_
      refine g_iload (j := 3) (pc' := 9) dJ7_fill_d0a16_7 rfl rfl ?_
      refine g_icmp_ge (tgt := 22) (pc' := 12) dJ7_fill_d0a16_9 (by decide) rfl (fun hc => ?_) (fun hc => ?_)
      · exact absurd hc (nI_ge (by omega) (by omega))
      · refine g_aload_n (j := 0) (pc' := 13) dJ7_fill_d0a16_12 rfl rfl ?_
        refine g_iload_n (j := 2) (pc' := 14) dJ7_fill_d0a16_13 rfl rfl ?_
        refine g_lload_n (j := 1) (pc' := 15) dJ7_fill_d0a16_14 rfl rfl ?_
        refine g_last (n := i) (pc' := 16) dJ7_fill_d0a16_15 hs rfl (by omega) rfl ?_ (by omega)
        refine g_iinc (j := 2) (v := nI (i + 1)) (L' := [(0, .ref k), (1, .long x), (3, .int (nI (i + 1))), (4, .int (nI n))]) (pc' := 19) dJ7_fill_d0a16_16 rfl (nI_1 i) (by decide) rfl rfl ?_
        refine g_goto (tgt := 6) dJ7_fill_d0a16_19 (by decide) ?_
        refine ih (i + 1) _ (by omega) ⟨fun j hj => ?_, fun a ha => ?_⟩
        · by_cases e : j = i
          · subst e; rw [um_at, if_pos (by omega)]
          · rw [um_at2 e, hv.1 j hj]
            by_cases e2 : j < i
            · rw [if_pos e2, if_pos (by omega)]
            · rw [if_neg e2, if_neg (by omega)]
        · rw [um_ne ha]; exact hv.2 a ha
  exact loop n 0 N (by omega) ⟨fun j _ => by rw [if_neg (by omega)], fun a _ => rfl⟩
