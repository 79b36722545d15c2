/-! ===== numbers, men, names of a text ===== -/
theorem pNum_le {tf : Nat → Nat} {len p : Nat} (h : p ≤ len) : (pNum tf len p).2 ≤ len := by
  have h1 := pOne_le (tf := tf) (i := 0) h
  unfold pNum
  split
  · rename_i q hq; rw [hq] at h1; exact h1.1
  · rename_i v q hq
    rw [hq] at h1
    split
    · split
      · show q + 1 ≤ len; omega
      · show q - 1 ≤ len; have := h1.1; dsimp only at this; omega
    · exact h1.1
theorem digit_lt {q v : Nat} (h : ixO 0 q = some v) : v < 10 := by
  have h1 := (firstIx_lt h).2.1
  have h2 : slen.getD 0 0 = 10 := by decide
  omega
theorem pOne_some {tf : Nat → Nat} {len i p v q : Nat} (h : pOne tf len i p = (some v, q)) : skB tf len p < len ∧ ixO i (tf (skB tf len p)) = some v ∧ q = skB tf len p + 1 := by
  unfold pOne at h
  split at h
  · rename_i hs
    split at h
    · cases h
    · rename_i j hj
      have h1 := congrArg Prod.fst h
      have h2 := congrArg Prod.snd h
      dsimp only at h1 h2
      cases h1
      exact ⟨hs, hj, h2.symm⟩
  · cases h
set_option maxRecDepth 100000 in
set_option maxHeartbeats 1000000 in
theorem s_number {M : Nat → Nat → Int32} {N : Nat → Nat → Int64} {tf : Nat → Nat} {len p : Nat} (hl : len ≤ 80) (hp : p ≤ len) (htf : ∀ j, j < len → tf j < 128) (hT : TapeC M tf len p) : Run mX10_number 5 0 0 [.ref 170] (SK, M, N) (fun r h' => ∃ M', h' = (SK, M', N) ∧ r = some (.int (optI (-1) (pNum tf len p).1)) ∧ TapeC M' tf len (pNum tf len p).2 ∧ ∀ a, a ≠ 170 → M' a = M a) := by
  refine Run.of (by decide) (Nat.le_of_ble_eq_true rfl) ?_
  have hle := pOne_le (tf := tf) (len := len) (i := 0) hp
  refine g_aload_n (j := 0) (pc' := 1) dX10_number_0 rfl rfl ?_
  refine g_ldcS (i := 0) (pc' := 3) dX10_number_1 (by decide) rfl rfl rfl ?_
  refine g_callV (my := mX10_oneOf) (k := 170) (st := []) (av := [.ref (2000000 + 0)]) (mcr := 0) (msr := 0) (mc := 0) (ms := 0) (pc' := 6) dX10_number_3 kX10_oneOf wX10_36 rfl ⟨rfl, rfl⟩ rfl (Nat.le_of_ble_eq_true rfl) (by decide) (s_oneOf hl hp htf hT (i := 0) (by omega)) rfl ?_
  rintro _ _ ⟨M1, rfl, rfl, hT1, hf1⟩
  show Go mX10_number _ _ _ 6 [(0, .ref 170)] [.int (optI (-1) (pOne tf len 0 p).1)] (SK, M1, N) _
  unfold pNum
  have hso := @pOne_some tf len 0 p
  generalize hq : pOne tf len 0 p = q1 at hT1 hle hso
  obtain ⟨o1, p1⟩ := q1
  dsimp only at hT1 hle
  cases o1 with
  | none =>
    show Go mX10_number _ _ _ 6 [(0, .ref 170)] [.int (-1)] (SK, M1, N) _
    refine g_istore_n (L' := [(0, .ref 170), (1, .int (-1))]) (pc' := 7) dX10_number_6 (by decide) rfl rfl ?_
    refine g_iload_n (j := 1) (pc' := 8) dX10_number_7 rfl rfl ?_
    refine g_iconst (v := (-1)) (pc' := 9) dX10_number_8 (by decide) rfl ?_
    refine g_icmp_ne (tgt := 14) (pc' := 12) dX10_number_9 (by decide) rfl (fun hc => (absurd rfl hc)) (fun hc => ?_)
    refine g_iconst (v := (-1)) (pc' := 13) dX10_number_12 (by decide) rfl ?_
    exact g_iret dX10_number_13 rfl rfl (⟨M1, rfl, rfl, hT1, hf1⟩)
  | some x =>
    have hx9 : x < 10 := digit_lt (hso rfl).2.1
    have hp1 : 0 < p1 := hle.2 (by simp)
    have hpl := hle.1
    show Go mX10_number _ _ _ 6 [(0, .ref 170)] [.int (nI x)] (SK, M1, N) _
    refine g_istore_n (L' := [(0, .ref 170), (1, .int (nI x))]) (pc' := 7) dX10_number_6 (by decide) rfl rfl ?_
    refine g_iload_n (j := 1) (pc' := 8) dX10_number_7 rfl rfl ?_
    refine g_iconst (v := (-1)) (pc' := 9) dX10_number_8 (by decide) rfl ?_
    refine g_icmp_ne (tgt := 14) (pc' := 12) dX10_number_9 (by decide) rfl (fun hc => ?_) (fun hc => (absurd hc (nI_ne_m1 (by omega))))
    refine g_aload_n (j := 0) (pc' := 15) dX10_number_14 rfl rfl ?_
    refine g_getI (pc' := 18) dX10_number_15 fX10_19 rfl rfl rfl ?_
    refine g_top (y := nI p1) (hT1.2.1) ?_
    refine g_iconst (v := 1) (pc' := 19) dX10_number_18 (by decide) rfl ?_
    refine g_isub (pc' := 20) dX10_number_19 rfl ?_
    refine g_top (y := nI (p1 - 1)) (pk_sub (a := p1) (b := 1) (by omega)) ?_
    refine g_istore_n (L' := [(0, .ref 170), (1, .int (nI x)), (2, .int (nI (p1 - 1)))]) (pc' := 21) dX10_number_20 (by decide) rfl rfl ?_
    refine g_aload_n (j := 0) (pc' := 22) dX10_number_21 rfl rfl ?_
    refine g_getI (pc' := 25) dX10_number_22 fX10_19 rfl rfl rfl ?_
    refine g_top (y := nI p1) (hT1.2.1) ?_
    refine g_aload_n (j := 0) (pc' := 26) dX10_number_25 rfl rfl ?_
    refine g_getI (pc' := 29) dX10_number_26 fX10_15 rfl rfl rfl ?_
    refine g_top (y := nI len) (hT1.1) ?_
    refine g_icmp_ge (tgt := 88) (pc' := 32) dX10_number_29 (by decide) rfl (fun hc3 => ?_) (fun hc3 => ?_)
    · have hno : ¬ (p1 < len ∧ 48 ≤ tf p1 ∧ tf p1 ≤ 57) := fun q => absurd hc3 (nI_ge q.1 (by omega))
      refine g_iload_n (j := 1) (pc' := 89) dX10_number_88 rfl rfl ?_
      refine g_bipush (v := 20) (pc' := 91) dX10_number_89 (by decide) rfl ?_
      refine g_icmp_le (tgt := 101) (pc' := 94) dX10_number_91 (by decide) rfl (fun hc7 => ?_) (fun hc7 => ?_)
      · have hv20 : x ≤ 20 := (nI_leI (b := 20) (by omega) (by omega)).mp hc7
        dsimp only; rw [if_neg hno]
        refine g_iload_n (j := 1) (pc' := 102) dX10_number_101 rfl rfl ?_
        exact g_iret dX10_number_102 rfl rfl (⟨M1, rfl, rfl, hT1, hf1⟩)
      · have hv20 : ¬ x ≤ 20 := fun q => hc7 (nI_le (a := x) (b := 20) q (by omega))
        exact absurd (show x ≤ 20 by omega) hv20
    · have hlt : p1 < len := Nat.lt_of_not_le (fun q => hc3 (nI_le q (by omega)))
      have ht := htf p1 hlt
      refine g_aload_n (j := 0) (pc' := 33) dX10_number_32 rfl rfl ?_
      refine g_getR (pc' := 36) dX10_number_33 fX10_11 rfl rfl rfl ?_
      refine g_aload_n (j := 0) (pc' := 37) dX10_number_36 rfl rfl ?_
      refine g_getI (pc' := 40) dX10_number_37 fX10_19 rfl rfl rfl ?_
      refine g_top (y := nI p1) (hT1.2.1) ?_
      refine g_cald (n := p1) (pc' := 41) dX10_number_40 rfl rfl (by omega) rfl ?_
      refine g_top (y := nI (tf p1)) (hT1.2.2 p1 hlt) ?_
      refine g_bipush (v := 48) (pc' := 43) dX10_number_41 (by decide) rfl ?_
      refine g_icmp_lt (tgt := 88) (pc' := 46) dX10_number_43 (by decide) rfl (fun hc4 => ?_) (fun hc4 => ?_)
      · have hno : ¬ (p1 < len ∧ 48 ≤ tf p1 ∧ tf p1 ≤ 57) := fun q => absurd hc4 (nI_nlt (a := tf p1) (b := 48) q.2.1 (by omega))
        refine g_iload_n (j := 1) (pc' := 89) dX10_number_88 rfl rfl ?_
        refine g_bipush (v := 20) (pc' := 91) dX10_number_89 (by decide) rfl ?_
        refine g_icmp_le (tgt := 101) (pc' := 94) dX10_number_91 (by decide) rfl (fun hc7 => ?_) (fun hc7 => ?_)
        · have hv20 : x ≤ 20 := (nI_leI (b := 20) (by omega) (by omega)).mp hc7
          dsimp only; rw [if_neg hno]
          refine g_iload_n (j := 1) (pc' := 102) dX10_number_101 rfl rfl ?_
          exact g_iret dX10_number_102 rfl rfl (⟨M1, rfl, rfl, hT1, hf1⟩)
        · have hv20 : ¬ x ≤ 20 := fun q => hc7 (nI_le (a := x) (b := 20) q (by omega))
          exact absurd (show x ≤ 20 by omega) hv20
      · have h48 : 48 ≤ tf p1 := Nat.le_of_not_lt (fun q => hc4 (nI_lt (a := tf p1) (b := 48) q (by omega)))
        refine g_aload_n (j := 0) (pc' := 47) dX10_number_46 rfl rfl ?_
        refine g_getR (pc' := 50) dX10_number_47 fX10_11 rfl rfl rfl ?_
        refine g_aload_n (j := 0) (pc' := 51) dX10_number_50 rfl rfl ?_
        refine g_getI (pc' := 54) dX10_number_51 fX10_19 rfl rfl rfl ?_
        refine g_top (y := nI p1) (hT1.2.1) ?_
        refine g_cald (n := p1) (pc' := 55) dX10_number_54 rfl rfl (by omega) rfl ?_
        refine g_top (y := nI (tf p1)) (hT1.2.2 p1 hlt) ?_
        refine g_bipush (v := 57) (pc' := 57) dX10_number_55 (by decide) rfl ?_
        refine g_icmp_gt (tgt := 88) (pc' := 60) dX10_number_57 (by decide) rfl (fun hc5 => ?_) (fun hc5 => ?_)
        · have hno : ¬ (p1 < len ∧ 48 ≤ tf p1 ∧ tf p1 ≤ 57) := fun q => absurd hc5 (nI_nlt (a := 57) (b := tf p1) q.2.2 (by omega))
          refine g_iload_n (j := 1) (pc' := 89) dX10_number_88 rfl rfl ?_
          refine g_bipush (v := 20) (pc' := 91) dX10_number_89 (by decide) rfl ?_
          refine g_icmp_le (tgt := 101) (pc' := 94) dX10_number_91 (by decide) rfl (fun hc7 => ?_) (fun hc7 => ?_)
          · have hv20 : x ≤ 20 := (nI_leI (b := 20) (by omega) (by omega)).mp hc7
            dsimp only; rw [if_neg hno]
            refine g_iload_n (j := 1) (pc' := 102) dX10_number_101 rfl rfl ?_
            exact g_iret dX10_number_102 rfl rfl (⟨M1, rfl, rfl, hT1, hf1⟩)
          · have hv20 : ¬ x ≤ 20 := fun q => hc7 (nI_le (a := x) (b := 20) q (by omega))
            exact absurd (show x ≤ 20 by omega) hv20
        · have h57 : tf p1 ≤ 57 := Nat.le_of_not_lt (fun q => hc5 (nI_lt (a := 57) (b := tf p1) q (by omega)))
          have hyes : p1 < len ∧ 48 ≤ tf p1 ∧ tf p1 ≤ 57 := ⟨hlt, h48, h57⟩
          refine g_iload_n (j := 1) (pc' := 61) dX10_number_60 rfl rfl ?_
          refine g_bipush (v := 10) (pc' := 63) dX10_number_61 (by decide) rfl ?_
          refine g_imul (pc' := 64) dX10_number_63 rfl ?_
          refine g_aload_n (j := 0) (pc' := 65) dX10_number_64 rfl rfl ?_
          refine g_getR (pc' := 68) dX10_number_65 fX10_11 rfl rfl rfl ?_
          refine g_aload_n (j := 0) (pc' := 69) dX10_number_68 rfl rfl ?_
          refine g_getI (pc' := 72) dX10_number_69 fX10_19 rfl rfl rfl ?_
          refine g_top (y := nI p1) (hT1.2.1) ?_
          refine g_cald (n := p1) (pc' := 73) dX10_number_72 rfl rfl (by omega) rfl ?_
          refine g_top (y := nI (tf p1)) (hT1.2.2 p1 hlt) ?_
          refine g_iadd (pc' := 74) dX10_number_73 rfl ?_
          refine g_bipush (v := 48) (pc' := 76) dX10_number_74 (by decide) rfl ?_
          refine g_isub (pc' := 77) dX10_number_76 rfl ?_
          refine g_top (y := nI (x * 10 + (tf p1 - 48))) (by rw [show nI x * (10 : Int32) = nI (x * 10) from pk_mul x 10, nI_add, show nI (x * 10 + tf p1) - (48 : Int32) = nI (x * 10 + tf p1 - 48) from pk_sub (a := x * 10 + tf p1) (b := 48) (by omega), show x * 10 + tf p1 - 48 = x * 10 + (tf p1 - 48) by omega]) ?_
          refine g_istore_n (L' := [(0, .ref 170), (1, .int (nI (x * 10 + (tf p1 - 48)))), (2, .int (nI (p1 - 1)))]) (pc' := 78) dX10_number_77 (by decide) rfl rfl ?_
          refine g_aload_n (j := 0) (pc' := 79) dX10_number_78 rfl rfl ?_
          refine g_dup (pc' := 80) dX10_number_79 rfl rfl ?_
          refine g_getI (pc' := 83) dX10_number_80 fX10_19 rfl rfl rfl ?_
          refine g_top (y := nI p1) (hT1.2.1) ?_
          refine g_iconst (v := 1) (pc' := 84) dX10_number_83 (by decide) rfl ?_
          refine g_iadd (pc' := 85) dX10_number_84 rfl ?_
          refine g_top (y := nI (p1 + 1)) (nI_1 p1) ?_
          refine g_putI (pc' := 88) dX10_number_85 fX10_19 rfl rfl ⟨rfl, rfl⟩ rfl ?_
          generalize hM2 : (um M1 170 2 (nI (p1 + 1))) = M2
          have hT2 : TapeC M2 tf len (p1 + 1) := ⟨by rw [← hM2, um_at2 (by omega)]; exact hT1.1, by rw [← hM2]; exact um_at, fun j hj => by rw [← hM2, um_ne (by omega)]; exact hT1.2.2 j hj⟩
          have hf2 : ∀ a, a ≠ 170 → M2 a = M a := fun a ha => by rw [← hM2, um_ne ha]; exact hf1 a ha
          refine g_iload_n (j := 1) (pc' := 89) dX10_number_88 rfl rfl ?_
          refine g_bipush (v := 20) (pc' := 91) dX10_number_89 (by decide) rfl ?_
          refine g_icmp_le (tgt := 101) (pc' := 94) dX10_number_91 (by decide) rfl (fun hc7 => ?_) (fun hc7 => ?_)
          · have hv20 : x * 10 + (tf p1 - 48) ≤ 20 := (nI_leI (b := 20) (by omega) (by omega)).mp hc7
            dsimp only; rw [if_pos hyes, if_pos hv20]
            refine g_iload_n (j := 1) (pc' := 102) dX10_number_101 rfl rfl ?_
            exact g_iret dX10_number_102 rfl rfl (⟨M2, rfl, rfl, hT2, hf2⟩)
          · have hv20 : ¬ x * 10 + (tf p1 - 48) ≤ 20 := fun q => hc7 (nI_le (a := x * 10 + (tf p1 - 48)) (b := 20) q (by omega))
            dsimp only; rw [if_pos hyes, if_neg hv20]
            refine g_aload_n (j := 0) (pc' := 95) dX10_number_94 rfl rfl ?_
            refine g_iload_n (j := 2) (pc' := 96) dX10_number_95 rfl rfl ?_
            refine g_putI (pc' := 99) dX10_number_96 fX10_19 rfl rfl ⟨rfl, rfl⟩ rfl ?_
            refine g_iconst (v := (-1)) (pc' := 100) dX10_number_99 (by decide) rfl ?_
            exact g_iret dX10_number_100 rfl rfl (⟨_, rfl, rfl, ⟨by rw [um_at2 (by omega)]; exact hT2.1, um_at, fun j hj => by rw [um_ne (by omega)]; exact hT2.2.2 j hj⟩, fun a ha => by rw [um_ne ha]; exact hf2 a ha⟩)
set_option maxRecDepth 100000 in
set_option maxHeartbeats 1000000 in
theorem s_takes {M : Nat → Nat → Int32} {N : Nat → Nat → Int64} {len q : Nat} (h1 : M 170 1 = nI len) (hl : len < 80) (hq : q < 65536) : Run mX10_takes 0 0 0 [.ref 170, .int (nI q)] (SK, M, N) (fun r h' => ∃ M', h' = (SK, M', N) ∧ r = some (.int 1) ∧ M' 170 1 = nI (len + 1) ∧ M' 171 len = nI q ∧ (∀ j, j ≠ len → M' 171 j = M 171 j) ∧ ∀ a, a ≠ 170 → a ≠ 171 → M' a = M a) := by
  refine Run.of (by decide) (Nat.le_of_ble_eq_true rfl) ?_
  refine g_aload_n (j := 0) (pc' := 1) dX10_takes_0 rfl rfl ?_
  refine g_getI (pc' := 4) dX10_takes_1 fX10_15 rfl rfl rfl ?_
  refine g_top (y := nI len) (h1) ?_
  refine g_bipush (v := 80) (pc' := 6) dX10_takes_4 (by decide) rfl ?_
  refine g_icmp_lt (tgt := 11) (pc' := 9) dX10_takes_6 (by decide) rfl (fun hc => ?_) (fun hc => (absurd (nI_lt (a := len) (b := 80) hl (by omega)) hc))
  refine g_aload_n (j := 0) (pc' := 12) dX10_takes_11 rfl rfl ?_
  refine g_getR (pc' := 15) dX10_takes_12 fX10_11 rfl rfl rfl ?_
  refine g_aload_n (j := 0) (pc' := 16) dX10_takes_15 rfl rfl ?_
  refine g_getI (pc' := 19) dX10_takes_16 fX10_15 rfl rfl rfl ?_
  refine g_iload_n (j := 1) (pc' := 20) dX10_takes_19 rfl rfl ?_
  refine g_cast (n := len) (pc' := 21) dX10_takes_20 rfl h1 (by omega) (pk_charN hq |>.1) rfl ?_
  refine g_aload_n (j := 0) (pc' := 22) dX10_takes_21 rfl rfl ?_
  refine g_dup (pc' := 23) dX10_takes_22 rfl rfl ?_
  refine g_getI (pc' := 26) dX10_takes_23 fX10_15 rfl rfl rfl ?_
  refine g_top (y := M 170 1) (by simp (disch := omega) only [um_ne, um_at, um_at2, cpy2_ne]) ?_
  refine g_iconst (v := 1) (pc' := 27) dX10_takes_26 (by decide) rfl ?_
  refine g_iadd (pc' := 28) dX10_takes_27 rfl ?_
  refine g_putI (pc' := 31) dX10_takes_28 fX10_15 rfl rfl ⟨rfl, rfl⟩ rfl ?_
  refine g_iconst (v := 1) (pc' := 32) dX10_takes_31 (by decide) rfl ?_
  exact g_iret dX10_takes_32 rfl (by decide) (⟨_, rfl, rfl, by rw [um_at, h1]; exact nI_1 len, by rw [um_ne (by omega), um_at], fun j hj => by rw [um_ne (by omega), um_at2 hj], fun a a0 a1 => by rw [um_ne a0, um_ne a1]⟩)
set_option maxRecDepth 100000 in
set_option maxHeartbeats 1000000 in
theorem s_takes_f {M : Nat → Nat → Int32} {N : Nat → Nat → Int64} {q : Nat} (h1 : M 170 1 = nI 80) : Run mX10_takes 0 0 0 [.ref 170, .int (nI q)] (SK, M, N) (fun r h' => h' = (SK, M, N) ∧ r = some (.int 0)) := by
  refine Run.of (by decide) (Nat.le_of_ble_eq_true rfl) ?_
  refine g_aload_n (j := 0) (pc' := 1) dX10_takes_0 rfl rfl ?_
  refine g_getI (pc' := 4) dX10_takes_1 fX10_15 rfl rfl rfl ?_
  refine g_top (y := nI 80) (h1) ?_
  refine g_bipush (v := 80) (pc' := 6) dX10_takes_4 (by decide) rfl ?_
  refine g_icmp_lt (tgt := 11) (pc' := 9) dX10_takes_6 (by decide) rfl (fun hc => (absurd hc (by decide))) (fun hc => ?_)
  refine g_iconst (v := 0) (pc' := 10) dX10_takes_9 (by decide) rfl ?_
  exact g_iret dX10_takes_10 rfl (by decide) (⟨rfl, rfl⟩)
set_option maxRecDepth 100000 in
set_option maxHeartbeats 1000000 in
theorem c_type_b {M : Nat → Nat → Int32} {N : Nat → Nat → Int64} {n k : Nat} {P : Nat → Int32} {pa : List (Nat → Int32)} {kp : Option YS} {tp : List Int32} {sh : Nat → Option (Nat × Nat × (Nat → Int64))} (hA : AOk ((n, k, P, pa), kp, tp, sh)) (hI : CI M N ((n, k, P, pa), kp, tp, sh)) {v : Int32} (h1 : v < 32 ∨ 126 < v) : Run mX11_type 30 0 0 [.ref 0, .int v] (SK, M, N) (CQ M N (-1) ((n, k, P, pa), kp, tp, sh)) := by
  refine Run.of (by decide) (Nat.le_of_ble_eq_true rfl) ?_
  have hok : OkP n k P := hA.1.1.1
  have hc0 : IsC M 14 n k P := hI.1.1
  have hn6 := hok.1
  have hk6 := hok.2.1
  refine g_iload_n (j := 1) (pc' := 1) dX11_type_0 rfl rfl ?_
  refine g_bipush (v := 32) (pc' := 3) dX11_type_1 (by decide) rfl ?_
  refine g_bipush (v := 126) (pc' := 5) dX11_type_3 (by decide) rfl ?_
  refine g_callS (my := mX11_outside) (st := []) (av := [.int v, .int 32, .int 126]) (mcr := 0) (msr := 0) (mc := 0) (ms := 0) (pc' := 8) dX11_type_5 kX11_outside wX11_71 rfl (Nat.le_of_ble_eq_true rfl) (by decide) (s_out1 (h1)) rfl ?_
  rintro _ _ ⟨rfl, rfl⟩
  show Go mX11_type _ _ _ 8 [(0, .ref 0), (1, .int v)] [.int 1] (SK, M, N) _
  refine g_if_eq (tgt := 13) (pc' := 11) dX11_type_8 (by decide) rfl (fun hc => absurd hc (by decide)) (fun _ => ?_)
  refine g_iconst (v := (-1)) (pc' := 12) dX11_type_11 (by decide) rfl ?_
  exact g_iret dX11_type_12 rfl rfl (CQ.same hI)
set_option maxRecDepth 100000 in
set_option maxHeartbeats 1000000 in
theorem c_type_f {M : Nat → Nat → Int32} {N : Nat → Nat → Int64} {n k : Nat} {P : Nat → Int32} {pa : List (Nat → Int32)} {kp : Option YS} {tp : List Int32} {sh : Nat → Option (Nat × Nat × (Nat → Int64))} (hA : AOk ((n, k, P, pa), kp, tp, sh)) (hI : CI M N ((n, k, P, pa), kp, tp, sh)) {q : Nat} (h1 : 32 ≤ q) (h2 : q ≤ 126) (h80 : tp.length = 80) : Run mX11_type 30 0 0 [.ref 0, .int (nI q)] (SK, M, N) (CQ M N (-3) ((n, k, P, pa), kp, tp, sh)) := by
  refine Run.of (by decide) (Nat.le_of_ble_eq_true rfl) ?_
  have hok : OkP n k P := hA.1.1.1
  have hc0 : IsC M 14 n k P := hI.1.1
  have hn6 := hok.1
  have hk6 := hok.2.1
  refine g_iload_n (j := 1) (pc' := 1) dX11_type_0 rfl rfl ?_
  refine g_bipush (v := 32) (pc' := 3) dX11_type_1 (by decide) rfl ?_
  refine g_bipush (v := 126) (pc' := 5) dX11_type_3 (by decide) rfl ?_
  refine g_callS (my := mX11_outside) (st := []) (av := [.int (nI q), .int 32, .int 126]) (mcr := 0) (msr := 0) (mc := 0) (ms := 0) (pc' := 8) dX11_type_5 kX11_outside wX11_71 rfl (Nat.le_of_ble_eq_true rfl) (by decide) (s_out0 (rng2 (lo := 32) (hi := 126) h1 h2 (by omega))) rfl ?_
  rintro _ _ ⟨rfl, rfl⟩
  show Go mX11_type _ _ _ 8 [(0, .ref 0), (1, .int (nI q))] [.int 0] (SK, M, N) _
  refine g_if_eq (tgt := 13) (pc' := 11) dX11_type_8 (by decide) rfl (fun _ => ?_) (fun hc => absurd rfl hc)
  refine g_aload_n (j := 0) (pc' := 14) dX11_type_13 rfl rfl ?_
  refine g_getR (pc' := 17) dX11_type_14 fX11_55 rfl rfl rfl ?_
  refine g_iload_n (j := 1) (pc' := 18) dX11_type_17 rfl rfl ?_
  refine g_i2c (pc' := 19) dX11_type_18 rfl ?_
  refine g_top (y := nI q) (by rw [pk_char, pk_tn (by omega), Nat.mod_eq_of_lt (by omega)]) ?_
  have hl80 : M 170 1 = nI 80 := by rw [hI.2.2.1.1]; show nI tp.length = _; rw [h80]
  refine g_callV (my := mX10_takes) (k := 170) (st := []) (av := [.int (nI q)]) (mcr := 0) (msr := 0) (mc := 0) (ms := 0) (pc' := 22) dX11_type_19 kX10_takes wX11_143 rfl ⟨rfl, rfl⟩ rfl (Nat.le_of_ble_eq_true rfl) (by decide) (s_takes_f hl80) rfl ?_
  rintro _ _ ⟨rfl, rfl⟩
  show Go mX11_type _ _ _ 22 [(0, .ref 0), (1, .int (nI q))] [.int 0] (SK, M, N) _
  refine g_if_eq (tgt := 35) (pc' := 25) dX11_type_22 (by decide) rfl (fun _ => ?_) (fun hc => absurd rfl hc)
  refine g_bipush (v := (-3)) (pc' := 37) dX11_type_35 (by decide) rfl ?_
  exact g_iret dX11_type_37 rfl rfl (CQ.same hI)
set_option maxRecDepth 100000 in
set_option maxHeartbeats 1000000 in
theorem c_type {M : Nat → Nat → Int32} {N : Nat → Nat → Int64} {n k : Nat} {P : Nat → Int32} {pa : List (Nat → Int32)} {kp : Option YS} {tp : List Int32} {sh : Nat → Option (Nat × Nat × (Nat → Int64))} (hA : AOk ((n, k, P, pa), kp, tp, sh)) (hI : CI M N ((n, k, P, pa), kp, tp, sh)) {q : Nat} (h1 : 32 ≤ q) (h2 : q ≤ 126) (h80 : tp.length < 80) : Run mX11_type 30 0 0 [.ref 0, .int (nI q)] (SK, M, N) (CQ M N (nI (tp.length + 1)) ((n, k, P, pa), kp, tp ++ [nI q], sh)) := by
  refine Run.of (by decide) (Nat.le_of_ble_eq_true rfl) ?_
  have hok : OkP n k P := hA.1.1.1
  have hc0 : IsC M 14 n k P := hI.1.1
  have hn6 := hok.1
  have hk6 := hok.2.1
  refine g_iload_n (j := 1) (pc' := 1) dX11_type_0 rfl rfl ?_
  refine g_bipush (v := 32) (pc' := 3) dX11_type_1 (by decide) rfl ?_
  refine g_bipush (v := 126) (pc' := 5) dX11_type_3 (by decide) rfl ?_
  refine g_callS (my := mX11_outside) (st := []) (av := [.int (nI q), .int 32, .int 126]) (mcr := 0) (msr := 0) (mc := 0) (ms := 0) (pc' := 8) dX11_type_5 kX11_outside wX11_71 rfl (Nat.le_of_ble_eq_true rfl) (by decide) (s_out0 (rng2 (lo := 32) (hi := 126) h1 h2 (by omega))) rfl ?_
  rintro _ _ ⟨rfl, rfl⟩
  show Go mX11_type _ _ _ 8 [(0, .ref 0), (1, .int (nI q))] [.int 0] (SK, M, N) _
  refine g_if_eq (tgt := 13) (pc' := 11) dX11_type_8 (by decide) rfl (fun _ => ?_) (fun hc => absurd rfl hc)
  refine g_aload_n (j := 0) (pc' := 14) dX11_type_13 rfl rfl ?_
  refine g_getR (pc' := 17) dX11_type_14 fX11_55 rfl rfl rfl ?_
  refine g_iload_n (j := 1) (pc' := 18) dX11_type_17 rfl rfl ?_
  refine g_i2c (pc' := 19) dX11_type_18 rfl ?_
  refine g_top (y := nI q) (by rw [pk_char, pk_tn (by omega), Nat.mod_eq_of_lt (by omega)]) ?_
  refine g_callV (my := mX10_takes) (k := 170) (st := []) (av := [.int (nI q)]) (mcr := 0) (msr := 0) (mc := 0) (ms := 0) (pc' := 22) dX11_type_19 kX10_takes wX11_143 rfl ⟨rfl, rfl⟩ rfl (Nat.le_of_ble_eq_true rfl) (by decide) (s_takes hI.2.2.1.1 h80 (show q < 65536 by omega)) rfl ?_
  rintro _ _ ⟨M1, rfl, rfl, t1, t2, t3, t4⟩
  show Go mX11_type _ _ _ 22 [(0, .ref 0), (1, .int (nI q))] [.int 1] (SK, M1, N) _
  refine g_if_eq (tgt := 35) (pc' := 25) dX11_type_22 (by decide) rfl (fun hc => absurd hc (by decide)) (fun _ => ?_)
  refine g_aload_n (j := 0) (pc' := 26) dX11_type_25 rfl rfl ?_
  refine g_getR (pc' := 29) dX11_type_26 fX11_55 rfl rfl rfl ?_
  refine g_getI (pc' := 32) dX11_type_29 fX11_147 rfl rfl rfl ?_
  refine g_top (y := nI (tp.length + 1)) (t1) ?_
  refine g_goto (tgt := 37) dX11_type_32 (by decide) ?_
  refine g_iret dX11_type_37 rfl rfl (⟨M1, N, rfl, rfl, ⟨hI.1.keep (fun a a1 a2 => t4 a (by omega) (by omega)) (fun a a1 a2 => t4 a (by omega) (by omega)), hI.2.1.keep (t4 0 (by omega) (by omega)) (fun a a1 a2 => t4 a (by omega) (by omega)), ⟨by rw [List.length_append]; exact t1, fun j x hj => ?_⟩, fun i hi => (hI.2.2.2 i hi).keep (t4 _ (by omega) (by omega)) rfl⟩, fun a ha => ⟨t4 a (by omega) (by omega), rfl⟩⟩)
  by_cases e : j = tp.length
  · subst e
    rw [List.getElem?_append_right (Nat.le_refl _), Nat.sub_self] at hj
    cases hj
    exact t2
  · have hjl : j < tp.length := by
      have := (List.getElem?_eq_some_iff.mp hj).1
      rw [List.length_append] at this
      simp at this
      omega
    rw [List.getElem?_append_left hjl] at hj
    rw [t3 j e]
    exact hI.2.2.1.2 j x hj
