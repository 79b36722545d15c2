/-- THE DRAW as the reference has it -/
theorem litL (n : Nat) : (OfNat.ofNat n : Int64) = lN n := rfl
theorem litI (n : Nat) : (OfNat.ofNat n : Int32) = nI n := rfl
theorem dr_a {a c d : Nat} (ha : a < 2 ^ 31) : (nI a).toInt64 * lN c + lN d = lN (a * c + d) := by rw [nI_l ha, lN_mul, lN_add]
theorem dr_b (a c d : Nat) : nI a * nI c + nI d = nI (a * c + d) := by rw [pk_mul, nI_add]
theorem dr_c (z : Nat) : (nI z).toBitVec.toNat = z % 2 ^ 32 := BitVec.toNat_ofNat z 32
theorem dr_d (z : Nat) : nI z &&& 2147483647 = nI (z % 2 ^ 31) := by
  have e3 : (nI z &&& 2147483647) = nI ((nI z).toBitVec.toNat % 2 ^ 31) := pk_and (nI z) 31 (by decide)
  rw [e3, dr_c, Nat.mod_mod_of_dvd z (Nat.pow_dvd_pow 2 (by omega))]
theorem dr_e {z : Nat} (hz : z < 2 ^ 63) : lN z - lN z / lN (2 ^ 31) * lN (2 ^ 31) = lN (z % 2 ^ 31) := pk_lRem hz (by decide) (by decide)
theorem draw64 {x : Int32} (h : ¬ x < 0) : (Int64.toInt32 ((x.toInt64 * 1103515245 + 12345) - (x.toInt64 * 1103515245 + 12345) / 2147483648 * 2147483648)) = drawI x := by
  obtain ⟨a, ha, rfl⟩ := nI_of h
  unfold drawI
  have e1 : (2147483648 : Int64) = lN (2 ^ 31) := by decide
  rw [litL 1103515245, litL 12345, e1, litI 1103515245, litI 12345]
  have hz : a * 1103515245 + 12345 < 2 ^ 63 := by omega
  rw [dr_a ha, dr_b, dr_e hz, lN_i, dr_d]
/-- how many of the first m are false -/
def cnf (f : Nat → Bool) : Nat → Int32
  | 0 => 0
  | m + 1 => cnf f m + (if f m then 0 else 1)
theorem cnf_bit {f : Nat → Bool} {n : Nat} (h : n ≤ 6) : cnf f n = nI n - bitC (setF f n) := by
  rcases (show n = 0 ∨ n = 1 ∨ n = 2 ∨ n = 3 ∨ n = 4 ∨ n = 5 ∨ n = 6 by omega) with rfl | rfl | rfl | rfl | rfl | rfl | rfl
  all_goals (simp only [cnf, setF]; try generalize f 0 = b0)
  all_goals (try generalize f 1 = b1)
  all_goals (try generalize f 2 = b2)
  all_goals (try generalize f 3 = b3)
  all_goals (try generalize f 4 = b4)
  all_goals (try generalize f 5 = b5)
  all_goals (try revert b5)
  all_goals (try revert b4)
  all_goals (try revert b3)
  all_goals (try revert b2)
  all_goals (try revert b1)
  all_goals (try revert b0)
  all_goals decide +kernel
set_option maxRecDepth 100000 in
set_option maxHeartbeats 1000000 in
theorem r_drift_b {M : Nat → Nat → Int32} {N : Nat → Nat → Int64} {n k : Nat} {P : Nat → Int32} {pa : List (Nat → Int32)} {kp : Option YS} {tp : List Int32} {sh : Nat → Option (Nat × Nat × (Nat → Int64))} (hA : AOk ((n, k, P, pa), kp, tp, sh)) (hI : RI M N ((n, k, P, pa), kp, tp, sh)) {v : Int32} (h1 : v < 1 ∨ 40 < v) : Run mX12_drift 30 0 0 [.ref 189, .int v] (SK, M, N) (RQ M N (-1) ((n, k, P, pa), kp, tp, sh)) := by
  refine Run.of (by decide) (Nat.le_of_ble_eq_true rfl) ?_
  have hok : OkP n k P := hA.1.1.1
  have hP : ∀ j, j < 47 → M 190 j = P j := hI.1.1
  have hn6 := hok.1
  have hk6 := hok.2.1
  have hn : M 190 0 = nI n := (hP 0 (by omega)).trans hok.2.2.1
  have hk : M 190 1 = nI k := (hP 1 (by omega)).trans hok.2.2.2.1
  refine g_iload_n (j := 1) (pc' := 1) dX12_drift_0 rfl rfl ?_
  refine g_i2l (pc' := 2) dX12_drift_1 rfl ?_
  refine g_lconst (v := 1) (pc' := 3) dX12_drift_2 (by decide) rfl ?_
  refine g_ldc2 (v := 40) (pc' := 6) dX12_drift_3 qX12_166 rfl ?_
  refine g_callS (my := mX12_in) (st := []) (av := [.long (Int32.toInt64 v), .long 1, .long 40]) (mcr := 0) (msr := 0) (mc := 0) (ms := 0) (pc' := 9) dX12_drift_6 kX12_in wX12_55 rfl (Nat.le_of_ble_eq_true rfl) (by decide) (r_in0 (lo := 1) (hi := 40) (by decide) (by decide) (h1)) rfl ?_
  rintro _ _ ⟨rfl, rfl⟩
  show Go mX12_drift _ _ _ 9 [(0, .ref 189), (1, .int v)] [.int 0] (SK, M, N) _
  refine g_if_ne (tgt := 14) (pc' := 12) dX12_drift_9 (by decide) rfl (fun hc => absurd rfl hc) (fun _ => ?_)
  refine g_iconst (v := (-1)) (pc' := 13) dX12_drift_12 (by decide) rfl ?_
  exact g_iret dX12_drift_13 rfl rfl (RQ.same hI)
set_option maxRecDepth 100000 in
set_option maxHeartbeats 1000000 in
theorem r_drift_f {M : Nat → Nat → Int32} {N : Nat → Nat → Int64} {n k : Nat} {P : Nat → Int32} {pa : List (Nat → Int32)} {kp : Option YS} {tp : List Int32} {sh : Nat → Option (Nat × Nat × (Nat → Int64))} (hA : AOk ((n, k, P, pa), kp, tp, sh)) (hI : RI M N ((n, k, P, pa), kp, tp, sh)) {t r : Nat} (ht1 : 1 ≤ t) (ht40 : t ≤ 40) (h3 : P 3 = nI r) (hr : r ≤ 9999) (hb : 9999 < r + t) : Run mX12_drift 30 0 0 [.ref 189, .int (nI t)] (SK, M, N) (RQ M N (-3) ((n, k, P, pa), kp, tp, sh)) := by
  refine Run.of (by decide) (Nat.le_of_ble_eq_true rfl) ?_
  have hok : OkP n k P := hA.1.1.1
  have hP : ∀ j, j < 47 → M 190 j = P j := hI.1.1
  have hn6 := hok.1
  have hk6 := hok.2.1
  have hn : M 190 0 = nI n := (hP 0 (by omega)).trans hok.2.2.1
  have hk : M 190 1 = nI k := (hP 1 (by omega)).trans hok.2.2.2.1
  refine g_iload_n (j := 1) (pc' := 1) dX12_drift_0 rfl rfl ?_
  refine g_i2l (pc' := 2) dX12_drift_1 rfl ?_
  refine g_lconst (v := 1) (pc' := 3) dX12_drift_2 (by decide) rfl ?_
  refine g_ldc2 (v := 40) (pc' := 6) dX12_drift_3 qX12_166 rfl ?_
  refine g_callS (my := mX12_in) (st := []) (av := [.long (Int32.toInt64 (nI t)), .long 1, .long 40]) (mcr := 0) (msr := 0) (mc := 0) (ms := 0) (pc' := 9) dX12_drift_6 kX12_in wX12_55 rfl (Nat.le_of_ble_eq_true rfl) (by decide) (r_in1 (lo := 1) (hi := 40) (by decide) (by decide) (not_rng1 ht1 ht40)) rfl ?_
  rintro _ _ ⟨rfl, rfl⟩
  show Go mX12_drift _ _ _ 9 [(0, .ref 189), (1, .int (nI t))] [.int 1] (SK, M, N) _
  refine g_if_ne (tgt := 14) (pc' := 12) dX12_drift_9 (by decide) rfl (fun _ => ?_) (fun hc => absurd hc (by decide))
  refine g_aload_n (j := 0) (pc' := 15) dX12_drift_14 rfl rfl ?_
  refine g_getR (pc' := 18) dX12_drift_15 fX12_7 rfl rfl rfl ?_
  refine g_iconst (v := 3) (pc' := 19) dX12_drift_18 (by decide) rfl ?_
  refine g_iald (n := 3) (pc' := 20) dX12_drift_19 rfl rfl (by omega) rfl ?_
  refine g_top (y := P 3) (hP 3 (by omega)) ?_
  refine g_iload_n (j := 1) (pc' := 21) dX12_drift_20 rfl rfl ?_
  refine g_iadd (pc' := 22) dX12_drift_21 rfl ?_
  refine g_top (y := nI (r + t)) (nI_addE h3 rfl) ?_
  refine g_sipush (v := 9999) (pc' := 25) dX12_drift_22 (by decide) rfl ?_
  refine g_icmp_le (tgt := 31) (pc' := 28) dX12_drift_25 (by decide) rfl (fun hc => (absurd hc (nI_ge (a := 9999) (b := r + t) hb (by omega)))) (fun hc => ?_)
  refine g_bipush (v := (-3)) (pc' := 30) dX12_drift_28 (by decide) rfl ?_
  exact g_iret dX12_drift_30 rfl rfl (RQ.same hI)
set_option maxRecDepth 100000 in
set_option maxHeartbeats 1000000 in
theorem r_drift {M : Nat → Nat → Int32} {N : Nat → Nat → Int64} {n k : Nat} {P : Nat → Int32} {pa : List (Nat → Int32)} {kp : Option YS} {tp : List Int32} {sh : Nat → Option (Nat × Nat × (Nat → Int64))} (hA : AOk ((n, k, P, pa), kp, tp, sh)) (hI : RI M N ((n, k, P, pa), kp, tp, sh)) {t r : Nat} (ht1 : 1 ≤ t) (ht40 : t ≤ 40) (h3 : P 3 = nI r) (hb : r + t ≤ 9999) : Run mX12_drift 30 0 0 [.ref 189, .int (nI t)] (SK, M, N) (RQ M N (drC n k P pa t) ((n, k, (drS n k P pa t).1, (drS n k P pa t).2), kp, tp, sh)) := by
  refine Run.of (by decide) (Nat.le_of_ble_eq_true rfl) ?_
  have hok : OkP n k P := hA.1.1.1
  have hP : ∀ j, j < 47 → M 190 j = P j := hI.1.1
  have hn6 := hok.1
  have hk6 := hok.2.1
  have hn : M 190 0 = nI n := (hP 0 (by omega)).trans hok.2.2.1
  have hk : M 190 1 = nI k := (hP 1 (by omega)).trans hok.2.2.2.1
  refine g_iload_n (j := 1) (pc' := 1) dX12_drift_0 rfl rfl ?_
  refine g_i2l (pc' := 2) dX12_drift_1 rfl ?_
  refine g_lconst (v := 1) (pc' := 3) dX12_drift_2 (by decide) rfl ?_
  refine g_ldc2 (v := 40) (pc' := 6) dX12_drift_3 qX12_166 rfl ?_
  refine g_callS (my := mX12_in) (st := []) (av := [.long (Int32.toInt64 (nI t)), .long 1, .long 40]) (mcr := 0) (msr := 0) (mc := 0) (ms := 0) (pc' := 9) dX12_drift_6 kX12_in wX12_55 rfl (Nat.le_of_ble_eq_true rfl) (by decide) (r_in1 (lo := 1) (hi := 40) (by decide) (by decide) (not_rng1 ht1 ht40)) rfl ?_
  rintro _ _ ⟨rfl, rfl⟩
  show Go mX12_drift _ _ _ 9 [(0, .ref 189), (1, .int (nI t))] [.int 1] (SK, M, N) _
  refine g_if_ne (tgt := 14) (pc' := 12) dX12_drift_9 (by decide) rfl (fun _ => ?_) (fun hc => absurd hc (by decide))
  refine g_aload_n (j := 0) (pc' := 15) dX12_drift_14 rfl rfl ?_
  refine g_getR (pc' := 18) dX12_drift_15 fX12_7 rfl rfl rfl ?_
  refine g_iconst (v := 3) (pc' := 19) dX12_drift_18 (by decide) rfl ?_
  refine g_iald (n := 3) (pc' := 20) dX12_drift_19 rfl rfl (by omega) rfl ?_
  refine g_top (y := P 3) (hP 3 (by omega)) ?_
  refine g_iload_n (j := 1) (pc' := 21) dX12_drift_20 rfl rfl ?_
  refine g_iadd (pc' := 22) dX12_drift_21 rfl ?_
  refine g_top (y := nI (r + t)) (nI_addE h3 rfl) ?_
  refine g_sipush (v := 9999) (pc' := 25) dX12_drift_22 (by decide) rfl ?_
  refine g_icmp_le (tgt := 31) (pc' := 28) dX12_drift_25 (by decide) rfl (fun hc => ?_) (fun hc => (absurd (nI_le (a := r + t) (b := 9999) hb (by omega)) hc))
  refine g_iconst (v := 0) (pc' := 32) dX12_drift_31 (by decide) rfl ?_
  refine g_istore_n (L' := [(0, .ref 189), (1, .int (nI t)), (2, .int 0)]) (pc' := 33) dX12_drift_32 (by decide) rfl rfl ?_
  refine g_iconst (v := 0) (pc' := 34) dX12_drift_33 (by decide) rfl ?_
  refine g_istore_n (L' := [(0, .ref 189), (1, .int (nI t)), (2, .int 0), (3, .int 0)]) (pc' := 35) dX12_drift_34 (by decide) rfl rfl ?_
  have loop : ∀ (u j : Nat) (M1 : Nat → Nat → Int32), j + u = t → YR M1 190 (n, k, (drS n k P pa j).1, (drS n k P pa j).2) → (∀ a, ¬ tmpR a → a ≠ 190 → M1 a = M a) → Go mX12_drift 30 0 0 35 [(0, .ref 189), (1, .int (nI t)), (2, .int (drC n k P pa j)), (3, .int (nI j))] [] (SK, M1, N) (RQ M N (drC n k P pa t) ((n, k, (drS n k P pa t).1, (drS n k P pa t).2), kp, tp, sh)) := by
    intro u
    induction u with
    | zero =>
      intro j M1 hj hY hf
      obtain rfl : j = t := by omega
      refine g_iload_n (j := 3) (pc' := 36) dX12_drift_35 rfl rfl ?_
      refine g_iload_n (j := 1) (pc' := 37) dX12_drift_36 rfl rfl ?_
      refine g_icmp_ge (tgt := 142) (pc' := 40) dX12_drift_37 (by decide) rfl (fun hc => ?_) (fun hc => (absurd (nI_le (Nat.le_refl _) (by omega)) hc))
      refine g_iload_n (j := 2) (pc' := 143) dX12_drift_142 rfl rfl ?_
      exact g_iret dX12_drift_143 rfl rfl (RQ.now hI hY hf)
    | succ u ih =>
      intro j M1 hj hY hf
      refine g_iload_n (j := 3) (pc' := 36) dX12_drift_35 rfl rfl ?_
      refine g_iload_n (j := 1) (pc' := 37) dX12_drift_36 rfl rfl ?_
      refine g_icmp_ge (tgt := 142) (pc' := 40) dX12_drift_37 (by decide) rfl (fun hc => (absurd hc (nI_ge (by omega) (by omega)))) (fun hc => ?_)
      have hg := drS_ok hA.1 h3 (t := j) (by omega)
      have hg2 := drS_ok hA.1 h3 (t := j + 1) (by omega)
      refine g_aload_n (j := 0) (pc' := 41) dX12_drift_40 rfl rfl ?_
      refine g_callV (my := mX12_remember) (k := 189) (st := []) (av := []) (mcr := 0) (msr := 0) (mc := 0) (ms := 0) (pc' := 44) dX12_drift_41 kX12_remember wX12_168 rfl ⟨rfl, rfl⟩ rfl (Nat.le_of_ble_eq_true rfl) (by decide) (r_remember hg.1.2.1 hY) rfl ?_
      rintro _ _ ⟨M2, rfl, rfl, hY2, hf2⟩
      show Go mX12_drift _ _ _ 44 [(0, .ref 189), (1, .int (nI t)), (2, .int (drC n k P pa j)), (3, .int (nI j))] [] (SK, M2, N) _
      refine g_aload_n (j := 0) (pc' := 45) dX12_drift_44 rfl rfl ?_
      refine g_getR (pc' := 48) dX12_drift_45 fX12_7 rfl rfl rfl ?_
      refine g_bipush (v := 46) (pc' := 50) dX12_drift_48 (by decide) rfl ?_
      refine g_aload_n (j := 0) (pc' := 51) dX12_drift_50 rfl rfl ?_
      refine g_getR (pc' := 54) dX12_drift_51 fX12_7 rfl rfl rfl ?_
      refine g_bipush (v := 46) (pc' := 56) dX12_drift_54 (by decide) rfl ?_
      refine g_iald (n := 46) (pc' := 57) dX12_drift_56 rfl rfl (by omega) rfl ?_
      refine g_top (y := (drS n k P pa j).1 46) (hY2.1 46 (by omega)) ?_
      refine g_i2l (pc' := 58) dX12_drift_57 rfl ?_
      refine g_ldc2 (v := 1103515245) (pc' := 61) dX12_drift_58 qX12_174 rfl ?_
      refine g_lmul (pc' := 62) dX12_drift_61 rfl ?_
      refine g_ldc2 (v := 12345) (pc' := 65) dX12_drift_62 qX12_176 rfl ?_
      refine g_ladd (pc' := 66) dX12_drift_65 rfl ?_
      refine g_ldc2 (v := 2147483648) (pc' := 69) dX12_drift_66 qX12_178 rfl ?_
      refine g_lrem (pc' := 70) dX12_drift_69 (by decide) rfl ?_
      refine g_l2i (pc' := 71) dX12_drift_70 rfl ?_
      refine g_top (y := drawI ((drS n k P pa j).1 46)) (draw64 hg.1.1.2.2.2) ?_
      refine g_iast (n := 46) (pc' := 72) dX12_drift_71 rfl rfl (by omega) rfl ?_
      have hY3 := hY2.up (j := 46) (v := drawI ((drS n k P pa j).1 46)) (by omega)
      generalize hM3 : (um M2 190 46 (drawI ((drS n k P pa j).1 46))) = M3
      rw [hM3] at hY3
      refine g_aload_n (j := 0) (pc' := 73) dX12_drift_72 rfl rfl ?_
      refine g_aload_n (j := 0) (pc' := 74) dX12_drift_73 rfl rfl ?_
      refine g_getR (pc' := 77) dX12_drift_74 fX12_7 rfl rfl rfl ?_
      refine g_aload_n (j := 0) (pc' := 78) dX12_drift_77 rfl rfl ?_
      refine g_getR (pc' := 81) dX12_drift_78 fX12_7 rfl rfl rfl ?_
      refine g_bipush (v := 46) (pc' := 83) dX12_drift_81 (by decide) rfl ?_
      refine g_iald (n := 46) (pc' := 84) dX12_drift_83 rfl rfl (by omega) rfl ?_
      refine g_top (y := drawI ((drS n k P pa j).1 46)) (by rw [← hM3]; exact um_at) ?_
      refine g_ldc (v := 65536) (pc' := 86) dX12_drift_84 qX12_180 rfl ?_
      refine g_idiv (pc' := 87) dX12_drift_86 (by decide) rfl ?_
      refine g_bipush (v := 21) (pc' := 89) dX12_drift_87 (by decide) rfl ?_
      refine g_irem (pc' := 90) dX12_drift_89 (by decide) rfl ?_
      refine g_top (y := stonesI (drawI ((drS n k P pa j).1 46))) (rfl) ?_
      refine g_callV (my := mX12_goes) (k := 189) (st := []) (av := [.ref 190, .int (stonesI (drawI ((drS n k P pa j).1 46)))]) (mcr := 0) (msr := 0) (mc := 0) (ms := 0) (pc' := 93) dX12_drift_90 kX12_goes wX12_171 rfl ⟨rfl, rfl⟩ rfl (Nat.le_of_ble_eq_true rfl) (by decide) (r_goes (c := 190) rfl (by omega) (hg.1.1.1.draw (drawI ((drS n k P pa j).1 46))) hY3.1 (stonesI (drawI ((drS n k P pa j).1 46)))) rfl ?_
      rintro _ _ ⟨M4, rfl, rfl, h47, h48, hf4⟩
      show Go mX12_drift _ _ _ 93 [(0, .ref 189), (1, .int (nI t)), (2, .int (drC n k P pa j)), (3, .int (nI j))] [] (SK, M4, N) _
      have hY4 : YR M4 190 (n, k, (drS n k P pa (j + 1)).1, (drS n k P pa (j + 1)).2) := hY3.goes h47 h48
      have hf5 : ∀ a, ¬ tmpR a → a ≠ 190 → M4 a = M a := fun a ta ha => by
        unfold tmpR at ta
        rw [hf4 a ha (by omega) (by omega) (by omega), ← hM3, um_ne ha, hf2 a ha]
        exact hf a (by unfold tmpR; omega) ha
      have hnx := ih (j + 1) M4 (by omega) hY4 hf5
      generalize hD : (drS n k P pa (j + 1)) = D at hY4 hg2 hnx
      have hn0 : M4 190 0 = nI n := (hY4.1 0 (by omega)).trans hg2.1.1.1.2.2.1
      have hdc : drC n k P pa (j + 1) = drC n k P pa j + cnf (fun m => decide (D.1 (28 + m) ≠ -4)) n := by rw [cnf_bit hn6, ← hD]; rfl
      refine g_iconst (v := 0) (pc' := 94) dX12_drift_93 (by decide) rfl ?_
      refine g_istore (L' := [(0, .ref 189), (1, .int (nI t)), (2, .int (drC n k P pa j)), (3, .int (nI j)), (4, .int 0)]) (pc' := 96) dX12_drift_94 (by decide) rfl rfl ?_
      have inner : ∀ (u2 m : Nat), m + u2 = n → Go mX12_drift 30 0 0 96 [(0, .ref 189), (1, .int (nI t)), (2, .int (drC n k P pa j + cnf (fun m => decide (D.1 (28 + m) ≠ -4)) m)), (3, .int (nI j)), (4, .int (nI m))] [] (SK, M4, N) (RQ M N (drC n k P pa t) ((n, k, (drS n k P pa t).1, (drS n k P pa t).2), kp, tp, sh)) := by
        intro u2
        induction u2 with
        | zero =>
          intro m hm
          refine g_iload (j := 4) (pc' := 98) dX12_drift_96 rfl rfl ?_
          refine g_aload_n (j := 0) (pc' := 99) dX12_drift_98 rfl rfl ?_
          refine g_getR (pc' := 102) dX12_drift_99 fX12_7 rfl rfl rfl ?_
          refine g_iconst (v := 0) (pc' := 103) dX12_drift_102 (by decide) rfl ?_
          refine g_iald (n := 0) (pc' := 104) dX12_drift_103 rfl rfl (by omega) rfl ?_
          refine g_top (y := nI n) (hn0) ?_
          refine g_icmp_ge (tgt := 136) (pc' := 107) dX12_drift_104 (by decide) rfl (fun hc => ?_) (fun hc => (absurd (nI_le (a := n) (b := m) (by omega) (by omega)) hc))
          obtain rfl : n = m := by omega
          rw [hdc] at hnx
          refine g_iinc (j := 3) (v := nI (j + 1)) (L' := [(0, .ref 189), (1, .int (nI t)), (2, .int (drC n k P pa j + cnf (fun m => decide (D.1 (28 + m) ≠ -4)) n)), (3, .int (nI (j + 1))), (4, .int (nI n))]) (pc' := 139) dX12_drift_136 rfl (nI_1 j) (by decide) rfl rfl ?_
          refine g_less (L' := [(0, .ref 189), (1, .int (nI t)), (2, .int (drC n k P pa j + cnf (fun m => decide (D.1 (28 + m) ≠ -4)) n)), (3, .int (nI (j + 1)))]) [0, 1, 2, 3] rfl ?_
          refine g_goto (tgt := 35) dX12_drift_139 (by decide) ?_
          exact hnx
        | succ u2 ih2 =>
          intro m hm
          refine g_iload (j := 4) (pc' := 98) dX12_drift_96 rfl rfl ?_
          refine g_aload_n (j := 0) (pc' := 99) dX12_drift_98 rfl rfl ?_
          refine g_getR (pc' := 102) dX12_drift_99 fX12_7 rfl rfl rfl ?_
          refine g_iconst (v := 0) (pc' := 103) dX12_drift_102 (by decide) rfl ?_
          refine g_iald (n := 0) (pc' := 104) dX12_drift_103 rfl rfl (by omega) rfl ?_
          refine g_top (y := nI n) (hn0) ?_
          refine g_icmp_ge (tgt := 136) (pc' := 107) dX12_drift_104 (by decide) rfl (fun hc => (absurd hc (nI_ge (a := m) (b := n) (by omega) (by omega)))) (fun hc => ?_)
          have hn2 := ih2 (m + 1) (by omega)
          refine g_iload_n (j := 2) (pc' := 108) dX12_drift_107 rfl rfl ?_
          refine g_aload_n (j := 0) (pc' := 109) dX12_drift_108 rfl rfl ?_
          refine g_getR (pc' := 112) dX12_drift_109 fX12_7 rfl rfl rfl ?_
          refine g_bipush (v := 28) (pc' := 114) dX12_drift_112 (by decide) rfl ?_
          refine g_iload (j := 4) (pc' := 116) dX12_drift_114 rfl rfl ?_
          refine g_iadd (pc' := 117) dX12_drift_116 rfl ?_
          refine g_iald (n := 28 + m) (pc' := 118) dX12_drift_117 rfl (nI_addE rfl rfl) (by omega) rfl ?_
          refine g_top (y := D.1 (28 + m)) (hY4.1 _ (by omega)) ?_
          refine g_bipush (v := (-4)) (pc' := 120) dX12_drift_118 (by decide) rfl ?_
          refine g_icmp_ne (tgt := 127) (pc' := 123) dX12_drift_120 (by decide) rfl (fun hc5 => ?_) (fun hc5 => ?_)
          · rw [show cnf (fun m => decide (D.1 (28 + m) ≠ -4)) (m + 1) = cnf (fun m => decide (D.1 (28 + m) ≠ -4)) m + 0 by rw [cnf, if_pos (decide_eq_true hc5)], ← Int32.add_assoc] at hn2
            refine g_iconst (v := 0) (pc' := 128) dX12_drift_127 (by decide) rfl ?_
            refine g_iadd (pc' := 129) dX12_drift_128 rfl ?_
            refine g_istore_n (L' := [(0, .ref 189), (1, .int (nI t)), (2, .int ((drC n k P pa j + cnf (fun m => decide (D.1 (28 + m) ≠ -4)) m) + 0)), (3, .int (nI j)), (4, .int (nI m))]) (pc' := 130) dX12_drift_129 (by decide) rfl rfl ?_
            refine g_iinc (j := 4) (v := nI (m + 1)) (L' := [(0, .ref 189), (1, .int (nI t)), (2, .int ((drC n k P pa j + cnf (fun m => decide (D.1 (28 + m) ≠ -4)) m) + 0)), (3, .int (nI j)), (4, .int (nI (m + 1)))]) (pc' := 133) dX12_drift_130 rfl (nI_1 m) (by decide) rfl rfl ?_
            refine g_goto (tgt := 96) dX12_drift_133 (by decide) ?_
            exact hn2
          · rw [show cnf (fun m => decide (D.1 (28 + m) ≠ -4)) (m + 1) = cnf (fun m => decide (D.1 (28 + m) ≠ -4)) m + 1 by rw [cnf, if_neg (by rw [decide_eq_false (fun q => q hc5)]; decide)], ← Int32.add_assoc] at hn2
            refine g_iconst (v := 1) (pc' := 124) dX12_drift_123 (by decide) rfl ?_
            refine g_goto (tgt := 128) dX12_drift_124 (by decide) ?_
            refine g_iadd (pc' := 129) dX12_drift_128 rfl ?_
            refine g_istore_n (L' := [(0, .ref 189), (1, .int (nI t)), (2, .int ((drC n k P pa j + cnf (fun m => decide (D.1 (28 + m) ≠ -4)) m) + 1)), (3, .int (nI j)), (4, .int (nI m))]) (pc' := 130) dX12_drift_129 (by decide) rfl rfl ?_
            refine g_iinc (j := 4) (v := nI (m + 1)) (L' := [(0, .ref 189), (1, .int (nI t)), (2, .int ((drC n k P pa j + cnf (fun m => decide (D.1 (28 + m) ≠ -4)) m) + 1)), (3, .int (nI j)), (4, .int (nI (m + 1)))]) (pc' := 133) dX12_drift_130 rfl (nI_1 m) (by decide) rfl rfl ?_
            refine g_goto (tgt := 96) dX12_drift_133 (by decide) ?_
            exact hn2
      have hs := inner n 0 (by omega)
      rw [show cnf (fun m => decide (D.1 (28 + m) ≠ -4)) 0 = 0 from rfl, Int32.add_zero] at hs
      exact hs
  exact loop t 0 M (by omega) hI.1 (fun a _ _ => rfl)
