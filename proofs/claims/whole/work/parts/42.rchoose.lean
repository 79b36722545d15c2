set_option maxRecDepth 100000 in
set_option maxHeartbeats 1000000 in
theorem r_chooses {M : Nat → Nat → Int32} {N : Nat → Nat → Int64} {n k c : Nat} {P : Nat → Int32} {off : Nat → Int32} (hs : SK[c]? = some (100, rep 352)) (h99 : c ≠ 199) (h20 : c ≠ 200) (hok : OkP n k P) (hP : ∀ j, j < 47 → M c j = P j) (ho : ∀ m, m < n → M 198 m = off m) : Run mX12_chooses 3 0 0 [.ref 189, .ref c] (SK, M, N) (fun r h' => ∃ M', h' = (SK, M', N) ∧ r = some (.int (chG P k (lineA off n) n).1) ∧ (∀ m, m < n → M' 200 m = optI (-4) ((chG P k (lineA off n) n).2 m)) ∧ (∀ j, j < n → M' 199 j = nI (lineA off n j)) ∧ ∀ a, a ≠ 199 → a ≠ 200 → M' a = M a) := by
  refine Run.of (by decide) (Nat.le_of_ble_eq_true rfl) ?_
  have hn6 := hok.1
  have hk6 := hok.2.1
  refine g_aload_n (j := 0) (pc' := 1) dX12_chooses_0 rfl rfl ?_
  refine g_aload_n (j := 1) (pc' := 2) dX12_chooses_1 rfl rfl ?_
  refine g_callV (my := mX12_layLine) (k := 189) (st := []) (av := [.ref c]) (mcr := 0) (msr := 0) (mc := 0) (ms := 0) (pc' := 5) dX12_chooses_2 kX12_layLine wX12_63 rfl ⟨rfl, rfl⟩ rfl (Nat.le_of_ble_eq_true rfl) (by decide) (r_layLine hs h99 hn6 ((hP 0 (by omega)).trans hok.2.2.1) ho) rfl ?_
  rintro _ _ ⟨M0, rfl, rfl, hL, hf0⟩
  show Go mX12_chooses _ _ _ 5 [(0, .ref 189), (1, .ref c)] [] (SK, M0, N) _
  have hll : ∀ {j}, j < n → lineA off n j < n := fun h => lineA_lt h
  have hsu := (lineA_sorted (off := off) n).2
  generalize lineA off n = l at hll hsu hL
  have hP0 : ∀ j, j < 47 → M0 c j = P j := fun j hj => by rw [hf0 c h99]; exact hP j hj
  refine g_iconst (v := 0) (pc' := 6) dX12_chooses_5 (by decide) rfl ?_
  refine g_istore_n (L' := [(0, .ref 189), (1, .ref c), (2, .int 0)]) (pc' := 7) dX12_chooses_6 (by decide) rfl rfl ?_
  refine g_iconst (v := 0) (pc' := 8) dX12_chooses_7 (by decide) rfl ?_
  refine g_istore_n (L' := [(0, .ref 189), (1, .ref c), (2, .int 0), (3, .int 0)]) (pc' := 9) dX12_chooses_8 (by decide) rfl rfl ?_
  have loop : ∀ (i t : Nat) (M1 : Nat → Nat → Int32), t + i = n → (∀ j, j < t → M1 200 (l j) = optI (-4) ((chG P k l t).2 (l j))) → (∀ a, a ≠ 200 → M1 a = M0 a) → Go mX12_chooses 3 0 0 9 [(0, .ref 189), (1, .ref c), (2, .int ((chG P k l t).1)), (3, .int (nI t))] [] (SK, M1, N) (fun r h' => ∃ M', h' = (SK, M', N) ∧ r = some (.int (chG P k l n).1) ∧ (∀ m, m < n → M' 200 m = optI (-4) ((chG P k l n).2 m)) ∧ (∀ j, j < n → M' 199 j = nI (l j)) ∧ ∀ a, a ≠ 199 → a ≠ 200 → M' a = M a) := by
    intro i
    induction i with
    | zero =>
      intro t M1 ht h1 hf
      have hP1 : ∀ j, j < 47 → M1 c j = P j := fun j hj => by rw [hf c h20]; exact hP0 j hj
      refine g_iload_n (j := 3) (pc' := 10) dX12_chooses_9 rfl rfl ?_
      refine g_aload_n (j := 1) (pc' := 11) dX12_chooses_10 rfl rfl ?_
      refine g_iconst (v := 0) (pc' := 12) dX12_chooses_11 (by decide) rfl ?_
      refine g_iald (n := 0) (pc' := 13) dX12_chooses_12 hs rfl (by omega) rfl ?_
      refine g_top (y := nI n) ((hP1 0 (by omega)).trans hok.2.2.1) ?_
      refine g_icmp_ge (tgt := 134) (pc' := 16) dX12_chooses_13 (by decide) rfl (fun hc => ?_) (fun hc => (absurd (nI_le (a := n) (b := t) (by omega) (by omega)) hc))
      obtain rfl : t = n := by omega
      refine g_iload_n (j := 2) (pc' := 135) dX12_chooses_134 rfl rfl ?_
      exact g_iret dX12_chooses_135 rfl rfl (⟨M1, rfl, rfl, fun m hm => by obtain ⟨j, hj, rfl⟩ := hsu m hm; exact h1 j hj, fun j hj => by rw [hf 199 (by omega)]; exact hL j hj, fun a a1 a2 => by rw [hf a a2]; exact hf0 a a1⟩)
    | succ i ih =>
      intro t M1 ht h1 hf
      have hP1 : ∀ j, j < 47 → M1 c j = P j := fun j hj => by rw [hf c h20]; exact hP0 j hj
      refine g_iload_n (j := 3) (pc' := 10) dX12_chooses_9 rfl rfl ?_
      refine g_aload_n (j := 1) (pc' := 11) dX12_chooses_10 rfl rfl ?_
      refine g_iconst (v := 0) (pc' := 12) dX12_chooses_11 (by decide) rfl ?_
      refine g_iald (n := 0) (pc' := 13) dX12_chooses_12 hs rfl (by omega) rfl ?_
      refine g_top (y := nI n) ((hP1 0 (by omega)).trans hok.2.2.1) ?_
      refine g_icmp_ge (tgt := 134) (pc' := 16) dX12_chooses_13 (by decide) rfl (fun hc => (absurd hc (nI_ge (a := t) (b := n) (by omega) (by omega)))) (fun hc => ?_)
      have hih := fun M2 => ih (t + 1) M2 (by omega)
      simp only [show (chG P k l (t + 1)).1 = addS (chG P k l t).1 (wishP P (l t) (chG P k l t).1 k) from rfl, show (chG P k l (t + 1)).2 = (fun x => if x = l t then wishP P (l t) (chG P k l t).1 k else (chG P k l t).2 x) from rfl] at hih
      have hmt := hll (show t < n by omega)
      generalize hm : l t = m at hmt hih
      generalize (chG P k l t).1 = s at hih
      generalize (chG P k l t).2 = ch at hih h1
      refine g_aload_n (j := 0) (pc' := 17) dX12_chooses_16 rfl rfl ?_
      refine g_getR (pc' := 20) dX12_chooses_17 fX12_38 rfl rfl rfl ?_
      refine g_iload_n (j := 3) (pc' := 21) dX12_chooses_20 rfl rfl ?_
      refine g_iald (n := t) (pc' := 22) dX12_chooses_21 rfl rfl (by omega) rfl ?_
      refine g_top (y := nI m) (by rw [hf 199 (by omega), hL t (by omega), hm]) ?_
      refine g_istore (L' := [(0, .ref 189), (1, .ref c), (2, .int s), (3, .int (nI t)), (4, .int (nI m))]) (pc' := 24) dX12_chooses_22 (by decide) rfl rfl ?_
      refine g_bipush (v := (-4)) (pc' := 26) dX12_chooses_24 (by decide) rfl ?_
      refine g_istore (L' := [(0, .ref 189), (1, .ref c), (2, .int s), (3, .int (nI t)), (4, .int (nI m)), (5, .int (-4))]) (pc' := 28) dX12_chooses_26 (by decide) rfl rfl ?_
      refine g_iconst (v := 0) (pc' := 29) dX12_chooses_28 (by decide) rfl ?_
      refine g_istore (L' := [(0, .ref 189), (1, .ref c), (2, .int s), (3, .int (nI t)), (4, .int (nI m)), (5, .int (-4)), (6, .int 0)]) (pc' := 31) dX12_chooses_29 (by decide) rfl rfl ?_
      have inn : ∀ (g q : Nat), q + g = k → Go mX12_chooses 3 0 0 31 [(0, .ref 189), (1, .ref c), (2, .int s), (3, .int (nI t)), (4, .int (nI m)), (5, .int (optI (-4) (wishP P m s q))), (6, .int (nI q))] [] (SK, M1, N) (fun r h' => ∃ M', h' = (SK, M', N) ∧ r = some (.int (chG P k l n).1) ∧ (∀ m, m < n → M' 200 m = optI (-4) ((chG P k l n).2 m)) ∧ (∀ j, j < n → M' 199 j = nI (l j)) ∧ ∀ a, a ≠ 199 → a ≠ 200 → M' a = M a) := by
        intro g
        induction g with
        | zero =>
          intro q hq
          refine g_iload (j := 6) (pc' := 33) dX12_chooses_31 rfl rfl ?_
          refine g_aload_n (j := 1) (pc' := 34) dX12_chooses_33 rfl rfl ?_
          refine g_iconst (v := 1) (pc' := 35) dX12_chooses_34 (by decide) rfl ?_
          refine g_iald (n := 1) (pc' := 36) dX12_chooses_35 hs rfl (by omega) rfl ?_
          refine g_top (y := nI k) ((hP1 1 (by omega)).trans hok.2.2.2.1) ?_
          refine g_icmp_ge (tgt := 101) (pc' := 39) dX12_chooses_36 (by decide) rfl (fun hc => ?_) (fun hc => (absurd (nI_le (a := k) (b := q) (by omega) (by omega)) hc))
          obtain rfl : q = k := by omega
          have hwl := @wishP_lt P m s q
          generalize wishP P m s q = o at hih hwl
          refine g_aload_n (j := 0) (pc' := 102) dX12_chooses_101 rfl rfl ?_
          refine g_getR (pc' := 105) dX12_chooses_102 fX12_41 rfl rfl rfl ?_
          refine g_iload (j := 4) (pc' := 107) dX12_chooses_105 rfl rfl ?_
          refine g_iload (j := 5) (pc' := 109) dX12_chooses_107 rfl rfl ?_
          refine g_iast (n := m) (pc' := 110) dX12_chooses_109 rfl rfl (by omega) rfl ?_
          generalize hM2 : (um M1 200 m (optI (-4) o)) = M2
          have hM2a : ∀ j, j < t + 1 → M2 200 (l j) = optI (-4) (if l j = m then o else ch (l j)) := fun j hj => by
            rw [← hM2]
            by_cases e : l j = m
            · rw [if_pos e, e]; exact um_at
            · rw [if_neg e, um_at2 e]
              exact h1 j (by rcases Nat.lt_or_eq_of_le (Nat.le_of_lt_succ hj) with a | a; exact a; exact absurd (by rw [a]; exact hm) e)
          have hh := hih M2 hM2a (fun a ha => by rw [← hM2, um_ne ha]; exact hf a ha)
          cases o with
          | none =>
            show Go mX12_chooses _ _ _ 110 [(0, .ref 189), (1, .ref c), (2, .int s), (3, .int (nI t)), (4, .int (nI m)), (5, .int (-4)), (6, .int (nI q))] [] (SK, M2, N) _
            refine g_iload_n (j := 2) (pc' := 111) dX12_chooses_110 rfl rfl ?_
            refine g_iload (j := 5) (pc' := 113) dX12_chooses_111 rfl rfl ?_
            refine g_bipush (v := (-4)) (pc' := 115) dX12_chooses_113 (by decide) rfl ?_
            refine g_icmp_ne (tgt := 122) (pc' := 118) dX12_chooses_115 (by decide) rfl (fun hc => (absurd rfl hc)) (fun hc => ?_)
            refine g_iconst (v := 0) (pc' := 119) dX12_chooses_118 (by decide) rfl ?_
            refine g_goto (tgt := 126) dX12_chooses_119 (by decide) ?_
            refine g_ior (pc' := 127) dX12_chooses_126 rfl ?_
            refine g_top (y := s) (Int32.or_zero) ?_
            refine g_istore_n (L' := [(0, .ref 189), (1, .ref c), (2, .int s), (3, .int (nI t)), (4, .int (nI m)), (5, .int (-4)), (6, .int (nI q))]) (pc' := 128) dX12_chooses_127 (by decide) rfl rfl ?_
            refine g_iinc (j := 3) (v := nI (t + 1)) (L' := [(0, .ref 189), (1, .ref c), (2, .int s), (3, .int (nI (t + 1))), (4, .int (nI m)), (5, .int (-4)), (6, .int (nI q))]) (pc' := 131) dX12_chooses_128 rfl (nI_1 t) (by decide) rfl rfl ?_
            refine g_goto (tgt := 9) dX12_chooses_131 (by decide) ?_
            refine g_less (L' := [(0, .ref 189), (1, .ref c), (2, .int s), (3, .int (nI (t + 1)))]) [0, 1, 2, 3] rfl ?_
            exact hh
          | some x =>
            show Go mX12_chooses _ _ _ 110 [(0, .ref 189), (1, .ref c), (2, .int s), (3, .int (nI t)), (4, .int (nI m)), (5, .int (nI x)), (6, .int (nI q))] [] (SK, M2, N) _
            have hx := hwl rfl
            refine g_iload_n (j := 2) (pc' := 111) dX12_chooses_110 rfl rfl ?_
            refine g_iload (j := 5) (pc' := 113) dX12_chooses_111 rfl rfl ?_
            refine g_bipush (v := (-4)) (pc' := 115) dX12_chooses_113 (by decide) rfl ?_
            refine g_icmp_ne (tgt := 122) (pc' := 118) dX12_chooses_115 (by decide) rfl (fun hc => ?_) (fun hc => (absurd hc (nI_ne_m4 (by omega))))
            refine g_iconst (v := 1) (pc' := 123) dX12_chooses_122 (by decide) rfl ?_
            refine g_iload (j := 5) (pc' := 125) dX12_chooses_123 rfl rfl ?_
            refine g_ishl (pc' := 126) dX12_chooses_125 rfl ?_
            refine g_ior (pc' := 127) dX12_chooses_126 rfl ?_
            refine g_istore_n (L' := [(0, .ref 189), (1, .ref c), (2, .int (s ||| (1 <<< ((nI x) &&& 31)))), (3, .int (nI t)), (4, .int (nI m)), (5, .int (nI x)), (6, .int (nI q))]) (pc' := 128) dX12_chooses_127 (by decide) rfl rfl ?_
            refine g_iinc (j := 3) (v := nI (t + 1)) (L' := [(0, .ref 189), (1, .ref c), (2, .int (s ||| (1 <<< ((nI x) &&& 31)))), (3, .int (nI (t + 1))), (4, .int (nI m)), (5, .int (nI x)), (6, .int (nI q))]) (pc' := 131) dX12_chooses_128 rfl (nI_1 t) (by decide) rfl rfl ?_
            refine g_goto (tgt := 9) dX12_chooses_131 (by decide) ?_
            refine g_less (L' := [(0, .ref 189), (1, .ref c), (2, .int (s ||| (1 <<< ((nI x) &&& 31)))), (3, .int (nI (t + 1)))]) [0, 1, 2, 3] rfl ?_
            exact hh
        | succ g ihg =>
          intro q hq
          refine g_iload (j := 6) (pc' := 33) dX12_chooses_31 rfl rfl ?_
          refine g_aload_n (j := 1) (pc' := 34) dX12_chooses_33 rfl rfl ?_
          refine g_iconst (v := 1) (pc' := 35) dX12_chooses_34 (by decide) rfl ?_
          refine g_iald (n := 1) (pc' := 36) dX12_chooses_35 hs rfl (by omega) rfl ?_
          refine g_top (y := nI k) ((hP1 1 (by omega)).trans hok.2.2.2.1) ?_
          refine g_icmp_ge (tgt := 101) (pc' := 39) dX12_chooses_36 (by decide) rfl (fun hc => (absurd hc (nI_ge (a := q) (b := k) (by omega) (by omega)))) (fun hc => ?_)
          have hnx := ihg (q + 1) (by omega)
          refine g_iload_n (j := 2) (pc' := 40) dX12_chooses_39 rfl rfl ?_
          refine g_iload (j := 6) (pc' := 42) dX12_chooses_40 rfl rfl ?_
          refine g_ishr (pc' := 43) dX12_chooses_42 rfl ?_
          refine g_iconst (v := 1) (pc' := 44) dX12_chooses_43 (by decide) rfl ?_
          refine g_iand (pc' := 45) dX12_chooses_44 rfl ?_
          refine g_if_ne (tgt := 78) (pc' := 48) dX12_chooses_45 (by decide) rfl (fun hc6 => ?_) (fun hc6 => ?_)
          · rw [show wishP P m s (q + 1) = wishP P m s q by rw [wishP, if_neg hc6]] at hnx
            refine g_iconst (v := 0) (pc' := 79) dX12_chooses_78 (by decide) rfl ?_
            refine g_istore (L' := [(0, .ref 189), (1, .ref c), (2, .int s), (3, .int (nI t)), (4, .int (nI m)), (5, .int (optI (-4) (wishP P m s q))), (6, .int (nI q)), (7, .int 0)]) (pc' := 81) dX12_chooses_79 (by decide) rfl rfl ?_
            refine g_iload (j := 7) (pc' := 83) dX12_chooses_81 rfl rfl ?_
            refine g_if_eq (tgt := 91) (pc' := 86) dX12_chooses_83 (by decide) rfl (fun _ => ?_) (fun hc => absurd rfl hc)
            refine g_iload (j := 5) (pc' := 93) dX12_chooses_91 rfl rfl ?_
            refine g_istore (L' := [(0, .ref 189), (1, .ref c), (2, .int s), (3, .int (nI t)), (4, .int (nI m)), (5, .int (optI (-4) (wishP P m s q))), (6, .int (nI q)), (7, .int 0)]) (pc' := 95) dX12_chooses_93 (by decide) rfl rfl ?_
            refine g_iinc (j := 6) (v := nI (q + 1)) (L' := [(0, .ref 189), (1, .ref c), (2, .int s), (3, .int (nI t)), (4, .int (nI m)), (5, .int (optI (-4) (wishP P m s q))), (6, .int (nI (q + 1))), (7, .int 0)]) (pc' := 98) dX12_chooses_95 rfl (nI_1 q) (by decide) rfl rfl ?_
            refine g_goto (tgt := 31) dX12_chooses_98 (by decide) ?_
            refine g_less (L' := [(0, .ref 189), (1, .ref c), (2, .int s), (3, .int (nI t)), (4, .int (nI m)), (5, .int (optI (-4) (wishP P m s q))), (6, .int (nI (q + 1)))]) [0, 1, 2, 3, 4, 5, 6] rfl ?_
            exact hnx
          · have hE : wishP P m s (q + 1) = (match wishP P m s q with | none => some q | some b => if valP P m b < valP P m q then some q else some b) := by rw [wishP, if_pos hc6]; cases wishP P m s q <;> rfl
            rw [hE] at hnx
            have hwl := @wishP_lt P m s q
            generalize wishP P m s q = o at hnx hwl
            cases o with
            | none =>
              show Go mX12_chooses _ _ _ 48 [(0, .ref 189), (1, .ref c), (2, .int s), (3, .int (nI t)), (4, .int (nI m)), (5, .int (-4)), (6, .int (nI q))] [] (SK, M1, N) _
              refine g_iload (j := 5) (pc' := 50) dX12_chooses_48 rfl rfl ?_
              refine g_bipush (v := (-4)) (pc' := 52) dX12_chooses_50 (by decide) rfl ?_
              refine g_icmp_eq (tgt := 74) (pc' := 55) dX12_chooses_52 (by decide) rfl (fun hc => ?_) (fun hc => (absurd rfl hc))
              refine g_iconst (v := 1) (pc' := 75) dX12_chooses_74 (by decide) rfl ?_
              refine g_goto (tgt := 79) dX12_chooses_75 (by decide) ?_
              refine g_istore (L' := [(0, .ref 189), (1, .ref c), (2, .int s), (3, .int (nI t)), (4, .int (nI m)), (5, .int (-4)), (6, .int (nI q)), (7, .int 1)]) (pc' := 81) dX12_chooses_79 (by decide) rfl rfl ?_
              refine g_iload (j := 7) (pc' := 83) dX12_chooses_81 rfl rfl ?_
              refine g_if_eq (tgt := 91) (pc' := 86) dX12_chooses_83 (by decide) rfl (fun hc => absurd hc (by decide)) (fun _ => ?_)
              refine g_iload (j := 6) (pc' := 88) dX12_chooses_86 rfl rfl ?_
              refine g_goto (tgt := 93) dX12_chooses_88 (by decide) ?_
              refine g_istore (L' := [(0, .ref 189), (1, .ref c), (2, .int s), (3, .int (nI t)), (4, .int (nI m)), (5, .int (nI q)), (6, .int (nI q)), (7, .int 1)]) (pc' := 95) dX12_chooses_93 (by decide) rfl rfl ?_
              refine g_iinc (j := 6) (v := nI (q + 1)) (L' := [(0, .ref 189), (1, .ref c), (2, .int s), (3, .int (nI t)), (4, .int (nI m)), (5, .int (nI q)), (6, .int (nI (q + 1))), (7, .int 1)]) (pc' := 98) dX12_chooses_95 rfl (nI_1 q) (by decide) rfl rfl ?_
              refine g_goto (tgt := 31) dX12_chooses_98 (by decide) ?_
              refine g_less (L' := [(0, .ref 189), (1, .ref c), (2, .int s), (3, .int (nI t)), (4, .int (nI m)), (5, .int (nI q)), (6, .int (nI (q + 1)))]) [0, 1, 2, 3, 4, 5, 6] rfl ?_
              exact hnx
            | some b =>
              show Go mX12_chooses _ _ _ 48 [(0, .ref 189), (1, .ref c), (2, .int s), (3, .int (nI t)), (4, .int (nI m)), (5, .int (nI b)), (6, .int (nI q))] [] (SK, M1, N) _
              dsimp only at hnx
              have hb := hwl rfl
              refine g_iload (j := 5) (pc' := 50) dX12_chooses_48 rfl rfl ?_
              refine g_bipush (v := (-4)) (pc' := 52) dX12_chooses_50 (by decide) rfl ?_
              refine g_icmp_eq (tgt := 74) (pc' := 55) dX12_chooses_52 (by decide) rfl (fun hc => (absurd hc (nI_ne_m4 (by omega)))) (fun hc => ?_)
              refine g_aload_n (j := 1) (pc' := 56) dX12_chooses_55 rfl rfl ?_
              refine g_iload (j := 4) (pc' := 58) dX12_chooses_56 rfl rfl ?_
              refine g_iload (j := 6) (pc' := 60) dX12_chooses_58 rfl rfl ?_
              refine g_callS (my := mX12_valueOf) (st := []) (av := [.ref c, .int (nI m), .int (nI q)]) (mcr := 0) (msr := 0) (mc := 0) (ms := 0) (pc' := 63) dX12_chooses_60 kX12_valueOf wX12_67 rfl (Nat.le_of_ble_eq_true rfl) (by decide) (r_valueOf hs hok hP1 hmt (show q < k by omega)) rfl ?_
              rintro _ _ ⟨rfl, rfl⟩
              show Go mX12_chooses _ _ _ 63 [(0, .ref 189), (1, .ref c), (2, .int s), (3, .int (nI t)), (4, .int (nI m)), (5, .int (nI b)), (6, .int (nI q))] [.int (valP P m q)] (SK, M1, N) _
              refine g_aload_n (j := 1) (pc' := 64) dX12_chooses_63 rfl rfl ?_
              refine g_iload (j := 4) (pc' := 66) dX12_chooses_64 rfl rfl ?_
              refine g_iload (j := 5) (pc' := 68) dX12_chooses_66 rfl rfl ?_
              refine g_callS (my := mX12_valueOf) (st := [.int (valP P m q)]) (av := [.ref c, .int (nI m), .int (nI b)]) (mcr := 0) (msr := 0) (mc := 0) (ms := 0) (pc' := 71) dX12_chooses_68 kX12_valueOf wX12_67 rfl (Nat.le_of_ble_eq_true rfl) (by decide) (r_valueOf hs hok hP1 hmt (show b < k by omega)) rfl ?_
              rintro _ _ ⟨rfl, rfl⟩
              show Go mX12_chooses _ _ _ 71 [(0, .ref 189), (1, .ref c), (2, .int s), (3, .int (nI t)), (4, .int (nI m)), (5, .int (nI b)), (6, .int (nI q))] [.int (valP P m b), .int (valP P m q)] (SK, M1, N) _
              refine g_icmp_le (tgt := 78) (pc' := 74) dX12_chooses_71 (by decide) rfl (fun hc7 => ?_) (fun hc7 => ?_)
              · rw [if_neg (Int32.not_lt.mpr hc7)] at hnx
                refine g_iconst (v := 0) (pc' := 79) dX12_chooses_78 (by decide) rfl ?_
                refine g_istore (L' := [(0, .ref 189), (1, .ref c), (2, .int s), (3, .int (nI t)), (4, .int (nI m)), (5, .int (nI b)), (6, .int (nI q)), (7, .int 0)]) (pc' := 81) dX12_chooses_79 (by decide) rfl rfl ?_
                refine g_iload (j := 7) (pc' := 83) dX12_chooses_81 rfl rfl ?_
                refine g_if_eq (tgt := 91) (pc' := 86) dX12_chooses_83 (by decide) rfl (fun _ => ?_) (fun hc => absurd rfl hc)
                refine g_iload (j := 5) (pc' := 93) dX12_chooses_91 rfl rfl ?_
                refine g_istore (L' := [(0, .ref 189), (1, .ref c), (2, .int s), (3, .int (nI t)), (4, .int (nI m)), (5, .int (nI b)), (6, .int (nI q)), (7, .int 0)]) (pc' := 95) dX12_chooses_93 (by decide) rfl rfl ?_
                refine g_iinc (j := 6) (v := nI (q + 1)) (L' := [(0, .ref 189), (1, .ref c), (2, .int s), (3, .int (nI t)), (4, .int (nI m)), (5, .int (nI b)), (6, .int (nI (q + 1))), (7, .int 0)]) (pc' := 98) dX12_chooses_95 rfl (nI_1 q) (by decide) rfl rfl ?_
                refine g_goto (tgt := 31) dX12_chooses_98 (by decide) ?_
                refine g_less (L' := [(0, .ref 189), (1, .ref c), (2, .int s), (3, .int (nI t)), (4, .int (nI m)), (5, .int (nI b)), (6, .int (nI (q + 1)))]) [0, 1, 2, 3, 4, 5, 6] rfl ?_
                exact hnx
              · rw [if_pos (Int32.not_le.mp hc7)] at hnx
                refine g_iconst (v := 1) (pc' := 75) dX12_chooses_74 (by decide) rfl ?_
                refine g_goto (tgt := 79) dX12_chooses_75 (by decide) ?_
                refine g_istore (L' := [(0, .ref 189), (1, .ref c), (2, .int s), (3, .int (nI t)), (4, .int (nI m)), (5, .int (nI b)), (6, .int (nI q)), (7, .int 1)]) (pc' := 81) dX12_chooses_79 (by decide) rfl rfl ?_
                refine g_iload (j := 7) (pc' := 83) dX12_chooses_81 rfl rfl ?_
                refine g_if_eq (tgt := 91) (pc' := 86) dX12_chooses_83 (by decide) rfl (fun hc => absurd hc (by decide)) (fun _ => ?_)
                refine g_iload (j := 6) (pc' := 88) dX12_chooses_86 rfl rfl ?_
                refine g_goto (tgt := 93) dX12_chooses_88 (by decide) ?_
                refine g_istore (L' := [(0, .ref 189), (1, .ref c), (2, .int s), (3, .int (nI t)), (4, .int (nI m)), (5, .int (nI q)), (6, .int (nI q)), (7, .int 1)]) (pc' := 95) dX12_chooses_93 (by decide) rfl rfl ?_
                refine g_iinc (j := 6) (v := nI (q + 1)) (L' := [(0, .ref 189), (1, .ref c), (2, .int s), (3, .int (nI t)), (4, .int (nI m)), (5, .int (nI q)), (6, .int (nI (q + 1))), (7, .int 1)]) (pc' := 98) dX12_chooses_95 rfl (nI_1 q) (by decide) rfl rfl ?_
                refine g_goto (tgt := 31) dX12_chooses_98 (by decide) ?_
                refine g_less (L' := [(0, .ref 189), (1, .ref c), (2, .int s), (3, .int (nI t)), (4, .int (nI m)), (5, .int (nI q)), (6, .int (nI (q + 1)))]) [0, 1, 2, 3, 4, 5, 6] rfl ?_
                exact hnx
      exact inn k 0 (by omega)
  exact loop n 0 M0 (by omega) (fun j hj => absurd hj (by omega)) (fun _ _ => rfl)
