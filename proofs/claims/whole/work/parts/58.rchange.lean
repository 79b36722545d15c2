theorem rowL_0 (f : Nat → Nat → Bool) (i : Nat) : rowL f i (i + 1) = [] := List.length_eq_zero_iff.mp (by have := rowL_le f i (i + 1); omega)
theorem rowL_y {f : Nat → Nat → Bool} {i j : Nat} (h : i < j) (h1 : f i j = true) (h2 : f j i = true) : rowL f i (j + 1) = rowL f i j ++ [(i, j)] := by
  conv => lhs; unfold rowL
  rw [if_pos ⟨h, h1, h2⟩]
theorem rowL_n {f : Nat → Nat → Bool} {i j : Nat} (h : ¬ (f i j = true ∧ f j i = true)) : rowL f i (j + 1) = rowL f i j := by
  conv => lhs; unfold rowL
  rw [if_neg (fun q => h q.2)]
theorem chgV_new {l : List (Nat × Nat)} {q : Nat × Nat} : chgV (l ++ [q]) l.length = 10 * nI q.1 + nI q.2 := by
  unfold chgV
  rw [List.getElem?_append_right (Nat.le_refl _), Nat.sub_self]
  rfl
theorem chgV_old {l : List (Nat × Nat)} {q : Nat × Nat} {c : Nat} (h : c ≠ l.length) : chgV (l ++ [q]) c = chgV l c := by
  unfold chgV
  rcases Nat.lt_or_gt_of_ne h with h1 | h1
  · rw [List.getElem?_append_left h1]
  · rw [List.getElem?_eq_none (by rw [List.length_append, List.length_singleton]; omega), List.getElem?_eq_none (by omega)]
theorem wch_of {n k : Nat} {P : Nat → Int32} (h : OkP n k P) {i j : Nat} (hi : i < n) (hj : j < n) : ((P (28 + i) = -4 ∨ P (28 + j) = -4) ∧ wchP P i j = false) ∨ ∃ a b, a < k ∧ b < k ∧ P (28 + i) = nI a ∧ P (28 + j) = nI b ∧ wchP P i j = decide (valP P i a < valP P i b) ∧ wchP P j i = decide (valP P j b < valP P j a) := by
  rcases clP_of h hi with ⟨e1, e2, -⟩ | ⟨a, ha, e1, e2, -⟩
  · exact Or.inl ⟨Or.inl e1, by unfold wchP; rw [e2]⟩
  · rcases clP_of h hj with ⟨f1, f2, -⟩ | ⟨b, hb, f1, f2, -⟩
    · exact Or.inl ⟨Or.inr f1, by unfold wchP; rw [e2, f2]⟩
    · exact Or.inr ⟨a, b, ha, hb, e1, f1, by unfold wchP; rw [e2, f2], by unfold wchP; rw [e2, f2]⟩
set_option maxRecDepth 100000 in
set_option maxHeartbeats 1000000 in
theorem r_change_b {M : Nat → Nat → Int32} {N : Nat → Nat → Int64} {n k : Nat} {P : Nat → Int32} {pa : List (Nat → Int32)} {kp : Option YS} {tp : List Int32} {sh : Nat → Option (Nat × Nat × (Nat → Int64))} (hA : AOk ((n, k, P, pa), kp, tp, sh)) (hI : RI M N ((n, k, P, pa), kp, tp, sh)) {v : Int32} (h1 : v < -1) : Run mX12_change 30 0 0 [.ref 189, .int v] (SK, M, N) (RQ M N (-1) ((n, k, P, pa), kp, tp, sh)) := by
  refine Run.of (by decide) (Nat.le_of_ble_eq_true rfl) ?_
  have hok : OkP n k P := hA.1.1.1
  have hP : ∀ j, j < 47 → M 190 j = P j := hI.1.1
  have hn6 := hok.1
  have hk6 := hok.2.1
  have hn : M 190 0 = nI n := (hP 0 (by omega)).trans hok.2.2.1
  have hk : M 190 1 = nI k := (hP 1 (by omega)).trans hok.2.2.2.1
  refine g_iload_n (j := 1) (pc' := 1) dX12_change_0 rfl rfl ?_
  refine g_iconst (v := (-1)) (pc' := 2) dX12_change_1 (by decide) rfl ?_
  refine g_icmp_ge (tgt := 7) (pc' := 5) dX12_change_2 (by decide) rfl (fun hc => (absurd h1 (Int32.not_lt.mpr hc))) (fun hc => ?_)
  refine g_iconst (v := (-1)) (pc' := 6) dX12_change_5 (by decide) rfl ?_
  exact g_iret dX12_change_6 rfl rfl (RQ.same hI)
set_option maxRecDepth 100000 in
set_option maxHeartbeats 1000000 in
theorem r_change_n {M : Nat → Nat → Int32} {N : Nat → Nat → Int64} {n k : Nat} {P : Nat → Int32} {pa : List (Nat → Int32)} {kp : Option YS} {tp : List Int32} {sh : Nat → Option (Nat × Nat × (Nat → Int64))} (hA : AOk ((n, k, P, pa), kp, tp, sh)) (hI : RI M N ((n, k, P, pa), kp, tp, sh))  : Run mX12_change 30 0 0 [.ref 189, .int (-1)] (SK, M, N) (RQ M N (nI (chgL P n).length) ((n, k, P, pa), kp, tp, sh)) := by
  refine Run.of (by decide) (Nat.le_of_ble_eq_true rfl) ?_
  have hok : OkP n k P := hA.1.1.1
  have hP : ∀ j, j < 47 → M 190 j = P j := hI.1.1
  have hn6 := hok.1
  have hk6 := hok.2.1
  have hn : M 190 0 = nI n := (hP 0 (by omega)).trans hok.2.2.1
  have hk : M 190 1 = nI k := (hP 1 (by omega)).trans hok.2.2.2.1
  refine g_iload_n (j := 1) (pc' := 1) dX12_change_0 rfl rfl ?_
  refine g_iconst (v := (-1)) (pc' := 2) dX12_change_1 (by decide) rfl ?_
  refine g_icmp_ge (tgt := 7) (pc' := 5) dX12_change_2 (by decide) rfl (fun hc => ?_) (fun hc => (absurd (by decide) hc))
  refine g_iconst (v := 0) (pc' := 8) dX12_change_7 (by decide) rfl ?_
  refine g_istore_n (L' := [(0, .ref 189), (1, .int (-1)), (2, .int 0)]) (pc' := 9) dX12_change_8 (by decide) rfl rfl ?_
  refine g_bipush (v := (-4)) (pc' := 11) dX12_change_9 (by decide) rfl ?_
  refine g_istore_n (L' := [(0, .ref 189), (1, .int (-1)), (2, .int 0), (3, .int (-4))]) (pc' := 12) dX12_change_11 (by decide) rfl rfl ?_
  refine g_iconst (v := 0) (pc' := 13) dX12_change_12 (by decide) rfl ?_
  refine g_istore (L' := [(0, .ref 189), (1, .int (-1)), (2, .int 0), (3, .int (-4)), (4, .int 0)]) (pc' := 15) dX12_change_13 (by decide) rfl rfl ?_
  unfold chgL
  have loop : ∀ (u i : Nat), i + u = n → Go mX12_change 30 0 0 15 [(0, .ref 189), (1, .int (-1)), (2, .int (nI ((allL (wchP P) n i).length))), (3, .int (-4)), (4, .int (nI i))] [] (SK, M, N) (RQ M N (nI (allL (wchP P) n n).length) ((n, k, P, pa), kp, tp, sh)) := by
    intro u
    induction u with
    | zero =>
      intro i hi
      refine g_iload (j := 4) (pc' := 17) dX12_change_15 rfl rfl ?_
      refine g_aload_n (j := 0) (pc' := 18) dX12_change_17 rfl rfl ?_
      refine g_getR (pc' := 21) dX12_change_18 fX12_7 rfl rfl rfl ?_
      refine g_iconst (v := 0) (pc' := 22) dX12_change_21 (by decide) rfl ?_
      refine g_iald (n := 0) (pc' := 23) dX12_change_22 rfl rfl (by omega) rfl ?_
      refine g_top (y := nI n) (hn) ?_
      refine g_icmp_ge (tgt := 186) (pc' := 26) dX12_change_23 (by decide) rfl (fun hc => ?_) (fun hc => (absurd (nI_le (a := n) (b := i) (by omega) (by omega)) hc))
      obtain rfl : i = n := by omega
      refine g_iload_n (j := 1) (pc' := 187) dX12_change_186 rfl rfl ?_
      refine g_iconst (v := (-1)) (pc' := 188) dX12_change_187 (by decide) rfl ?_
      refine g_icmp_ne (tgt := 195) (pc' := 191) dX12_change_188 (by decide) rfl (fun hc => (absurd rfl hc)) (fun hc => ?_)
      refine g_iload_n (j := 2) (pc' := 192) dX12_change_191 rfl rfl ?_
      refine g_goto (tgt := 196) dX12_change_192 (by decide) ?_
      exact g_iret dX12_change_196 rfl rfl (RQ.same hI)
    | succ u ih =>
      intro i hi
      refine g_iload (j := 4) (pc' := 17) dX12_change_15 rfl rfl ?_
      refine g_aload_n (j := 0) (pc' := 18) dX12_change_17 rfl rfl ?_
      refine g_getR (pc' := 21) dX12_change_18 fX12_7 rfl rfl rfl ?_
      refine g_iconst (v := 0) (pc' := 22) dX12_change_21 (by decide) rfl ?_
      refine g_iald (n := 0) (pc' := 23) dX12_change_22 rfl rfl (by omega) rfl ?_
      refine g_top (y := nI n) (hn) ?_
      refine g_icmp_ge (tgt := 186) (pc' := 26) dX12_change_23 (by decide) rfl (fun hc => (absurd hc (nI_ge (a := i) (b := n) (by omega) (by omega)))) (fun hc => ?_)
      have h9 := ih (i + 1) (by omega)
      have inner : ∀ (u2 j : Nat), j + u2 = n → i < j → Go mX12_change 30 0 0 32 [(0, .ref 189), (1, .int (-1)), (2, .int (nI ((allL (wchP P) n i ++ rowL (wchP P) i j).length))), (3, .int (-4)), (4, .int (nI i)), (5, .int (nI j))] [] (SK, M, N) (RQ M N (nI (allL (wchP P) n n).length) ((n, k, P, pa), kp, tp, sh)) := by
        intro u2
        induction u2 with
        | zero =>
          intro j hj hij
          refine g_iload (j := 5) (pc' := 34) dX12_change_32 rfl rfl ?_
          refine g_aload_n (j := 0) (pc' := 35) dX12_change_34 rfl rfl ?_
          refine g_getR (pc' := 38) dX12_change_35 fX12_7 rfl rfl rfl ?_
          refine g_iconst (v := 0) (pc' := 39) dX12_change_38 (by decide) rfl ?_
          refine g_iald (n := 0) (pc' := 40) dX12_change_39 rfl rfl (by omega) rfl ?_
          refine g_top (y := nI n) (hn) ?_
          refine g_icmp_ge (tgt := 180) (pc' := 43) dX12_change_40 (by decide) rfl (fun hc => ?_) (fun hc => (absurd (nI_le (a := n) (b := j) (by omega) (by omega)) hc))
          obtain rfl : n = j := by omega
          refine g_iinc (j := 4) (v := nI (i + 1)) (L' := [(0, .ref 189), (1, .int (-1)), (2, .int (nI ((allL (wchP P) n i ++ rowL (wchP P) i n).length))), (3, .int (-4)), (4, .int (nI (i + 1))), (5, .int (nI n))]) (pc' := 183) dX12_change_180 rfl (nI_1 i) (by decide) rfl rfl ?_
          refine g_less (L' := [(0, .ref 189), (1, .int (-1)), (2, .int (nI ((allL (wchP P) n i ++ rowL (wchP P) i n).length))), (3, .int (-4)), (4, .int (nI (i + 1)))]) [0, 1, 2, 3, 4] rfl ?_
          refine g_goto (tgt := 15) dX12_change_183 (by decide) ?_
          exact h9
        | succ u2 ih2 =>
          intro j hj hij
          refine g_iload (j := 5) (pc' := 34) dX12_change_32 rfl rfl ?_
          refine g_aload_n (j := 0) (pc' := 35) dX12_change_34 rfl rfl ?_
          refine g_getR (pc' := 38) dX12_change_35 fX12_7 rfl rfl rfl ?_
          refine g_iconst (v := 0) (pc' := 39) dX12_change_38 (by decide) rfl ?_
          refine g_iald (n := 0) (pc' := 40) dX12_change_39 rfl rfl (by omega) rfl ?_
          refine g_top (y := nI n) (hn) ?_
          refine g_icmp_ge (tgt := 180) (pc' := 43) dX12_change_40 (by decide) rfl (fun hc => (absurd hc (nI_ge (a := j) (b := n) (by omega) (by omega)))) (fun hc => ?_)
          have hn2 := ih2 (j + 1) (by omega) (by omega)
          have hlen : (allL (wchP P) n i ++ rowL (wchP P) i j).length < 1000 := by
            have q1 := allL_le (wchP P) n i
            have q2 := rowL_le (wchP P) i j
            have q3 : i * n ≤ 6 * 6 := Nat.mul_le_mul (by omega) (by omega)
            rw [List.length_append]
            omega
          refine g_aload_n (j := 0) (pc' := 44) dX12_change_43 rfl rfl ?_
          refine g_getR (pc' := 47) dX12_change_44 fX12_7 rfl rfl rfl ?_
          refine g_bipush (v := 28) (pc' := 49) dX12_change_47 (by decide) rfl ?_
          refine g_iload (j := 4) (pc' := 51) dX12_change_49 rfl rfl ?_
          refine g_iadd (pc' := 52) dX12_change_51 rfl ?_
          refine g_iald (n := 28 + i) (pc' := 53) dX12_change_52 rfl (nI_addE rfl rfl) (by omega) rfl ?_
          refine g_top (y := P (28 + i)) (hP _ (by omega)) ?_
          refine g_istore (L' := [(0, .ref 189), (1, .int (-1)), (2, .int (nI ((allL (wchP P) n i ++ rowL (wchP P) i j).length))), (3, .int (-4)), (4, .int (nI i)), (5, .int (nI j)), (6, .int (P (28 + i)))]) (pc' := 55) dX12_change_53 (by decide) rfl rfl ?_
          refine g_aload_n (j := 0) (pc' := 56) dX12_change_55 rfl rfl ?_
          refine g_getR (pc' := 59) dX12_change_56 fX12_7 rfl rfl rfl ?_
          refine g_bipush (v := 28) (pc' := 61) dX12_change_59 (by decide) rfl ?_
          refine g_iload (j := 5) (pc' := 63) dX12_change_61 rfl rfl ?_
          refine g_iadd (pc' := 64) dX12_change_63 rfl ?_
          refine g_iald (n := 28 + j) (pc' := 65) dX12_change_64 rfl (nI_addE rfl rfl) (by omega) rfl ?_
          refine g_top (y := P (28 + j)) (hP _ (by omega)) ?_
          refine g_istore (L' := [(0, .ref 189), (1, .int (-1)), (2, .int (nI ((allL (wchP P) n i ++ rowL (wchP P) i j).length))), (3, .int (-4)), (4, .int (nI i)), (5, .int (nI j)), (6, .int (P (28 + i))), (7, .int (P (28 + j)))]) (pc' := 67) dX12_change_65 (by decide) rfl rfl ?_
          have t0 : ¬ (wchP P i j = true ∧ wchP P j i = true) → Go mX12_change 30 0 0 138 [(0, .ref 189), (1, .int (-1)), (2, .int (nI ((allL (wchP P) n i ++ rowL (wchP P) i j).length))), (3, .int (-4)), (4, .int (nI i)), (5, .int (nI j)), (8, .int 0)] [] (SK, M, N) (RQ M N (nI (allL (wchP P) n n).length) ((n, k, P, pa), kp, tp, sh)) := by
            intro hw
            rw [rowL_n hw] at hn2
            refine g_iload (j := 6) (pc' := 140) dX12_change_138 rfl rfl ?_
            refine g_if_eq (tgt := 159) (pc' := 143) dX12_change_140 (by decide) rfl (fun _ => ?_) (fun hc => absurd rfl hc)
            refine g_iload_n (j := 3) (pc' := 160) dX12_change_159 rfl rfl ?_
            refine g_istore_n (L' := [(0, .ref 189), (1, .int (-1)), (2, .int (nI ((allL (wchP P) n i ++ rowL (wchP P) i j).length))), (3, .int (-4)), (4, .int (nI i)), (5, .int (nI j)), (8, .int 0)]) (pc' := 161) dX12_change_160 (by decide) rfl rfl ?_
            refine g_iload_n (j := 2) (pc' := 162) dX12_change_161 rfl rfl ?_
            refine g_iload (j := 6) (pc' := 164) dX12_change_162 rfl rfl ?_
            refine g_if_eq (tgt := 171) (pc' := 167) dX12_change_164 (by decide) rfl (fun _ => ?_) (fun hc => absurd rfl hc)
            refine g_iconst (v := 0) (pc' := 172) dX12_change_171 (by decide) rfl ?_
            refine g_iadd (pc' := 173) dX12_change_172 rfl ?_
            refine g_top (y := nI ((allL (wchP P) n i ++ rowL (wchP P) i j).length)) (Int32.add_zero _) ?_
            refine g_istore_n (L' := [(0, .ref 189), (1, .int (-1)), (2, .int (nI ((allL (wchP P) n i ++ rowL (wchP P) i j).length))), (3, .int (-4)), (4, .int (nI i)), (5, .int (nI j)), (8, .int 0)]) (pc' := 174) dX12_change_173 (by decide) rfl rfl ?_
            refine g_less (L' := [(0, .ref 189), (1, .int (-1)), (2, .int (nI ((allL (wchP P) n i ++ rowL (wchP P) i j).length))), (3, .int (-4)), (4, .int (nI i)), (5, .int (nI j))]) [0, 1, 2, 3, 4, 5] rfl ?_
            refine g_iinc (j := 5) (v := nI (j + 1)) (L' := [(0, .ref 189), (1, .int (-1)), (2, .int (nI ((allL (wchP P) n i ++ rowL (wchP P) i j).length))), (3, .int (-4)), (4, .int (nI i)), (5, .int (nI (j + 1)))]) (pc' := 177) dX12_change_174 rfl (nI_1 j) (by decide) rfl rfl ?_
            refine g_goto (tgt := 32) dX12_change_177 (by decide) ?_
            exact hn2
          have t1 : wchP P i j = true ∧ wchP P j i = true → Go mX12_change 30 0 0 138 [(0, .ref 189), (1, .int (-1)), (2, .int (nI ((allL (wchP P) n i ++ rowL (wchP P) i j).length))), (3, .int (-4)), (4, .int (nI i)), (5, .int (nI j)), (8, .int 1)] [] (SK, M, N) (RQ M N (nI (allL (wchP P) n n).length) ((n, k, P, pa), kp, tp, sh)) := by
            intro hw
            rw [rowL_y hij hw.1 hw.2, ← List.append_assoc] at hn2
            generalize (allL (wchP P) n i ++ rowL (wchP P) i j) = l at hn2 hlen ⊢
            rw [List.length_append, List.length_singleton] at hn2
            refine g_iload (j := 6) (pc' := 140) dX12_change_138 rfl rfl ?_
            refine g_if_eq (tgt := 159) (pc' := 143) dX12_change_140 (by decide) rfl (fun hc => absurd hc (by decide)) (fun _ => ?_)
            refine g_iload_n (j := 2) (pc' := 144) dX12_change_143 rfl rfl ?_
            refine g_iload_n (j := 1) (pc' := 145) dX12_change_144 rfl rfl ?_
            refine g_icmp_ne (tgt := 159) (pc' := 148) dX12_change_145 (by decide) rfl (fun hc => ?_) (fun hc => (absurd hc (nI_m1 (by omega))))
            refine g_iload_n (j := 3) (pc' := 160) dX12_change_159 rfl rfl ?_
            refine g_istore_n (L' := [(0, .ref 189), (1, .int (-1)), (2, .int (nI l.length)), (3, .int (-4)), (4, .int (nI i)), (5, .int (nI j)), (8, .int 1)]) (pc' := 161) dX12_change_160 (by decide) rfl rfl ?_
            refine g_iload_n (j := 2) (pc' := 162) dX12_change_161 rfl rfl ?_
            refine g_iload (j := 6) (pc' := 164) dX12_change_162 rfl rfl ?_
            refine g_if_eq (tgt := 171) (pc' := 167) dX12_change_164 (by decide) rfl (fun hc => absurd hc (by decide)) (fun _ => ?_)
            refine g_iconst (v := 1) (pc' := 168) dX12_change_167 (by decide) rfl ?_
            refine g_goto (tgt := 172) dX12_change_168 (by decide) ?_
            refine g_iadd (pc' := 173) dX12_change_172 rfl ?_
            refine g_top (y := nI (l.length + 1)) (nI_1 _) ?_
            refine g_istore_n (L' := [(0, .ref 189), (1, .int (-1)), (2, .int (nI (l.length + 1))), (3, .int (-4)), (4, .int (nI i)), (5, .int (nI j)), (8, .int 1)]) (pc' := 174) dX12_change_173 (by decide) rfl rfl ?_
            refine g_less (L' := [(0, .ref 189), (1, .int (-1)), (2, .int (nI (l.length + 1))), (3, .int (-4)), (4, .int (nI i)), (5, .int (nI j))]) [0, 1, 2, 3, 4, 5] rfl ?_
            refine g_iinc (j := 5) (v := nI (j + 1)) (L' := [(0, .ref 189), (1, .int (-1)), (2, .int (nI (l.length + 1))), (3, .int (-4)), (4, .int (nI i)), (5, .int (nI (j + 1)))]) (pc' := 177) dX12_change_174 rfl (nI_1 j) (by decide) rfl rfl ?_
            refine g_goto (tgt := 32) dX12_change_177 (by decide) ?_
            exact hn2
          rcases wch_of hok (i := i) (j := j) (by omega) (by omega) with ⟨hz, hw⟩ | ⟨a, b, ha, hb, ea, eb, hw1, hw2⟩
          · refine g_iload (j := 6) (pc' := 69) dX12_change_67 rfl rfl ?_
            refine g_bipush (v := (-4)) (pc' := 71) dX12_change_69 (by decide) rfl ?_
            refine g_icmp_eq (tgt := 135) (pc' := 74) dX12_change_71 (by decide) rfl (fun hc7 => ?_) (fun hc7 => ?_)
            · refine g_iconst (v := 0) (pc' := 136) dX12_change_135 (by decide) rfl ?_
              refine g_istore (L' := [(0, .ref 189), (1, .int (-1)), (2, .int (nI ((allL (wchP P) n i ++ rowL (wchP P) i j).length))), (3, .int (-4)), (4, .int (nI i)), (5, .int (nI j)), (6, .int (P (28 + i))), (7, .int (P (28 + j))), (8, .int 0)]) (pc' := 138) dX12_change_136 (by decide) rfl rfl ?_
              refine g_less (L' := [(0, .ref 189), (1, .int (-1)), (2, .int (nI ((allL (wchP P) n i ++ rowL (wchP P) i j).length))), (3, .int (-4)), (4, .int (nI i)), (5, .int (nI j)), (8, .int 0)]) [0, 1, 2, 3, 4, 5, 8] rfl ?_
              exact t0 (fun q => absurd q.1 (by rw [hw]; decide))
            · refine g_iload (j := 7) (pc' := 76) dX12_change_74 rfl rfl ?_
              refine g_bipush (v := (-4)) (pc' := 78) dX12_change_76 (by decide) rfl ?_
              refine g_icmp_eq (tgt := 135) (pc' := 81) dX12_change_78 (by decide) rfl (fun hc => ?_) (fun hc => (absurd (hz.resolve_left hc7) hc))
              refine g_iconst (v := 0) (pc' := 136) dX12_change_135 (by decide) rfl ?_
              refine g_istore (L' := [(0, .ref 189), (1, .int (-1)), (2, .int (nI ((allL (wchP P) n i ++ rowL (wchP P) i j).length))), (3, .int (-4)), (4, .int (nI i)), (5, .int (nI j)), (6, .int (P (28 + i))), (7, .int (P (28 + j))), (8, .int 0)]) (pc' := 138) dX12_change_136 (by decide) rfl rfl ?_
              refine g_less (L' := [(0, .ref 189), (1, .int (-1)), (2, .int (nI ((allL (wchP P) n i ++ rowL (wchP P) i j).length))), (3, .int (-4)), (4, .int (nI i)), (5, .int (nI j)), (8, .int 0)]) [0, 1, 2, 3, 4, 5, 8] rfl ?_
              exact t0 (fun q => absurd q.1 (by rw [hw]; decide))
          · rw [ea, eb]
            refine g_iload (j := 6) (pc' := 69) dX12_change_67 rfl rfl ?_
            refine g_bipush (v := (-4)) (pc' := 71) dX12_change_69 (by decide) rfl ?_
            refine g_icmp_eq (tgt := 135) (pc' := 74) dX12_change_71 (by decide) rfl (fun hc => (absurd hc (nI_ne_m4 (by omega)))) (fun hc => ?_)
            refine g_iload (j := 7) (pc' := 76) dX12_change_74 rfl rfl ?_
            refine g_bipush (v := (-4)) (pc' := 78) dX12_change_76 (by decide) rfl ?_
            refine g_icmp_eq (tgt := 135) (pc' := 81) dX12_change_78 (by decide) rfl (fun hc => (absurd hc (nI_ne_m4 (by omega)))) (fun hc => ?_)
            refine g_aload_n (j := 0) (pc' := 82) dX12_change_81 rfl rfl ?_
            refine g_getR (pc' := 85) dX12_change_82 fX12_7 rfl rfl rfl ?_
            refine g_iload (j := 4) (pc' := 87) dX12_change_85 rfl rfl ?_
            refine g_iload (j := 7) (pc' := 89) dX12_change_87 rfl rfl ?_
            refine g_callS (my := mX12_valueOf) (st := []) (av := [.ref 190, .int (nI i), .int (nI b)]) (mcr := 0) (msr := 0) (mc := 0) (ms := 0) (pc' := 92) dX12_change_89 kX12_valueOf wX12_67 rfl (Nat.le_of_ble_eq_true rfl) (by decide) (r_valueOf (c := 190) rfl hok hP (m := i) (i := b) (by omega) hb) rfl ?_
            rintro _ _ ⟨rfl, rfl⟩
            show Go mX12_change _ _ _ 92 [(0, .ref 189), (1, .int (-1)), (2, .int (nI ((allL (wchP P) n i ++ rowL (wchP P) i j).length))), (3, .int (-4)), (4, .int (nI i)), (5, .int (nI j)), (6, .int (nI a)), (7, .int (nI b))] [.int (valP P i b)] (SK, M, N) _
            refine g_aload_n (j := 0) (pc' := 93) dX12_change_92 rfl rfl ?_
            refine g_getR (pc' := 96) dX12_change_93 fX12_7 rfl rfl rfl ?_
            refine g_iload (j := 4) (pc' := 98) dX12_change_96 rfl rfl ?_
            refine g_iload (j := 6) (pc' := 100) dX12_change_98 rfl rfl ?_
            refine g_callS (my := mX12_valueOf) (st := [.int (valP P i b)]) (av := [.ref 190, .int (nI i), .int (nI a)]) (mcr := 0) (msr := 0) (mc := 0) (ms := 0) (pc' := 103) dX12_change_100 kX12_valueOf wX12_67 rfl (Nat.le_of_ble_eq_true rfl) (by decide) (r_valueOf (c := 190) rfl hok hP (m := i) (i := a) (by omega) ha) rfl ?_
            rintro _ _ ⟨rfl, rfl⟩
            show Go mX12_change _ _ _ 103 [(0, .ref 189), (1, .int (-1)), (2, .int (nI ((allL (wchP P) n i ++ rowL (wchP P) i j).length))), (3, .int (-4)), (4, .int (nI i)), (5, .int (nI j)), (6, .int (nI a)), (7, .int (nI b))] [.int (valP P i a), .int (valP P i b)] (SK, M, N) _
            refine g_icmp_le (tgt := 135) (pc' := 106) dX12_change_103 (by decide) rfl (fun hc7 => ?_) (fun hc7 => ?_)
            · refine g_iconst (v := 0) (pc' := 136) dX12_change_135 (by decide) rfl ?_
              refine g_istore (L' := [(0, .ref 189), (1, .int (-1)), (2, .int (nI ((allL (wchP P) n i ++ rowL (wchP P) i j).length))), (3, .int (-4)), (4, .int (nI i)), (5, .int (nI j)), (6, .int (nI a)), (7, .int (nI b)), (8, .int 0)]) (pc' := 138) dX12_change_136 (by decide) rfl rfl ?_
              refine g_less (L' := [(0, .ref 189), (1, .int (-1)), (2, .int (nI ((allL (wchP P) n i ++ rowL (wchP P) i j).length))), (3, .int (-4)), (4, .int (nI i)), (5, .int (nI j)), (8, .int 0)]) [0, 1, 2, 3, 4, 5, 8] rfl ?_
              exact t0 (fun q => absurd (of_decide_eq_true (hw1.symm.trans q.1)) (Int32.not_lt.mpr hc7))
            · refine g_aload_n (j := 0) (pc' := 107) dX12_change_106 rfl rfl ?_
              refine g_getR (pc' := 110) dX12_change_107 fX12_7 rfl rfl rfl ?_
              refine g_iload (j := 5) (pc' := 112) dX12_change_110 rfl rfl ?_
              refine g_iload (j := 6) (pc' := 114) dX12_change_112 rfl rfl ?_
              refine g_callS (my := mX12_valueOf) (st := []) (av := [.ref 190, .int (nI j), .int (nI a)]) (mcr := 0) (msr := 0) (mc := 0) (ms := 0) (pc' := 117) dX12_change_114 kX12_valueOf wX12_67 rfl (Nat.le_of_ble_eq_true rfl) (by decide) (r_valueOf (c := 190) rfl hok hP (m := j) (i := a) (by omega) ha) rfl ?_
              rintro _ _ ⟨rfl, rfl⟩
              show Go mX12_change _ _ _ 117 [(0, .ref 189), (1, .int (-1)), (2, .int (nI ((allL (wchP P) n i ++ rowL (wchP P) i j).length))), (3, .int (-4)), (4, .int (nI i)), (5, .int (nI j)), (6, .int (nI a)), (7, .int (nI b))] [.int (valP P j a)] (SK, M, N) _
              refine g_aload_n (j := 0) (pc' := 118) dX12_change_117 rfl rfl ?_
              refine g_getR (pc' := 121) dX12_change_118 fX12_7 rfl rfl rfl ?_
              refine g_iload (j := 5) (pc' := 123) dX12_change_121 rfl rfl ?_
              refine g_iload (j := 7) (pc' := 125) dX12_change_123 rfl rfl ?_
              refine g_callS (my := mX12_valueOf) (st := [.int (valP P j a)]) (av := [.ref 190, .int (nI j), .int (nI b)]) (mcr := 0) (msr := 0) (mc := 0) (ms := 0) (pc' := 128) dX12_change_125 kX12_valueOf wX12_67 rfl (Nat.le_of_ble_eq_true rfl) (by decide) (r_valueOf (c := 190) rfl hok hP (m := j) (i := b) (by omega) hb) rfl ?_
              rintro _ _ ⟨rfl, rfl⟩
              show Go mX12_change _ _ _ 128 [(0, .ref 189), (1, .int (-1)), (2, .int (nI ((allL (wchP P) n i ++ rowL (wchP P) i j).length))), (3, .int (-4)), (4, .int (nI i)), (5, .int (nI j)), (6, .int (nI a)), (7, .int (nI b))] [.int (valP P j b), .int (valP P j a)] (SK, M, N) _
              refine g_icmp_le (tgt := 135) (pc' := 131) dX12_change_128 (by decide) rfl (fun hc8 => ?_) (fun hc8 => ?_)
              · refine g_iconst (v := 0) (pc' := 136) dX12_change_135 (by decide) rfl ?_
                refine g_istore (L' := [(0, .ref 189), (1, .int (-1)), (2, .int (nI ((allL (wchP P) n i ++ rowL (wchP P) i j).length))), (3, .int (-4)), (4, .int (nI i)), (5, .int (nI j)), (6, .int (nI a)), (7, .int (nI b)), (8, .int 0)]) (pc' := 138) dX12_change_136 (by decide) rfl rfl ?_
                refine g_less (L' := [(0, .ref 189), (1, .int (-1)), (2, .int (nI ((allL (wchP P) n i ++ rowL (wchP P) i j).length))), (3, .int (-4)), (4, .int (nI i)), (5, .int (nI j)), (8, .int 0)]) [0, 1, 2, 3, 4, 5, 8] rfl ?_
                exact t0 (fun q => absurd (of_decide_eq_true (hw2.symm.trans q.2)) (Int32.not_lt.mpr hc8))
              · refine g_iconst (v := 1) (pc' := 132) dX12_change_131 (by decide) rfl ?_
                refine g_goto (tgt := 136) dX12_change_132 (by decide) ?_
                refine g_istore (L' := [(0, .ref 189), (1, .int (-1)), (2, .int (nI ((allL (wchP P) n i ++ rowL (wchP P) i j).length))), (3, .int (-4)), (4, .int (nI i)), (5, .int (nI j)), (6, .int (nI a)), (7, .int (nI b)), (8, .int 1)]) (pc' := 138) dX12_change_136 (by decide) rfl rfl ?_
                refine g_less (L' := [(0, .ref 189), (1, .int (-1)), (2, .int (nI ((allL (wchP P) n i ++ rowL (wchP P) i j).length))), (3, .int (-4)), (4, .int (nI i)), (5, .int (nI j)), (8, .int 1)]) [0, 1, 2, 3, 4, 5, 8] rfl ?_
                exact t1 ⟨hw1.trans (decide_eq_true (Int32.not_le.mp hc7)), hw2.trans (decide_eq_true (Int32.not_le.mp hc8))⟩
      have hs := inner (n - (i + 1)) (i + 1) (by omega) (by omega)
      rw [rowL_0, List.append_nil] at hs
      refine g_iload (j := 4) (pc' := 28) dX12_change_26 rfl rfl ?_
      refine g_iconst (v := 1) (pc' := 29) dX12_change_28 (by decide) rfl ?_
      refine g_iadd (pc' := 30) dX12_change_29 rfl ?_
      refine g_top (y := nI (i + 1)) (nI_1 i) ?_
      refine g_istore (L' := [(0, .ref 189), (1, .int (-1)), (2, .int (nI ((allL (wchP P) n i).length))), (3, .int (-4)), (4, .int (nI i)), (5, .int (nI (i + 1)))]) (pc' := 32) dX12_change_30 (by decide) rfl rfl ?_
      exact hs
  exact loop n 0 (by omega)
set_option maxRecDepth 100000 in
set_option maxHeartbeats 1000000 in
theorem r_change {M : Nat → Nat → Int32} {N : Nat → Nat → Int64} {n k : Nat} {P : Nat → Int32} {pa : List (Nat → Int32)} {kp : Option YS} {tp : List Int32} {sh : Nat → Option (Nat × Nat × (Nat → Int64))} (hA : AOk ((n, k, P, pa), kp, tp, sh)) (hI : RI M N ((n, k, P, pa), kp, tp, sh)) {c : Nat} (hc31 : c < 2147483648) : Run mX12_change 30 0 0 [.ref 189, .int (nI c)] (SK, M, N) (RQ M N (chgV (chgL P n) c) ((n, k, P, pa), kp, tp, sh)) := by
  refine Run.of (by decide) (Nat.le_of_ble_eq_true rfl) ?_
  have hok : OkP n k P := hA.1.1.1
  have hP : ∀ j, j < 47 → M 190 j = P j := hI.1.1
  have hn6 := hok.1
  have hk6 := hok.2.1
  have hn : M 190 0 = nI n := (hP 0 (by omega)).trans hok.2.2.1
  have hk : M 190 1 = nI k := (hP 1 (by omega)).trans hok.2.2.2.1
  refine g_iload_n (j := 1) (pc' := 1) dX12_change_0 rfl rfl ?_
  refine g_iconst (v := (-1)) (pc' := 2) dX12_change_1 (by decide) rfl ?_
  refine g_icmp_ge (tgt := 7) (pc' := 5) dX12_change_2 (by decide) rfl (fun hc => ?_) (fun hc => (absurd (m1_le hc31) hc))
  refine g_iconst (v := 0) (pc' := 8) dX12_change_7 (by decide) rfl ?_
  refine g_istore_n (L' := [(0, .ref 189), (1, .int (nI c)), (2, .int 0)]) (pc' := 9) dX12_change_8 (by decide) rfl rfl ?_
  refine g_bipush (v := (-4)) (pc' := 11) dX12_change_9 (by decide) rfl ?_
  refine g_istore_n (L' := [(0, .ref 189), (1, .int (nI c)), (2, .int 0), (3, .int (-4))]) (pc' := 12) dX12_change_11 (by decide) rfl rfl ?_
  refine g_iconst (v := 0) (pc' := 13) dX12_change_12 (by decide) rfl ?_
  refine g_istore (L' := [(0, .ref 189), (1, .int (nI c)), (2, .int 0), (3, .int (-4)), (4, .int 0)]) (pc' := 15) dX12_change_13 (by decide) rfl rfl ?_
  unfold chgL
  have loop : ∀ (u i : Nat), i + u = n → Go mX12_change 30 0 0 15 [(0, .ref 189), (1, .int (nI c)), (2, .int (nI ((allL (wchP P) n i).length))), (3, .int (chgV (allL (wchP P) n i) c)), (4, .int (nI i))] [] (SK, M, N) (RQ M N (chgV (allL (wchP P) n n) c) ((n, k, P, pa), kp, tp, sh)) := by
    intro u
    induction u with
    | zero =>
      intro i hi
      refine g_iload (j := 4) (pc' := 17) dX12_change_15 rfl rfl ?_
      refine g_aload_n (j := 0) (pc' := 18) dX12_change_17 rfl rfl ?_
      refine g_getR (pc' := 21) dX12_change_18 fX12_7 rfl rfl rfl ?_
      refine g_iconst (v := 0) (pc' := 22) dX12_change_21 (by decide) rfl ?_
      refine g_iald (n := 0) (pc' := 23) dX12_change_22 rfl rfl (by omega) rfl ?_
      refine g_top (y := nI n) (hn) ?_
      refine g_icmp_ge (tgt := 186) (pc' := 26) dX12_change_23 (by decide) rfl (fun hc => ?_) (fun hc => (absurd (nI_le (a := n) (b := i) (by omega) (by omega)) hc))
      obtain rfl : i = n := by omega
      refine g_iload_n (j := 1) (pc' := 187) dX12_change_186 rfl rfl ?_
      refine g_iconst (v := (-1)) (pc' := 188) dX12_change_187 (by decide) rfl ?_
      refine g_icmp_ne (tgt := 195) (pc' := 191) dX12_change_188 (by decide) rfl (fun hc => ?_) (fun hc => (absurd hc (nI_m1 hc31)))
      refine g_iload_n (j := 3) (pc' := 196) dX12_change_195 rfl rfl ?_
      exact g_iret dX12_change_196 rfl rfl (RQ.same hI)
    | succ u ih =>
      intro i hi
      refine g_iload (j := 4) (pc' := 17) dX12_change_15 rfl rfl ?_
      refine g_aload_n (j := 0) (pc' := 18) dX12_change_17 rfl rfl ?_
      refine g_getR (pc' := 21) dX12_change_18 fX12_7 rfl rfl rfl ?_
      refine g_iconst (v := 0) (pc' := 22) dX12_change_21 (by decide) rfl ?_
      refine g_iald (n := 0) (pc' := 23) dX12_change_22 rfl rfl (by omega) rfl ?_
      refine g_top (y := nI n) (hn) ?_
      refine g_icmp_ge (tgt := 186) (pc' := 26) dX12_change_23 (by decide) rfl (fun hc => (absurd hc (nI_ge (a := i) (b := n) (by omega) (by omega)))) (fun hc => ?_)
      have h9 := ih (i + 1) (by omega)
      have inner : ∀ (u2 j : Nat), j + u2 = n → i < j → Go mX12_change 30 0 0 32 [(0, .ref 189), (1, .int (nI c)), (2, .int (nI ((allL (wchP P) n i ++ rowL (wchP P) i j).length))), (3, .int (chgV (allL (wchP P) n i ++ rowL (wchP P) i j) c)), (4, .int (nI i)), (5, .int (nI j))] [] (SK, M, N) (RQ M N (chgV (allL (wchP P) n n) c) ((n, k, P, pa), kp, tp, sh)) := by
        intro u2
        induction u2 with
        | zero =>
          intro j hj hij
          refine g_iload (j := 5) (pc' := 34) dX12_change_32 rfl rfl ?_
          refine g_aload_n (j := 0) (pc' := 35) dX12_change_34 rfl rfl ?_
          refine g_getR (pc' := 38) dX12_change_35 fX12_7 rfl rfl rfl ?_
          refine g_iconst (v := 0) (pc' := 39) dX12_change_38 (by decide) rfl ?_
          refine g_iald (n := 0) (pc' := 40) dX12_change_39 rfl rfl (by omega) rfl ?_
          refine g_top (y := nI n) (hn) ?_
          refine g_icmp_ge (tgt := 180) (pc' := 43) dX12_change_40 (by decide) rfl (fun hc => ?_) (fun hc => (absurd (nI_le (a := n) (b := j) (by omega) (by omega)) hc))
          obtain rfl : n = j := by omega
          refine g_iinc (j := 4) (v := nI (i + 1)) (L' := [(0, .ref 189), (1, .int (nI c)), (2, .int (nI ((allL (wchP P) n i ++ rowL (wchP P) i n).length))), (3, .int (chgV (allL (wchP P) n i ++ rowL (wchP P) i n) c)), (4, .int (nI (i + 1))), (5, .int (nI n))]) (pc' := 183) dX12_change_180 rfl (nI_1 i) (by decide) rfl rfl ?_
          refine g_less (L' := [(0, .ref 189), (1, .int (nI c)), (2, .int (nI ((allL (wchP P) n i ++ rowL (wchP P) i n).length))), (3, .int (chgV (allL (wchP P) n i ++ rowL (wchP P) i n) c)), (4, .int (nI (i + 1)))]) [0, 1, 2, 3, 4] rfl ?_
          refine g_goto (tgt := 15) dX12_change_183 (by decide) ?_
          exact h9
        | succ u2 ih2 =>
          intro j hj hij
          refine g_iload (j := 5) (pc' := 34) dX12_change_32 rfl rfl ?_
          refine g_aload_n (j := 0) (pc' := 35) dX12_change_34 rfl rfl ?_
          refine g_getR (pc' := 38) dX12_change_35 fX12_7 rfl rfl rfl ?_
          refine g_iconst (v := 0) (pc' := 39) dX12_change_38 (by decide) rfl ?_
          refine g_iald (n := 0) (pc' := 40) dX12_change_39 rfl rfl (by omega) rfl ?_
          refine g_top (y := nI n) (hn) ?_
          refine g_icmp_ge (tgt := 180) (pc' := 43) dX12_change_40 (by decide) rfl (fun hc => (absurd hc (nI_ge (a := j) (b := n) (by omega) (by omega)))) (fun hc => ?_)
          have hn2 := ih2 (j + 1) (by omega) (by omega)
          have hlen : (allL (wchP P) n i ++ rowL (wchP P) i j).length < 1000 := by
            have q1 := allL_le (wchP P) n i
            have q2 := rowL_le (wchP P) i j
            have q3 : i * n ≤ 6 * 6 := Nat.mul_le_mul (by omega) (by omega)
            rw [List.length_append]
            omega
          refine g_aload_n (j := 0) (pc' := 44) dX12_change_43 rfl rfl ?_
          refine g_getR (pc' := 47) dX12_change_44 fX12_7 rfl rfl rfl ?_
          refine g_bipush (v := 28) (pc' := 49) dX12_change_47 (by decide) rfl ?_
          refine g_iload (j := 4) (pc' := 51) dX12_change_49 rfl rfl ?_
          refine g_iadd (pc' := 52) dX12_change_51 rfl ?_
          refine g_iald (n := 28 + i) (pc' := 53) dX12_change_52 rfl (nI_addE rfl rfl) (by omega) rfl ?_
          refine g_top (y := P (28 + i)) (hP _ (by omega)) ?_
          refine g_istore (L' := [(0, .ref 189), (1, .int (nI c)), (2, .int (nI ((allL (wchP P) n i ++ rowL (wchP P) i j).length))), (3, .int (chgV (allL (wchP P) n i ++ rowL (wchP P) i j) c)), (4, .int (nI i)), (5, .int (nI j)), (6, .int (P (28 + i)))]) (pc' := 55) dX12_change_53 (by decide) rfl rfl ?_
          refine g_aload_n (j := 0) (pc' := 56) dX12_change_55 rfl rfl ?_
          refine g_getR (pc' := 59) dX12_change_56 fX12_7 rfl rfl rfl ?_
          refine g_bipush (v := 28) (pc' := 61) dX12_change_59 (by decide) rfl ?_
          refine g_iload (j := 5) (pc' := 63) dX12_change_61 rfl rfl ?_
          refine g_iadd (pc' := 64) dX12_change_63 rfl ?_
          refine g_iald (n := 28 + j) (pc' := 65) dX12_change_64 rfl (nI_addE rfl rfl) (by omega) rfl ?_
          refine g_top (y := P (28 + j)) (hP _ (by omega)) ?_
          refine g_istore (L' := [(0, .ref 189), (1, .int (nI c)), (2, .int (nI ((allL (wchP P) n i ++ rowL (wchP P) i j).length))), (3, .int (chgV (allL (wchP P) n i ++ rowL (wchP P) i j) c)), (4, .int (nI i)), (5, .int (nI j)), (6, .int (P (28 + i))), (7, .int (P (28 + j)))]) (pc' := 67) dX12_change_65 (by decide) rfl rfl ?_
          have t0 : ¬ (wchP P i j = true ∧ wchP P j i = true) → Go mX12_change 30 0 0 138 [(0, .ref 189), (1, .int (nI c)), (2, .int (nI ((allL (wchP P) n i ++ rowL (wchP P) i j).length))), (3, .int (chgV (allL (wchP P) n i ++ rowL (wchP P) i j) c)), (4, .int (nI i)), (5, .int (nI j)), (8, .int 0)] [] (SK, M, N) (RQ M N (chgV (allL (wchP P) n n) c) ((n, k, P, pa), kp, tp, sh)) := by
            intro hw
            rw [rowL_n hw] at hn2
            refine g_iload (j := 6) (pc' := 140) dX12_change_138 rfl rfl ?_
            refine g_if_eq (tgt := 159) (pc' := 143) dX12_change_140 (by decide) rfl (fun _ => ?_) (fun hc => absurd rfl hc)
            refine g_iload_n (j := 3) (pc' := 160) dX12_change_159 rfl rfl ?_
            refine g_istore_n (L' := [(0, .ref 189), (1, .int (nI c)), (2, .int (nI ((allL (wchP P) n i ++ rowL (wchP P) i j).length))), (3, .int (chgV (allL (wchP P) n i ++ rowL (wchP P) i j) c)), (4, .int (nI i)), (5, .int (nI j)), (8, .int 0)]) (pc' := 161) dX12_change_160 (by decide) rfl rfl ?_
            refine g_iload_n (j := 2) (pc' := 162) dX12_change_161 rfl rfl ?_
            refine g_iload (j := 6) (pc' := 164) dX12_change_162 rfl rfl ?_
            refine g_if_eq (tgt := 171) (pc' := 167) dX12_change_164 (by decide) rfl (fun _ => ?_) (fun hc => absurd rfl hc)
            refine g_iconst (v := 0) (pc' := 172) dX12_change_171 (by decide) rfl ?_
            refine g_iadd (pc' := 173) dX12_change_172 rfl ?_
            refine g_top (y := nI ((allL (wchP P) n i ++ rowL (wchP P) i j).length)) (Int32.add_zero _) ?_
            refine g_istore_n (L' := [(0, .ref 189), (1, .int (nI c)), (2, .int (nI ((allL (wchP P) n i ++ rowL (wchP P) i j).length))), (3, .int (chgV (allL (wchP P) n i ++ rowL (wchP P) i j) c)), (4, .int (nI i)), (5, .int (nI j)), (8, .int 0)]) (pc' := 174) dX12_change_173 (by decide) rfl rfl ?_
            refine g_less (L' := [(0, .ref 189), (1, .int (nI c)), (2, .int (nI ((allL (wchP P) n i ++ rowL (wchP P) i j).length))), (3, .int (chgV (allL (wchP P) n i ++ rowL (wchP P) i j) c)), (4, .int (nI i)), (5, .int (nI j))]) [0, 1, 2, 3, 4, 5] rfl ?_
            refine g_iinc (j := 5) (v := nI (j + 1)) (L' := [(0, .ref 189), (1, .int (nI c)), (2, .int (nI ((allL (wchP P) n i ++ rowL (wchP P) i j).length))), (3, .int (chgV (allL (wchP P) n i ++ rowL (wchP P) i j) c)), (4, .int (nI i)), (5, .int (nI (j + 1)))]) (pc' := 177) dX12_change_174 rfl (nI_1 j) (by decide) rfl rfl ?_
            refine g_goto (tgt := 32) dX12_change_177 (by decide) ?_
            exact hn2
          have t1 : wchP P i j = true ∧ wchP P j i = true → Go mX12_change 30 0 0 138 [(0, .ref 189), (1, .int (nI c)), (2, .int (nI ((allL (wchP P) n i ++ rowL (wchP P) i j).length))), (3, .int (chgV (allL (wchP P) n i ++ rowL (wchP P) i j) c)), (4, .int (nI i)), (5, .int (nI j)), (8, .int 1)] [] (SK, M, N) (RQ M N (chgV (allL (wchP P) n n) c) ((n, k, P, pa), kp, tp, sh)) := by
            intro hw
            rw [rowL_y hij hw.1 hw.2, ← List.append_assoc] at hn2
            generalize (allL (wchP P) n i ++ rowL (wchP P) i j) = l at hn2 hlen ⊢
            rw [List.length_append, List.length_singleton] at hn2
            refine g_iload (j := 6) (pc' := 140) dX12_change_138 rfl rfl ?_
            refine g_if_eq (tgt := 159) (pc' := 143) dX12_change_140 (by decide) rfl (fun hc => absurd hc (by decide)) (fun _ => ?_)
            refine g_iload_n (j := 2) (pc' := 144) dX12_change_143 rfl rfl ?_
            refine g_iload_n (j := 1) (pc' := 145) dX12_change_144 rfl rfl ?_
            refine g_icmp_ne (tgt := 159) (pc' := 148) dX12_change_145 (by decide) rfl (fun hc6 => ?_) (fun hc6 => ?_)
            · rw [chgV_old (fun q => hc6 (by rw [q]))] at hn2
              refine g_iload_n (j := 3) (pc' := 160) dX12_change_159 rfl rfl ?_
              refine g_istore_n (L' := [(0, .ref 189), (1, .int (nI c)), (2, .int (nI l.length)), (3, .int (chgV l c)), (4, .int (nI i)), (5, .int (nI j)), (8, .int 1)]) (pc' := 161) dX12_change_160 (by decide) rfl rfl ?_
              refine g_iload_n (j := 2) (pc' := 162) dX12_change_161 rfl rfl ?_
              refine g_iload (j := 6) (pc' := 164) dX12_change_162 rfl rfl ?_
              refine g_if_eq (tgt := 171) (pc' := 167) dX12_change_164 (by decide) rfl (fun hc => absurd hc (by decide)) (fun _ => ?_)
              refine g_iconst (v := 1) (pc' := 168) dX12_change_167 (by decide) rfl ?_
              refine g_goto (tgt := 172) dX12_change_168 (by decide) ?_
              refine g_iadd (pc' := 173) dX12_change_172 rfl ?_
              refine g_top (y := nI (l.length + 1)) (nI_1 _) ?_
              refine g_istore_n (L' := [(0, .ref 189), (1, .int (nI c)), (2, .int (nI (l.length + 1))), (3, .int (chgV l c)), (4, .int (nI i)), (5, .int (nI j)), (8, .int 1)]) (pc' := 174) dX12_change_173 (by decide) rfl rfl ?_
              refine g_less (L' := [(0, .ref 189), (1, .int (nI c)), (2, .int (nI (l.length + 1))), (3, .int (chgV l c)), (4, .int (nI i)), (5, .int (nI j))]) [0, 1, 2, 3, 4, 5] rfl ?_
              refine g_iinc (j := 5) (v := nI (j + 1)) (L' := [(0, .ref 189), (1, .int (nI c)), (2, .int (nI (l.length + 1))), (3, .int (chgV l c)), (4, .int (nI i)), (5, .int (nI (j + 1)))]) (pc' := 177) dX12_change_174 rfl (nI_1 j) (by decide) rfl rfl ?_
              refine g_goto (tgt := 32) dX12_change_177 (by decide) ?_
              exact hn2
            · obtain rfl : c = l.length := ((nI_eq (by omega) (by omega)).mp hc6).symm
              rw [chgV_new] at hn2
              refine g_bipush (v := 10) (pc' := 150) dX12_change_148 (by decide) rfl ?_
              refine g_iload (j := 4) (pc' := 152) dX12_change_150 rfl rfl ?_
              refine g_imul (pc' := 153) dX12_change_152 rfl ?_
              refine g_iload (j := 5) (pc' := 155) dX12_change_153 rfl rfl ?_
              refine g_iadd (pc' := 156) dX12_change_155 rfl ?_
              refine g_goto (tgt := 160) dX12_change_156 (by decide) ?_
              refine g_istore_n (L' := [(0, .ref 189), (1, .int (nI l.length)), (2, .int (nI l.length)), (3, .int ((10 * (nI i)) + (nI j))), (4, .int (nI i)), (5, .int (nI j)), (8, .int 1)]) (pc' := 161) dX12_change_160 (by decide) rfl rfl ?_
              refine g_iload_n (j := 2) (pc' := 162) dX12_change_161 rfl rfl ?_
              refine g_iload (j := 6) (pc' := 164) dX12_change_162 rfl rfl ?_
              refine g_if_eq (tgt := 171) (pc' := 167) dX12_change_164 (by decide) rfl (fun hc => absurd hc (by decide)) (fun _ => ?_)
              refine g_iconst (v := 1) (pc' := 168) dX12_change_167 (by decide) rfl ?_
              refine g_goto (tgt := 172) dX12_change_168 (by decide) ?_
              refine g_iadd (pc' := 173) dX12_change_172 rfl ?_
              refine g_top (y := nI (l.length + 1)) (nI_1 _) ?_
              refine g_istore_n (L' := [(0, .ref 189), (1, .int (nI l.length)), (2, .int (nI (l.length + 1))), (3, .int ((10 * (nI i)) + (nI j))), (4, .int (nI i)), (5, .int (nI j)), (8, .int 1)]) (pc' := 174) dX12_change_173 (by decide) rfl rfl ?_
              refine g_less (L' := [(0, .ref 189), (1, .int (nI l.length)), (2, .int (nI (l.length + 1))), (3, .int ((10 * (nI i)) + (nI j))), (4, .int (nI i)), (5, .int (nI j))]) [0, 1, 2, 3, 4, 5] rfl ?_
              refine g_iinc (j := 5) (v := nI (j + 1)) (L' := [(0, .ref 189), (1, .int (nI l.length)), (2, .int (nI (l.length + 1))), (3, .int ((10 * (nI i)) + (nI j))), (4, .int (nI i)), (5, .int (nI (j + 1)))]) (pc' := 177) dX12_change_174 rfl (nI_1 j) (by decide) rfl rfl ?_
              refine g_goto (tgt := 32) dX12_change_177 (by decide) ?_
              exact hn2
          rcases wch_of hok (i := i) (j := j) (by omega) (by omega) with ⟨hz, hw⟩ | ⟨a, b, ha, hb, ea, eb, hw1, hw2⟩
          · refine g_iload (j := 6) (pc' := 69) dX12_change_67 rfl rfl ?_
            refine g_bipush (v := (-4)) (pc' := 71) dX12_change_69 (by decide) rfl ?_
            refine g_icmp_eq (tgt := 135) (pc' := 74) dX12_change_71 (by decide) rfl (fun hc7 => ?_) (fun hc7 => ?_)
            · refine g_iconst (v := 0) (pc' := 136) dX12_change_135 (by decide) rfl ?_
              refine g_istore (L' := [(0, .ref 189), (1, .int (nI c)), (2, .int (nI ((allL (wchP P) n i ++ rowL (wchP P) i j).length))), (3, .int (chgV (allL (wchP P) n i ++ rowL (wchP P) i j) c)), (4, .int (nI i)), (5, .int (nI j)), (6, .int (P (28 + i))), (7, .int (P (28 + j))), (8, .int 0)]) (pc' := 138) dX12_change_136 (by decide) rfl rfl ?_
              refine g_less (L' := [(0, .ref 189), (1, .int (nI c)), (2, .int (nI ((allL (wchP P) n i ++ rowL (wchP P) i j).length))), (3, .int (chgV (allL (wchP P) n i ++ rowL (wchP P) i j) c)), (4, .int (nI i)), (5, .int (nI j)), (8, .int 0)]) [0, 1, 2, 3, 4, 5, 8] rfl ?_
              exact t0 (fun q => absurd q.1 (by rw [hw]; decide))
            · refine g_iload (j := 7) (pc' := 76) dX12_change_74 rfl rfl ?_
              refine g_bipush (v := (-4)) (pc' := 78) dX12_change_76 (by decide) rfl ?_
              refine g_icmp_eq (tgt := 135) (pc' := 81) dX12_change_78 (by decide) rfl (fun hc => ?_) (fun hc => (absurd (hz.resolve_left hc7) hc))
              refine g_iconst (v := 0) (pc' := 136) dX12_change_135 (by decide) rfl ?_
              refine g_istore (L' := [(0, .ref 189), (1, .int (nI c)), (2, .int (nI ((allL (wchP P) n i ++ rowL (wchP P) i j).length))), (3, .int (chgV (allL (wchP P) n i ++ rowL (wchP P) i j) c)), (4, .int (nI i)), (5, .int (nI j)), (6, .int (P (28 + i))), (7, .int (P (28 + j))), (8, .int 0)]) (pc' := 138) dX12_change_136 (by decide) rfl rfl ?_
              refine g_less (L' := [(0, .ref 189), (1, .int (nI c)), (2, .int (nI ((allL (wchP P) n i ++ rowL (wchP P) i j).length))), (3, .int (chgV (allL (wchP P) n i ++ rowL (wchP P) i j) c)), (4, .int (nI i)), (5, .int (nI j)), (8, .int 0)]) [0, 1, 2, 3, 4, 5, 8] rfl ?_
              exact t0 (fun q => absurd q.1 (by rw [hw]; decide))
          · rw [ea, eb]
            refine g_iload (j := 6) (pc' := 69) dX12_change_67 rfl rfl ?_
            refine g_bipush (v := (-4)) (pc' := 71) dX12_change_69 (by decide) rfl ?_
            refine g_icmp_eq (tgt := 135) (pc' := 74) dX12_change_71 (by decide) rfl (fun hc => (absurd hc (nI_ne_m4 (by omega)))) (fun hc => ?_)
            refine g_iload (j := 7) (pc' := 76) dX12_change_74 rfl rfl ?_
            refine g_bipush (v := (-4)) (pc' := 78) dX12_change_76 (by decide) rfl ?_
            refine g_icmp_eq (tgt := 135) (pc' := 81) dX12_change_78 (by decide) rfl (fun hc => (absurd hc (nI_ne_m4 (by omega)))) (fun hc => ?_)
            refine g_aload_n (j := 0) (pc' := 82) dX12_change_81 rfl rfl ?_
            refine g_getR (pc' := 85) dX12_change_82 fX12_7 rfl rfl rfl ?_
            refine g_iload (j := 4) (pc' := 87) dX12_change_85 rfl rfl ?_
            refine g_iload (j := 7) (pc' := 89) dX12_change_87 rfl rfl ?_
            refine g_callS (my := mX12_valueOf) (st := []) (av := [.ref 190, .int (nI i), .int (nI b)]) (mcr := 0) (msr := 0) (mc := 0) (ms := 0) (pc' := 92) dX12_change_89 kX12_valueOf wX12_67 rfl (Nat.le_of_ble_eq_true rfl) (by decide) (r_valueOf (c := 190) rfl hok hP (m := i) (i := b) (by omega) hb) rfl ?_
            rintro _ _ ⟨rfl, rfl⟩
            show Go mX12_change _ _ _ 92 [(0, .ref 189), (1, .int (nI c)), (2, .int (nI ((allL (wchP P) n i ++ rowL (wchP P) i j).length))), (3, .int (chgV (allL (wchP P) n i ++ rowL (wchP P) i j) c)), (4, .int (nI i)), (5, .int (nI j)), (6, .int (nI a)), (7, .int (nI b))] [.int (valP P i b)] (SK, M, N) _
            refine g_aload_n (j := 0) (pc' := 93) dX12_change_92 rfl rfl ?_
            refine g_getR (pc' := 96) dX12_change_93 fX12_7 rfl rfl rfl ?_
            refine g_iload (j := 4) (pc' := 98) dX12_change_96 rfl rfl ?_
            refine g_iload (j := 6) (pc' := 100) dX12_change_98 rfl rfl ?_
            refine g_callS (my := mX12_valueOf) (st := [.int (valP P i b)]) (av := [.ref 190, .int (nI i), .int (nI a)]) (mcr := 0) (msr := 0) (mc := 0) (ms := 0) (pc' := 103) dX12_change_100 kX12_valueOf wX12_67 rfl (Nat.le_of_ble_eq_true rfl) (by decide) (r_valueOf (c := 190) rfl hok hP (m := i) (i := a) (by omega) ha) rfl ?_
            rintro _ _ ⟨rfl, rfl⟩
            show Go mX12_change _ _ _ 103 [(0, .ref 189), (1, .int (nI c)), (2, .int (nI ((allL (wchP P) n i ++ rowL (wchP P) i j).length))), (3, .int (chgV (allL (wchP P) n i ++ rowL (wchP P) i j) c)), (4, .int (nI i)), (5, .int (nI j)), (6, .int (nI a)), (7, .int (nI b))] [.int (valP P i a), .int (valP P i b)] (SK, M, N) _
            refine g_icmp_le (tgt := 135) (pc' := 106) dX12_change_103 (by decide) rfl (fun hc7 => ?_) (fun hc7 => ?_)
            · refine g_iconst (v := 0) (pc' := 136) dX12_change_135 (by decide) rfl ?_
              refine g_istore (L' := [(0, .ref 189), (1, .int (nI c)), (2, .int (nI ((allL (wchP P) n i ++ rowL (wchP P) i j).length))), (3, .int (chgV (allL (wchP P) n i ++ rowL (wchP P) i j) c)), (4, .int (nI i)), (5, .int (nI j)), (6, .int (nI a)), (7, .int (nI b)), (8, .int 0)]) (pc' := 138) dX12_change_136 (by decide) rfl rfl ?_
              refine g_less (L' := [(0, .ref 189), (1, .int (nI c)), (2, .int (nI ((allL (wchP P) n i ++ rowL (wchP P) i j).length))), (3, .int (chgV (allL (wchP P) n i ++ rowL (wchP P) i j) c)), (4, .int (nI i)), (5, .int (nI j)), (8, .int 0)]) [0, 1, 2, 3, 4, 5, 8] rfl ?_
              exact t0 (fun q => absurd (of_decide_eq_true (hw1.symm.trans q.1)) (Int32.not_lt.mpr hc7))
            · refine g_aload_n (j := 0) (pc' := 107) dX12_change_106 rfl rfl ?_
              refine g_getR (pc' := 110) dX12_change_107 fX12_7 rfl rfl rfl ?_
              refine g_iload (j := 5) (pc' := 112) dX12_change_110 rfl rfl ?_
              refine g_iload (j := 6) (pc' := 114) dX12_change_112 rfl rfl ?_
              refine g_callS (my := mX12_valueOf) (st := []) (av := [.ref 190, .int (nI j), .int (nI a)]) (mcr := 0) (msr := 0) (mc := 0) (ms := 0) (pc' := 117) dX12_change_114 kX12_valueOf wX12_67 rfl (Nat.le_of_ble_eq_true rfl) (by decide) (r_valueOf (c := 190) rfl hok hP (m := j) (i := a) (by omega) ha) rfl ?_
              rintro _ _ ⟨rfl, rfl⟩
              show Go mX12_change _ _ _ 117 [(0, .ref 189), (1, .int (nI c)), (2, .int (nI ((allL (wchP P) n i ++ rowL (wchP P) i j).length))), (3, .int (chgV (allL (wchP P) n i ++ rowL (wchP P) i j) c)), (4, .int (nI i)), (5, .int (nI j)), (6, .int (nI a)), (7, .int (nI b))] [.int (valP P j a)] (SK, M, N) _
              refine g_aload_n (j := 0) (pc' := 118) dX12_change_117 rfl rfl ?_
              refine g_getR (pc' := 121) dX12_change_118 fX12_7 rfl rfl rfl ?_
              refine g_iload (j := 5) (pc' := 123) dX12_change_121 rfl rfl ?_
              refine g_iload (j := 7) (pc' := 125) dX12_change_123 rfl rfl ?_
              refine g_callS (my := mX12_valueOf) (st := [.int (valP P j a)]) (av := [.ref 190, .int (nI j), .int (nI b)]) (mcr := 0) (msr := 0) (mc := 0) (ms := 0) (pc' := 128) dX12_change_125 kX12_valueOf wX12_67 rfl (Nat.le_of_ble_eq_true rfl) (by decide) (r_valueOf (c := 190) rfl hok hP (m := j) (i := b) (by omega) hb) rfl ?_
              rintro _ _ ⟨rfl, rfl⟩
              show Go mX12_change _ _ _ 128 [(0, .ref 189), (1, .int (nI c)), (2, .int (nI ((allL (wchP P) n i ++ rowL (wchP P) i j).length))), (3, .int (chgV (allL (wchP P) n i ++ rowL (wchP P) i j) c)), (4, .int (nI i)), (5, .int (nI j)), (6, .int (nI a)), (7, .int (nI b))] [.int (valP P j b), .int (valP P j a)] (SK, M, N) _
              refine g_icmp_le (tgt := 135) (pc' := 131) dX12_change_128 (by decide) rfl (fun hc8 => ?_) (fun hc8 => ?_)
              · refine g_iconst (v := 0) (pc' := 136) dX12_change_135 (by decide) rfl ?_
                refine g_istore (L' := [(0, .ref 189), (1, .int (nI c)), (2, .int (nI ((allL (wchP P) n i ++ rowL (wchP P) i j).length))), (3, .int (chgV (allL (wchP P) n i ++ rowL (wchP P) i j) c)), (4, .int (nI i)), (5, .int (nI j)), (6, .int (nI a)), (7, .int (nI b)), (8, .int 0)]) (pc' := 138) dX12_change_136 (by decide) rfl rfl ?_
                refine g_less (L' := [(0, .ref 189), (1, .int (nI c)), (2, .int (nI ((allL (wchP P) n i ++ rowL (wchP P) i j).length))), (3, .int (chgV (allL (wchP P) n i ++ rowL (wchP P) i j) c)), (4, .int (nI i)), (5, .int (nI j)), (8, .int 0)]) [0, 1, 2, 3, 4, 5, 8] rfl ?_
                exact t0 (fun q => absurd (of_decide_eq_true (hw2.symm.trans q.2)) (Int32.not_lt.mpr hc8))
              · refine g_iconst (v := 1) (pc' := 132) dX12_change_131 (by decide) rfl ?_
                refine g_goto (tgt := 136) dX12_change_132 (by decide) ?_
                refine g_istore (L' := [(0, .ref 189), (1, .int (nI c)), (2, .int (nI ((allL (wchP P) n i ++ rowL (wchP P) i j).length))), (3, .int (chgV (allL (wchP P) n i ++ rowL (wchP P) i j) c)), (4, .int (nI i)), (5, .int (nI j)), (6, .int (nI a)), (7, .int (nI b)), (8, .int 1)]) (pc' := 138) dX12_change_136 (by decide) rfl rfl ?_
                refine g_less (L' := [(0, .ref 189), (1, .int (nI c)), (2, .int (nI ((allL (wchP P) n i ++ rowL (wchP P) i j).length))), (3, .int (chgV (allL (wchP P) n i ++ rowL (wchP P) i j) c)), (4, .int (nI i)), (5, .int (nI j)), (8, .int 1)]) [0, 1, 2, 3, 4, 5, 8] rfl ?_
                exact t1 ⟨hw1.trans (decide_eq_true (Int32.not_le.mp hc7)), hw2.trans (decide_eq_true (Int32.not_le.mp hc8))⟩
      have hs := inner (n - (i + 1)) (i + 1) (by omega) (by omega)
      rw [rowL_0, List.append_nil] at hs
      refine g_iload (j := 4) (pc' := 28) dX12_change_26 rfl rfl ?_
      refine g_iconst (v := 1) (pc' := 29) dX12_change_28 (by decide) rfl ?_
      refine g_iadd (pc' := 30) dX12_change_29 rfl ?_
      refine g_top (y := nI (i + 1)) (nI_1 i) ?_
      refine g_istore (L' := [(0, .ref 189), (1, .int (nI c)), (2, .int (nI ((allL (wchP P) n i).length))), (3, .int (chgV (allL (wchP P) n i) c)), (4, .int (nI i)), (5, .int (nI (i + 1)))]) (pc' := 32) dX12_change_30 (by decide) rfl rfl ?_
      exact hs
  exact loop n 0 (by omega)
