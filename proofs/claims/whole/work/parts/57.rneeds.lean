set_option maxRecDepth 100000 in
set_option maxHeartbeats 1000000 in
theorem r_needs_b1 {M : Nat → Nat → Int32} {N : Nat → Nat → Int64} {n k : Nat} {P : Nat → Int32} {pa : List (Nat → Int32)} {kp : Option YS} {tp : List Int32} {sh : Nat → Option (Nat × Nat × (Nat → Int64))} (hA : AOk ((n, k, P, pa), kp, tp, sh)) (hI : RI M N ((n, k, P, pa), kp, tp, sh)) {v : Int32} (u : Int32) (h1 : ∀ m, m < n → v ≠ nI m) : Run mX12_needs 30 0 0 [.ref 189, .int v, .int u] (SK, M, N) (RQ M N (-1) ((n, k, P, pa), kp, tp, sh)) := by
  refine Run.of (by decide) (Nat.le_of_ble_eq_true rfl) ?_
  have hok : OkP n k P := hA.1.1.1
  have hP : ∀ j, j < 47 → M 190 j = P j := hI.1.1
  have hn6 := hok.1
  have hk6 := hok.2.1
  have hn : M 190 0 = nI n := (hP 0 (by omega)).trans hok.2.2.1
  have hk : M 190 1 = nI k := (hP 1 (by omega)).trans hok.2.2.2.1
  refine g_aload_n (j := 0) (pc' := 1) dX12_needs_0 rfl rfl ?_
  refine g_iload_n (j := 1) (pc' := 2) dX12_needs_1 rfl rfl ?_
  refine g_callV (my := mX12_isMan) (k := 189) (st := []) (av := [.int v]) (mcr := 0) (msr := 0) (mc := 0) (ms := 0) (pc' := 5) dX12_needs_2 kX12_isMan wX12_84 rfl ⟨rfl, rfl⟩ rfl (Nat.le_of_ble_eq_true rfl) (by decide) (s_isMan0 hn hn6 (h1)) rfl ?_
  rintro _ _ ⟨rfl, rfl⟩
  show Go mX12_needs _ _ _ 5 [(0, .ref 189), (1, .int v), (2, .int u)] [.int 0] (SK, M, N) _
  refine g_if_eq (tgt := 16) (pc' := 8) dX12_needs_5 (by decide) rfl (fun _ => ?_) (fun hc => absurd rfl hc)
  refine g_iconst (v := (-1)) (pc' := 17) dX12_needs_16 (by decide) rfl ?_
  exact g_iret dX12_needs_17 rfl rfl (RQ.same hI)
set_option maxRecDepth 100000 in
set_option maxHeartbeats 1000000 in
theorem r_needs_b2 {M : Nat → Nat → Int32} {N : Nat → Nat → Int64} {n k : Nat} {P : Nat → Int32} {pa : List (Nat → Int32)} {kp : Option YS} {tp : List Int32} {sh : Nat → Option (Nat × Nat × (Nat → Int64))} (hA : AOk ((n, k, P, pa), kp, tp, sh)) (hI : RI M N ((n, k, P, pa), kp, tp, sh)) {m : Nat} {u : Int32} (hm : m < n) (h1 : ∀ i, i < k → u ≠ nI i) : Run mX12_needs 30 0 0 [.ref 189, .int (nI m), .int u] (SK, M, N) (RQ M N (-1) ((n, k, P, pa), kp, tp, sh)) := by
  refine Run.of (by decide) (Nat.le_of_ble_eq_true rfl) ?_
  have hok : OkP n k P := hA.1.1.1
  have hP : ∀ j, j < 47 → M 190 j = P j := hI.1.1
  have hn6 := hok.1
  have hk6 := hok.2.1
  have hn : M 190 0 = nI n := (hP 0 (by omega)).trans hok.2.2.1
  have hk : M 190 1 = nI k := (hP 1 (by omega)).trans hok.2.2.2.1
  refine g_aload_n (j := 0) (pc' := 1) dX12_needs_0 rfl rfl ?_
  refine g_iload_n (j := 1) (pc' := 2) dX12_needs_1 rfl rfl ?_
  refine g_callV (my := mX12_isMan) (k := 189) (st := []) (av := [.int (nI m)]) (mcr := 0) (msr := 0) (mc := 0) (ms := 0) (pc' := 5) dX12_needs_2 kX12_isMan wX12_84 rfl ⟨rfl, rfl⟩ rfl (Nat.le_of_ble_eq_true rfl) (by decide) (s_isMan1 hn hn6 (hm)) rfl ?_
  rintro _ _ ⟨rfl, rfl⟩
  show Go mX12_needs _ _ _ 5 [(0, .ref 189), (1, .int (nI m)), (2, .int u)] [.int 1] (SK, M, N) _
  refine g_if_eq (tgt := 16) (pc' := 8) dX12_needs_5 (by decide) rfl (fun hc => absurd hc (by decide)) (fun _ => ?_)
  refine g_aload_n (j := 0) (pc' := 9) dX12_needs_8 rfl rfl ?_
  refine g_iload_n (j := 2) (pc' := 10) dX12_needs_9 rfl rfl ?_
  refine g_callV (my := mX12_isName) (k := 189) (st := []) (av := [.int u]) (mcr := 0) (msr := 0) (mc := 0) (ms := 0) (pc' := 13) dX12_needs_10 kX12_isName wX12_92 rfl ⟨rfl, rfl⟩ rfl (Nat.le_of_ble_eq_true rfl) (by decide) (s_isName0 hk hk6 (h1)) rfl ?_
  rintro _ _ ⟨rfl, rfl⟩
  show Go mX12_needs _ _ _ 13 [(0, .ref 189), (1, .int (nI m)), (2, .int u)] [.int 0] (SK, M, N) _
  refine g_if_ne (tgt := 18) (pc' := 16) dX12_needs_13 (by decide) rfl (fun hc => absurd rfl hc) (fun _ => ?_)
  refine g_iconst (v := (-1)) (pc' := 17) dX12_needs_16 (by decide) rfl ?_
  exact g_iret dX12_needs_17 rfl rfl (RQ.same hI)
set_option maxRecDepth 100000 in
set_option maxHeartbeats 1000000 in
theorem r_needs {M : Nat → Nat → Int32} {N : Nat → Nat → Int64} {n k : Nat} {P : Nat → Int32} {pa : List (Nat → Int32)} {kp : Option YS} {tp : List Int32} {sh : Nat → Option (Nat × Nat × (Nat → Int64))} (hA : AOk ((n, k, P, pa), kp, tp, sh)) (hI : RI M N ((n, k, P, pa), kp, tp, sh)) {m i z : Nat} (hm : m < n) (hi : i < k) (hz : P (10 + m) = nI z) (hz9 : z ≤ 9) : Run mX12_needs 30 0 0 [.ref 189, .int (nI m), .int (nI i)] (SK, M, N) (RQ M N (ndV P n k m i z) ((n, k, P, pa), kp, tp, sh)) := by
  refine Run.of (by decide) (Nat.le_of_ble_eq_true rfl) ?_
  have hok : OkP n k P := hA.1.1.1
  have hP : ∀ j, j < 47 → M 190 j = P j := hI.1.1
  have hn6 := hok.1
  have hk6 := hok.2.1
  have hn : M 190 0 = nI n := (hP 0 (by omega)).trans hok.2.2.1
  have hk : M 190 1 = nI k := (hP 1 (by omega)).trans hok.2.2.2.1
  refine g_aload_n (j := 0) (pc' := 1) dX12_needs_0 rfl rfl ?_
  refine g_iload_n (j := 1) (pc' := 2) dX12_needs_1 rfl rfl ?_
  refine g_callV (my := mX12_isMan) (k := 189) (st := []) (av := [.int (nI m)]) (mcr := 0) (msr := 0) (mc := 0) (ms := 0) (pc' := 5) dX12_needs_2 kX12_isMan wX12_84 rfl ⟨rfl, rfl⟩ rfl (Nat.le_of_ble_eq_true rfl) (by decide) (s_isMan1 hn hn6 (hm)) rfl ?_
  rintro _ _ ⟨rfl, rfl⟩
  show Go mX12_needs _ _ _ 5 [(0, .ref 189), (1, .int (nI m)), (2, .int (nI i))] [.int 1] (SK, M, N) _
  refine g_if_eq (tgt := 16) (pc' := 8) dX12_needs_5 (by decide) rfl (fun hc => absurd hc (by decide)) (fun _ => ?_)
  refine g_aload_n (j := 0) (pc' := 9) dX12_needs_8 rfl rfl ?_
  refine g_iload_n (j := 2) (pc' := 10) dX12_needs_9 rfl rfl ?_
  refine g_callV (my := mX12_isName) (k := 189) (st := []) (av := [.int (nI i)]) (mcr := 0) (msr := 0) (mc := 0) (ms := 0) (pc' := 13) dX12_needs_10 kX12_isName wX12_92 rfl ⟨rfl, rfl⟩ rfl (Nat.le_of_ble_eq_true rfl) (by decide) (s_isName1 hk hk6 (hi)) rfl ?_
  rintro _ _ ⟨rfl, rfl⟩
  show Go mX12_needs _ _ _ 13 [(0, .ref 189), (1, .int (nI m)), (2, .int (nI i))] [.int 1] (SK, M, N) _
  refine g_if_ne (tgt := 18) (pc' := 16) dX12_needs_13 (by decide) rfl (fun _ => ?_) (fun hc => absurd hc (by decide))
  refine g_iconst (v := 0) (pc' := 19) dX12_needs_18 (by decide) rfl ?_
  refine g_istore_n (L' := [(0, .ref 189), (1, .int (nI m)), (2, .int (nI i)), (3, .int 0)]) (pc' := 20) dX12_needs_19 (by decide) rfl rfl ?_
  have loop : ∀ (j o : Nat) (M2 : Nat → Nat → Int32), z + o + j = 10 → (∀ a, ¬ tmpR a → M2 a = M a) → Go mX12_needs 30 0 0 20 [(0, .ref 189), (1, .int (nI m)), (2, .int (nI i)), (3, .int (nI o))] [] (SK, M2, N) (RQ M N (match firstIx (ndC P n k m i) (z + o) j with | none => -4 | some h => nI (h - z)) ((n, k, P, pa), kp, tp, sh)) := by
    intro j
    induction j with
    | zero =>
      intro o M2 ho hf
      have hP2 : ∀ j, j < 47 → M2 190 j = P j := fun j hj => by rw [hf 190 (by unfold tmpR; omega)]; exact hP j hj
      refine g_iload_n (j := 3) (pc' := 21) dX12_needs_20 rfl rfl ?_
      refine g_bipush (v := 9) (pc' := 23) dX12_needs_21 (by decide) rfl ?_
      refine g_aload_n (j := 0) (pc' := 24) dX12_needs_23 rfl rfl ?_
      refine g_getR (pc' := 27) dX12_needs_24 fX12_7 rfl rfl rfl ?_
      refine g_bipush (v := 10) (pc' := 29) dX12_needs_27 (by decide) rfl ?_
      refine g_iload_n (j := 1) (pc' := 30) dX12_needs_29 rfl rfl ?_
      refine g_iadd (pc' := 31) dX12_needs_30 rfl ?_
      refine g_iald (n := 10 + m) (pc' := 32) dX12_needs_31 rfl (nI_addE rfl rfl) (by omega) rfl ?_
      refine g_top (y := nI z) ((hP2 _ (by omega)).trans hz) ?_
      refine g_isub (pc' := 33) dX12_needs_32 rfl ?_
      refine g_top (y := nI (9 - z)) (pk_sub (a := 9) hz9) ?_
      refine g_icmp_gt (tgt := 122) (pc' := 36) dX12_needs_33 (by decide) rfl (fun hc => ?_) (fun hc => (absurd (nI_lt (a := 9 - z) (b := o) (by omega) (by omega)) hc))
      refine g_bipush (v := (-4)) (pc' := 124) dX12_needs_122 (by decide) rfl ?_
      exact g_iret dX12_needs_124 rfl rfl (RQ.tmp hI hf)
    | succ j ih =>
      intro o M2 ho hf
      have hP2 : ∀ j, j < 47 → M2 190 j = P j := fun j hj => by rw [hf 190 (by unfold tmpR; omega)]; exact hP j hj
      refine g_iload_n (j := 3) (pc' := 21) dX12_needs_20 rfl rfl ?_
      refine g_bipush (v := 9) (pc' := 23) dX12_needs_21 (by decide) rfl ?_
      refine g_aload_n (j := 0) (pc' := 24) dX12_needs_23 rfl rfl ?_
      refine g_getR (pc' := 27) dX12_needs_24 fX12_7 rfl rfl rfl ?_
      refine g_bipush (v := 10) (pc' := 29) dX12_needs_27 (by decide) rfl ?_
      refine g_iload_n (j := 1) (pc' := 30) dX12_needs_29 rfl rfl ?_
      refine g_iadd (pc' := 31) dX12_needs_30 rfl ?_
      refine g_iald (n := 10 + m) (pc' := 32) dX12_needs_31 rfl (nI_addE rfl rfl) (by omega) rfl ?_
      refine g_top (y := nI z) ((hP2 _ (by omega)).trans hz) ?_
      refine g_isub (pc' := 33) dX12_needs_32 rfl ?_
      refine g_top (y := nI (9 - z)) (pk_sub (a := 9) hz9) ?_
      refine g_icmp_gt (tgt := 122) (pc' := 36) dX12_needs_33 (by decide) rfl (fun hc => (absurd hc (nI_nlt (a := 9 - z) (b := o) (by omega) (by omega)))) (fun hc => ?_)
      refine g_aload_n (j := 0) (pc' := 37) dX12_needs_36 rfl rfl ?_
      refine g_callV (my := mX12_layAside) (k := 189) (st := []) (av := []) (mcr := 0) (msr := 0) (mc := 0) (ms := 0) (pc' := 40) dX12_needs_37 kX12_layAside wX12_183 rfl ⟨rfl, rfl⟩ rfl (Nat.le_of_ble_eq_true rfl) (by decide) (r_layAside hP2) rfl ?_
      rintro _ _ ⟨M3, rfl, rfl, h3, hf3⟩
      show Go mX12_needs _ _ _ 40 [(0, .ref 189), (1, .int (nI m)), (2, .int (nI i)), (3, .int (nI o))] [] (SK, M3, N) _
      refine g_aload_n (j := 0) (pc' := 41) dX12_needs_40 rfl rfl ?_
      refine g_getR (pc' := 44) dX12_needs_41 fX12_13 rfl rfl rfl ?_
      refine g_bipush (v := 10) (pc' := 46) dX12_needs_44 (by decide) rfl ?_
      refine g_iload_n (j := 1) (pc' := 47) dX12_needs_46 rfl rfl ?_
      refine g_iadd (pc' := 48) dX12_needs_47 rfl ?_
      refine g_dup2 (pc' := 49) dX12_needs_48 rfl rfl rfl ?_
      refine g_iald (n := 10 + m) (pc' := 50) dX12_needs_49 rfl (nI_addE rfl rfl) (by omega) rfl ?_
      refine g_top (y := nI z) ((h3 _ (by omega)).trans hz) ?_
      refine g_iload_n (j := 3) (pc' := 51) dX12_needs_50 rfl rfl ?_
      refine g_iadd (pc' := 52) dX12_needs_51 rfl ?_
      refine g_top (y := nI (z + o)) (nI_add z o) ?_
      refine g_iast (n := 10 + m) (pc' := 53) dX12_needs_52 rfl (nI_addE rfl rfl) (by omega) rfl ?_
      generalize hM4 : (um M3 191 (10 + m) (nI (z + o))) = M4
      have h4 : ∀ j, j < 47 → M4 191 j = (upP P (10 + m) (nI (z + o))) j := fun j hj => by
        rw [← hM4]
        by_cases e : j = 10 + m
        · subst e; rw [um_at, upP_at]
        · rw [um_at2 e, upP_ne e]; exact h3 j hj
      have hok4 := hok.handU hm (q := z + o) (by omega)
      refine g_aload_n (j := 0) (pc' := 54) dX12_needs_53 rfl rfl ?_
      refine g_aload_n (j := 0) (pc' := 55) dX12_needs_54 rfl rfl ?_
      refine g_getR (pc' := 58) dX12_needs_55 fX12_13 rfl rfl rfl ?_
      refine g_aload_n (j := 0) (pc' := 59) dX12_needs_58 rfl rfl ?_
      refine g_getR (pc' := 62) dX12_needs_59 fX12_13 rfl rfl rfl ?_
      refine g_iconst (v := 2) (pc' := 63) dX12_needs_62 (by decide) rfl ?_
      refine g_iald (n := 2) (pc' := 64) dX12_needs_63 rfl rfl (by omega) rfl ?_
      refine g_top (y := P 2) ((h4 2 (by omega)).trans (upP_ne (by omega))) ?_
      refine g_callV (my := mX12_layOff) (k := 189) (st := []) (av := [.ref 191, .int (P 2)]) (mcr := 0) (msr := 0) (mc := 0) (ms := 0) (pc' := 67) dX12_needs_64 kX12_layOff wX12_70 rfl ⟨rfl, rfl⟩ rfl (Nat.le_of_ble_eq_true rfl) (by decide) (r_layOff (c := 191) rfl (by omega) hok4 h4 (P 2)) rfl ?_
      rintro _ _ ⟨M5, rfl, rfl, ho5, hf5⟩
      show Go mX12_needs _ _ _ 67 [(0, .ref 189), (1, .int (nI m)), (2, .int (nI i)), (3, .int (nI o))] [] (SK, M5, N) _
      refine g_aload_n (j := 0) (pc' := 68) dX12_needs_67 rfl rfl ?_
      refine g_aload_n (j := 0) (pc' := 69) dX12_needs_68 rfl rfl ?_
      refine g_getR (pc' := 72) dX12_needs_69 fX12_13 rfl rfl rfl ?_
      refine g_callV (my := mX12_chooses) (k := 189) (st := []) (av := [.ref 191]) (mcr := 0) (msr := 0) (mc := 0) (ms := 0) (pc' := 75) dX12_needs_72 kX12_chooses wX12_74 rfl ⟨rfl, rfl⟩ rfl (Nat.le_of_ble_eq_true rfl) (by decide) (r_chooses (c := 191) (off := offP (upP P (10 + m) (nI (z + o))) (P 2)) rfl (by omega) (by omega) hok4 (fun j hj => by rw [hf5 191 (by omega)]; exact h4 j hj) ho5) rfl ?_
      rintro _ _ ⟨M6, rfl, rfl, hca, -, hf6⟩
      show Go mX12_needs _ _ _ 75 [(0, .ref 189), (1, .int (nI m)), (2, .int (nI i)), (3, .int (nI o))] [.int ((choP (upP P (10 + m) (nI (z + o))) n k (P 2)).1)] (SK, M6, N) _
      have hcm : M6 200 m = optI (-4) ((choP (upP P (10 + m) (nI (z + o))) n k (P 2)).2 m) := hca m hm
      have hf7 : ∀ a, ¬ tmpR a → M6 a = M a := fun a ta => by
        unfold tmpR at ta
        rw [hf6 a (by omega) (by omega), hf5 a (by omega), ← hM4, um_ne (by omega), hf3 a (by omega)]
        exact hf a (by unfold tmpR; omega)
      have hP6 : ∀ j, j < 47 → M6 190 j = P j := fun j hj => by rw [hf7 190 (by unfold tmpR; omega)]; exact hP j hj
      have h9 := ih (o + 1) M6 (by omega) hf7
      refine g_istore (L' := [(0, .ref 189), (1, .int (nI m)), (2, .int (nI i)), (3, .int (nI o)), (4, .int ((choP (upP P (10 + m) (nI (z + o))) n k (P 2)).1))]) (pc' := 77) dX12_needs_75 (by decide) rfl rfl ?_
      refine g_less (L' := [(0, .ref 189), (1, .int (nI m)), (2, .int (nI i)), (3, .int (nI o))]) [0, 1, 2, 3] rfl ?_
      refine g_aload_n (j := 0) (pc' := 78) dX12_needs_77 rfl rfl ?_
      refine g_getR (pc' := 81) dX12_needs_78 fX12_41 rfl rfl rfl ?_
      refine g_iload_n (j := 1) (pc' := 82) dX12_needs_81 rfl rfl ?_
      refine g_iald (n := m) (pc' := 83) dX12_needs_82 rfl rfl (by omega) rfl ?_
      refine g_top (y := optI (-4) ((choP (upP P (10 + m) (nI (z + o))) n k (P 2)).2 m)) (hcm) ?_
      cases hg : (choP (upP P (10 + m) (nI (z + o))) n k (P 2)).2 m with
      | none =>
        have hnd : ndC P n k m i (z + o) = false := by unfold ndC; rw [hg]
        show Go mX12_needs _ _ _ 83 [(0, .ref 189), (1, .int (nI m)), (2, .int (nI i)), (3, .int (nI o))] [.int (-4)] (SK, M6, N) _
        refine g_bipush (v := (-4)) (pc' := 85) dX12_needs_83 (by decide) rfl ?_
        refine g_icmp_eq (tgt := 116) (pc' := 88) dX12_needs_85 (by decide) rfl (fun hc => ?_) (fun hc => (absurd rfl hc))
        refine g_iinc (j := 3) (v := nI (o + 1)) (L' := [(0, .ref 189), (1, .int (nI m)), (2, .int (nI i)), (3, .int (nI (o + 1)))]) (pc' := 119) dX12_needs_116 rfl (nI_1 o) (by decide) rfl rfl ?_
        refine g_goto (tgt := 20) dX12_needs_119 (by decide) ?_
        simp only [firstIx, hnd]
        exact h9
      | some g =>
        have hgk := choP_lt hg
        rw [hg] at hcm
        show Go mX12_needs _ _ _ 83 [(0, .ref 189), (1, .int (nI m)), (2, .int (nI i)), (3, .int (nI o))] [.int (nI g)] (SK, M6, N) _
        refine g_bipush (v := (-4)) (pc' := 85) dX12_needs_83 (by decide) rfl ?_
        refine g_icmp_eq (tgt := 116) (pc' := 88) dX12_needs_85 (by decide) rfl (fun hc => (absurd hc (nI_ne_m4 (by omega)))) (fun hc => ?_)
        refine g_aload_n (j := 0) (pc' := 89) dX12_needs_88 rfl rfl ?_
        refine g_getR (pc' := 92) dX12_needs_89 fX12_7 rfl rfl rfl ?_
        refine g_iload_n (j := 1) (pc' := 93) dX12_needs_92 rfl rfl ?_
        refine g_aload_n (j := 0) (pc' := 94) dX12_needs_93 rfl rfl ?_
        refine g_getR (pc' := 97) dX12_needs_94 fX12_41 rfl rfl rfl ?_
        refine g_iload_n (j := 1) (pc' := 98) dX12_needs_97 rfl rfl ?_
        refine g_iald (n := m) (pc' := 99) dX12_needs_98 rfl rfl (by omega) rfl ?_
        refine g_top (y := nI g) (hcm) ?_
        refine g_callS (my := mX12_valueOf) (st := []) (av := [.ref 190, .int (nI m), .int (nI g)]) (mcr := 0) (msr := 0) (mc := 0) (ms := 0) (pc' := 102) dX12_needs_99 kX12_valueOf wX12_67 rfl (Nat.le_of_ble_eq_true rfl) (by decide) (r_valueOf (c := 190) rfl hok hP6 hm hgk) rfl ?_
        rintro _ _ ⟨rfl, rfl⟩
        show Go mX12_needs _ _ _ 102 [(0, .ref 189), (1, .int (nI m)), (2, .int (nI i)), (3, .int (nI o))] [.int (valP P m g)] (SK, M6, N) _
        refine g_aload_n (j := 0) (pc' := 103) dX12_needs_102 rfl rfl ?_
        refine g_getR (pc' := 106) dX12_needs_103 fX12_7 rfl rfl rfl ?_
        refine g_iload_n (j := 1) (pc' := 107) dX12_needs_106 rfl rfl ?_
        refine g_iload_n (j := 2) (pc' := 108) dX12_needs_107 rfl rfl ?_
        refine g_callS (my := mX12_valueOf) (st := [.int (valP P m g)]) (av := [.ref 190, .int (nI m), .int (nI i)]) (mcr := 0) (msr := 0) (mc := 0) (ms := 0) (pc' := 111) dX12_needs_108 kX12_valueOf wX12_67 rfl (Nat.le_of_ble_eq_true rfl) (by decide) (r_valueOf (c := 190) rfl hok hP6 hm hi) rfl ?_
        rintro _ _ ⟨rfl, rfl⟩
        show Go mX12_needs _ _ _ 111 [(0, .ref 189), (1, .int (nI m)), (2, .int (nI i)), (3, .int (nI o))] [.int (valP P m i), .int (valP P m g)] (SK, M6, N) _
        refine g_icmp_lt (tgt := 116) (pc' := 114) dX12_needs_111 (by decide) rfl (fun hc2 => ?_) (fun hc2 => ?_)
        · have hnd : ndC P n k m i (z + o) = false := by unfold ndC; rw [hg]; exact decide_eq_false (Int32.not_le.mpr hc2)
          refine g_iinc (j := 3) (v := nI (o + 1)) (L' := [(0, .ref 189), (1, .int (nI m)), (2, .int (nI i)), (3, .int (nI (o + 1)))]) (pc' := 119) dX12_needs_116 rfl (nI_1 o) (by decide) rfl rfl ?_
          refine g_goto (tgt := 20) dX12_needs_119 (by decide) ?_
          simp only [firstIx, hnd]
          exact h9
        · have hnd : ndC P n k m i (z + o) = true := by unfold ndC; rw [hg]; exact decide_eq_true (Int32.not_lt.mp hc2)
          simp only [firstIx, hnd, if_true, Nat.add_sub_cancel_left]
          refine g_iload_n (j := 3) (pc' := 115) dX12_needs_114 rfl rfl ?_
          exact g_iret dX12_needs_115 rfl rfl (RQ.tmp hI hf7)
  unfold ndV
  exact loop (10 - z) 0 M (by omega) (fun _ _ => rfl)
theorem fldS_ge {P : Nat → Int32} {n k m : Nat} : ∀ s, (-1000000 : Int32) ≤ (fldS P n k m s).2
  | 0 => by show (-1000000 : Int32) ≤ -1000000; decide
  | s + 1 => by
    have ih := fldS_ge (P := P) (n := n) (k := k) (m := m) s
    cases hg : (choP P n k (nI s)).2 m with
    | none => rw [fldS_none hg]; exact ih
    | some g =>
      rw [fldS_some hg]
      split
      · rename_i h; exact Int32.le_trans ih (Int32.le_of_lt h)
      · exact ih
set_option maxRecDepth 100000 in
set_option maxHeartbeats 1000000 in
theorem r_field_b {M : Nat → Nat → Int32} {N : Nat → Nat → Int64} {n k : Nat} {P : Nat → Int32} {pa : List (Nat → Int32)} {kp : Option YS} {tp : List Int32} {sh : Nat → Option (Nat × Nat × (Nat → Int64))} (hA : AOk ((n, k, P, pa), kp, tp, sh)) (hI : RI M N ((n, k, P, pa), kp, tp, sh)) {v : Int32} (h1 : ∀ m, m < n → v ≠ nI m) : Run mX12_field 30 0 0 [.ref 189, .int v] (SK, M, N) (RQ M N (-1) ((n, k, P, pa), kp, tp, sh)) := by
  refine Run.of (by decide) (Nat.le_of_ble_eq_true rfl) ?_
  have hok : OkP n k P := hA.1.1.1
  have hP : ∀ j, j < 47 → M 190 j = P j := hI.1.1
  have hn6 := hok.1
  have hk6 := hok.2.1
  have hn : M 190 0 = nI n := (hP 0 (by omega)).trans hok.2.2.1
  have hk : M 190 1 = nI k := (hP 1 (by omega)).trans hok.2.2.2.1
  refine g_aload_n (j := 0) (pc' := 1) dX12_field_0 rfl rfl ?_
  refine g_iload_n (j := 1) (pc' := 2) dX12_field_1 rfl rfl ?_
  refine g_callV (my := mX12_isMan) (k := 189) (st := []) (av := [.int v]) (mcr := 0) (msr := 0) (mc := 0) (ms := 0) (pc' := 5) dX12_field_2 kX12_isMan wX12_84 rfl ⟨rfl, rfl⟩ rfl (Nat.le_of_ble_eq_true rfl) (by decide) (s_isMan0 hn hn6 (h1)) rfl ?_
  rintro _ _ ⟨rfl, rfl⟩
  show Go mX12_field _ _ _ 5 [(0, .ref 189), (1, .int v)] [.int 0] (SK, M, N) _
  refine g_if_ne (tgt := 10) (pc' := 8) dX12_field_5 (by decide) rfl (fun hc => absurd rfl hc) (fun _ => ?_)
  refine g_iconst (v := (-1)) (pc' := 9) dX12_field_8 (by decide) rfl ?_
  exact g_iret dX12_field_9 rfl rfl (RQ.same hI)
set_option maxRecDepth 100000 in
set_option maxHeartbeats 1000000 in
theorem r_field {M : Nat → Nat → Int32} {N : Nat → Nat → Int64} {n k : Nat} {P : Nat → Int32} {pa : List (Nat → Int32)} {kp : Option YS} {tp : List Int32} {sh : Nat → Option (Nat × Nat × (Nat → Int64))} (hA : AOk ((n, k, P, pa), kp, tp, sh)) (hI : RI M N ((n, k, P, pa), kp, tp, sh)) {m : Nat} (hm : m < n) : Run mX12_field 30 0 0 [.ref 189, .int (nI m)] (SK, M, N) (RQ M N (nI (fldS P n k m 21).1) ((n, k, P, pa), kp, tp, sh)) := by
  refine Run.of (by decide) (Nat.le_of_ble_eq_true rfl) ?_
  have hok : OkP n k P := hA.1.1.1
  have hP : ∀ j, j < 47 → M 190 j = P j := hI.1.1
  have hn6 := hok.1
  have hk6 := hok.2.1
  have hn : M 190 0 = nI n := (hP 0 (by omega)).trans hok.2.2.1
  have hk : M 190 1 = nI k := (hP 1 (by omega)).trans hok.2.2.2.1
  refine g_aload_n (j := 0) (pc' := 1) dX12_field_0 rfl rfl ?_
  refine g_iload_n (j := 1) (pc' := 2) dX12_field_1 rfl rfl ?_
  refine g_callV (my := mX12_isMan) (k := 189) (st := []) (av := [.int (nI m)]) (mcr := 0) (msr := 0) (mc := 0) (ms := 0) (pc' := 5) dX12_field_2 kX12_isMan wX12_84 rfl ⟨rfl, rfl⟩ rfl (Nat.le_of_ble_eq_true rfl) (by decide) (s_isMan1 hn hn6 (hm)) rfl ?_
  rintro _ _ ⟨rfl, rfl⟩
  show Go mX12_field _ _ _ 5 [(0, .ref 189), (1, .int (nI m))] [.int 1] (SK, M, N) _
  refine g_if_ne (tgt := 10) (pc' := 8) dX12_field_5 (by decide) rfl (fun _ => ?_) (fun hc => absurd hc (by decide))
  refine g_iconst (v := 0) (pc' := 11) dX12_field_10 (by decide) rfl ?_
  refine g_istore_n (L' := [(0, .ref 189), (1, .int (nI m)), (2, .int 0)]) (pc' := 12) dX12_field_11 (by decide) rfl rfl ?_
  refine g_ldc (v := (-1000000)) (pc' := 14) dX12_field_12 qX12_193 rfl ?_
  refine g_istore_n (L' := [(0, .ref 189), (1, .int (nI m)), (2, .int 0), (3, .int (-1000000))]) (pc' := 15) dX12_field_14 (by decide) rfl rfl ?_
  refine g_iconst (v := 0) (pc' := 16) dX12_field_15 (by decide) rfl ?_
  refine g_istore (L' := [(0, .ref 189), (1, .int (nI m)), (2, .int 0), (3, .int (-1000000)), (4, .int 0)]) (pc' := 18) dX12_field_16 (by decide) rfl rfl ?_
  have loop : ∀ (e j s : Nat) (M2 : Nat → Nat → Int32), e = 21 → s + j = e → (∀ a, ¬ tmpR a → M2 a = M a) → Go mX12_field 30 0 0 18 [(0, .ref 189), (1, .int (nI m)), (2, .int (nI (fldS P n k m s).1)), (3, .int (fldS P n k m s).2), (4, .int (nI s))] [] (SK, M2, N) (RQ M N (nI (fldS P n k m e).1) ((n, k, P, pa), kp, tp, sh)) := by
    intro e j
    induction j with
    | zero =>
      intro s M2 he hs hf
      refine g_iload (j := 4) (pc' := 20) dX12_field_18 rfl rfl ?_
      refine g_bipush (v := 21) (pc' := 22) dX12_field_20 (by decide) rfl ?_
      refine g_icmp_ge (tgt := 109) (pc' := 25) dX12_field_22 (by decide) rfl (fun hc => ?_) (fun hc => (absurd (nI_le (a := 21) (b := s) (by omega) (by omega)) hc))
      obtain rfl : s = e := by omega
      refine g_iload_n (j := 2) (pc' := 110) dX12_field_109 rfl rfl ?_
      exact g_iret dX12_field_110 rfl rfl (RQ.tmp hI hf)
    | succ j ih =>
      intro s M2 he hs hf
      refine g_iload (j := 4) (pc' := 20) dX12_field_18 rfl rfl ?_
      refine g_bipush (v := 21) (pc' := 22) dX12_field_20 (by decide) rfl ?_
      refine g_icmp_ge (tgt := 109) (pc' := 25) dX12_field_22 (by decide) rfl (fun hc => (absurd hc (nI_ge (a := s) (b := 21) (by omega) (by omega)))) (fun hc => ?_)
      have hP2 : ∀ j, j < 47 → M2 190 j = P j := fun j hj => by rw [hf 190 (by unfold tmpR; omega)]; exact hP j hj
      refine g_aload_n (j := 0) (pc' := 26) dX12_field_25 rfl rfl ?_
      refine g_aload_n (j := 0) (pc' := 27) dX12_field_26 rfl rfl ?_
      refine g_getR (pc' := 30) dX12_field_27 fX12_7 rfl rfl rfl ?_
      refine g_iload (j := 4) (pc' := 32) dX12_field_30 rfl rfl ?_
      refine g_callV (my := mX12_layOff) (k := 189) (st := []) (av := [.ref 190, .int (nI s)]) (mcr := 0) (msr := 0) (mc := 0) (ms := 0) (pc' := 35) dX12_field_32 kX12_layOff wX12_70 rfl ⟨rfl, rfl⟩ rfl (Nat.le_of_ble_eq_true rfl) (by decide) (r_layOff (c := 190) rfl (by omega) hok hP2 (nI s)) rfl ?_
      rintro _ _ ⟨M5, rfl, rfl, ho5, hf5⟩
      show Go mX12_field _ _ _ 35 [(0, .ref 189), (1, .int (nI m)), (2, .int (nI ((fldS P n k m s).1))), (3, .int ((fldS P n k m s).2)), (4, .int (nI s))] [] (SK, M5, N) _
      refine g_aload_n (j := 0) (pc' := 36) dX12_field_35 rfl rfl ?_
      refine g_aload_n (j := 0) (pc' := 37) dX12_field_36 rfl rfl ?_
      refine g_getR (pc' := 40) dX12_field_37 fX12_7 rfl rfl rfl ?_
      refine g_callV (my := mX12_chooses) (k := 189) (st := []) (av := [.ref 190]) (mcr := 0) (msr := 0) (mc := 0) (ms := 0) (pc' := 43) dX12_field_40 kX12_chooses wX12_74 rfl ⟨rfl, rfl⟩ rfl (Nat.le_of_ble_eq_true rfl) (by decide) (r_chooses (c := 190) (off := offP P (nI s)) rfl (by omega) (by omega) hok (fun j hj => by rw [hf5 190 (by omega)]; exact hP2 j hj) ho5) rfl ?_
      rintro _ _ ⟨M6, rfl, rfl, hca, -, hf6⟩
      show Go mX12_field _ _ _ 43 [(0, .ref 189), (1, .int (nI m)), (2, .int (nI ((fldS P n k m s).1))), (3, .int ((fldS P n k m s).2)), (4, .int (nI s))] [.int ((choP P n k (nI s)).1)] (SK, M6, N) _
      have hcm : M6 200 m = optI (-4) ((choP P n k (nI s)).2 m) := hca m hm
      have hf7 : ∀ a, ¬ tmpR a → M6 a = M a := fun a ta => by
        unfold tmpR at ta
        rw [hf6 a (by omega) (by omega), hf5 a (by omega)]
        exact hf a (by unfold tmpR; omega)
      have hP6 : ∀ j, j < 47 → M6 190 j = P j := fun j hj => by rw [hf7 190 (by unfold tmpR; omega)]; exact hP j hj
      have h9 := ih (s + 1) M6 he (by omega) hf7
      refine g_istore (L' := [(0, .ref 189), (1, .int (nI m)), (2, .int (nI ((fldS P n k m s).1))), (3, .int ((fldS P n k m s).2)), (4, .int (nI s)), (5, .int ((choP P n k (nI s)).1))]) (pc' := 45) dX12_field_43 (by decide) rfl rfl ?_
      refine g_less (L' := [(0, .ref 189), (1, .int (nI m)), (2, .int (nI ((fldS P n k m s).1))), (3, .int ((fldS P n k m s).2)), (4, .int (nI s))]) [0, 1, 2, 3, 4] rfl ?_
      refine g_aload_n (j := 0) (pc' := 46) dX12_field_45 rfl rfl ?_
      refine g_getR (pc' := 49) dX12_field_46 fX12_41 rfl rfl rfl ?_
      refine g_iload_n (j := 1) (pc' := 50) dX12_field_49 rfl rfl ?_
      refine g_iald (n := m) (pc' := 51) dX12_field_50 rfl rfl (by omega) rfl ?_
      refine g_top (y := optI (-4) ((choP P n k (nI s)).2 m)) (hcm) ?_
      cases hg : (choP P n k (nI s)).2 m with
      | none =>
        rw [fldS_none hg] at h9
        show Go mX12_field _ _ _ 51 [(0, .ref 189), (1, .int (nI m)), (2, .int (nI ((fldS P n k m s).1))), (3, .int ((fldS P n k m s).2)), (4, .int (nI s))] [.int (-4)] (SK, M6, N) _
        refine g_bipush (v := (-4)) (pc' := 53) dX12_field_51 (by decide) rfl ?_
        refine g_icmp_ne (tgt := 61) (pc' := 56) dX12_field_53 (by decide) rfl (fun hc => (absurd rfl hc)) (fun hc => ?_)
        refine g_ldc (v := (-1000000)) (pc' := 58) dX12_field_56 qX12_193 rfl ?_
        refine g_goto (tgt := 75) dX12_field_58 (by decide) ?_
        refine g_istore (L' := [(0, .ref 189), (1, .int (nI m)), (2, .int (nI ((fldS P n k m s).1))), (3, .int ((fldS P n k m s).2)), (4, .int (nI s)), (6, .int (-1000000))]) (pc' := 77) dX12_field_75 (by decide) rfl rfl ?_
        refine g_iload (j := 5) (pc' := 79) dX12_field_77 rfl rfl ?_
        refine g_iload_n (j := 3) (pc' := 80) dX12_field_79 rfl rfl ?_
        refine g_icmp_le (tgt := 88) (pc' := 83) dX12_field_80 (by decide) rfl (fun hc => ?_) (fun hc => (absurd (fldS_ge s) hc))
        refine g_iload_n (j := 2) (pc' := 89) dX12_field_88 rfl rfl ?_
        refine g_istore_n (L' := [(0, .ref 189), (1, .int (nI m)), (2, .int (nI ((fldS P n k m s).1))), (3, .int ((fldS P n k m s).2)), (4, .int (nI s)), (6, .int (-1000000))]) (pc' := 90) dX12_field_89 (by decide) rfl rfl ?_
        refine g_iload (j := 5) (pc' := 92) dX12_field_90 rfl rfl ?_
        refine g_iload_n (j := 3) (pc' := 93) dX12_field_92 rfl rfl ?_
        refine g_icmp_le (tgt := 101) (pc' := 96) dX12_field_93 (by decide) rfl (fun hc => ?_) (fun hc => (absurd (fldS_ge s) hc))
        refine g_iload_n (j := 3) (pc' := 102) dX12_field_101 rfl rfl ?_
        refine g_istore_n (L' := [(0, .ref 189), (1, .int (nI m)), (2, .int (nI ((fldS P n k m s).1))), (3, .int ((fldS P n k m s).2)), (4, .int (nI s)), (6, .int (-1000000))]) (pc' := 103) dX12_field_102 (by decide) rfl rfl ?_
        refine g_iinc (j := 4) (v := nI (s + 1)) (L' := [(0, .ref 189), (1, .int (nI m)), (2, .int (nI ((fldS P n k m s).1))), (3, .int ((fldS P n k m s).2)), (4, .int (nI (s + 1))), (6, .int (-1000000))]) (pc' := 106) dX12_field_103 rfl (nI_1 s) (by decide) rfl rfl ?_
        refine g_less (L' := [(0, .ref 189), (1, .int (nI m)), (2, .int (nI ((fldS P n k m s).1))), (3, .int ((fldS P n k m s).2)), (4, .int (nI (s + 1)))]) [0, 1, 2, 3, 4] rfl ?_
        refine g_goto (tgt := 18) dX12_field_106 (by decide) ?_
        exact h9
      | some g =>
        have hgk := choP_lt hg
        rw [hg] at hcm
        rw [fldS_some hg] at h9
        show Go mX12_field _ _ _ 51 [(0, .ref 189), (1, .int (nI m)), (2, .int (nI ((fldS P n k m s).1))), (3, .int ((fldS P n k m s).2)), (4, .int (nI s))] [.int (nI g)] (SK, M6, N) _
        refine g_bipush (v := (-4)) (pc' := 53) dX12_field_51 (by decide) rfl ?_
        refine g_icmp_ne (tgt := 61) (pc' := 56) dX12_field_53 (by decide) rfl (fun hc => ?_) (fun hc => (absurd hc (nI_ne_m4 (by omega))))
        refine g_aload_n (j := 0) (pc' := 62) dX12_field_61 rfl rfl ?_
        refine g_getR (pc' := 65) dX12_field_62 fX12_7 rfl rfl rfl ?_
        refine g_iload_n (j := 1) (pc' := 66) dX12_field_65 rfl rfl ?_
        refine g_aload_n (j := 0) (pc' := 67) dX12_field_66 rfl rfl ?_
        refine g_getR (pc' := 70) dX12_field_67 fX12_41 rfl rfl rfl ?_
        refine g_iload_n (j := 1) (pc' := 71) dX12_field_70 rfl rfl ?_
        refine g_iald (n := m) (pc' := 72) dX12_field_71 rfl rfl (by omega) rfl ?_
        refine g_top (y := nI g) (hcm) ?_
        refine g_callS (my := mX12_valueOf) (st := []) (av := [.ref 190, .int (nI m), .int (nI g)]) (mcr := 0) (msr := 0) (mc := 0) (ms := 0) (pc' := 75) dX12_field_72 kX12_valueOf wX12_67 rfl (Nat.le_of_ble_eq_true rfl) (by decide) (r_valueOf (c := 190) rfl hok hP6 hm hgk) rfl ?_
        rintro _ _ ⟨rfl, rfl⟩
        show Go mX12_field _ _ _ 75 [(0, .ref 189), (1, .int (nI m)), (2, .int (nI ((fldS P n k m s).1))), (3, .int ((fldS P n k m s).2)), (4, .int (nI s))] [.int (valP P m g)] (SK, M6, N) _
        refine g_istore (L' := [(0, .ref 189), (1, .int (nI m)), (2, .int (nI ((fldS P n k m s).1))), (3, .int ((fldS P n k m s).2)), (4, .int (nI s)), (6, .int (valP P m g))]) (pc' := 77) dX12_field_75 (by decide) rfl rfl ?_
        refine g_iload (j := 5) (pc' := 79) dX12_field_77 rfl rfl ?_
        refine g_iload_n (j := 3) (pc' := 80) dX12_field_79 rfl rfl ?_
        refine g_icmp_le (tgt := 88) (pc' := 83) dX12_field_80 (by decide) rfl (fun hc5 => ?_) (fun hc5 => ?_)
        · rw [if_neg (Int32.not_lt.mpr hc5)] at h9
          refine g_iload_n (j := 2) (pc' := 89) dX12_field_88 rfl rfl ?_
          refine g_istore_n (L' := [(0, .ref 189), (1, .int (nI m)), (2, .int (nI ((fldS P n k m s).1))), (3, .int ((fldS P n k m s).2)), (4, .int (nI s)), (6, .int (valP P m g))]) (pc' := 90) dX12_field_89 (by decide) rfl rfl ?_
          refine g_iload (j := 5) (pc' := 92) dX12_field_90 rfl rfl ?_
          refine g_iload_n (j := 3) (pc' := 93) dX12_field_92 rfl rfl ?_
          refine g_icmp_le (tgt := 101) (pc' := 96) dX12_field_93 (by decide) rfl (fun hc => ?_) (fun hc => (absurd hc5 hc))
          refine g_iload_n (j := 3) (pc' := 102) dX12_field_101 rfl rfl ?_
          refine g_istore_n (L' := [(0, .ref 189), (1, .int (nI m)), (2, .int (nI ((fldS P n k m s).1))), (3, .int ((fldS P n k m s).2)), (4, .int (nI s)), (6, .int (valP P m g))]) (pc' := 103) dX12_field_102 (by decide) rfl rfl ?_
          refine g_iinc (j := 4) (v := nI (s + 1)) (L' := [(0, .ref 189), (1, .int (nI m)), (2, .int (nI ((fldS P n k m s).1))), (3, .int ((fldS P n k m s).2)), (4, .int (nI (s + 1))), (6, .int (valP P m g))]) (pc' := 106) dX12_field_103 rfl (nI_1 s) (by decide) rfl rfl ?_
          refine g_less (L' := [(0, .ref 189), (1, .int (nI m)), (2, .int (nI ((fldS P n k m s).1))), (3, .int ((fldS P n k m s).2)), (4, .int (nI (s + 1)))]) [0, 1, 2, 3, 4] rfl ?_
          refine g_goto (tgt := 18) dX12_field_106 (by decide) ?_
          exact h9
        · rw [if_pos (Int32.not_le.mp hc5)] at h9
          refine g_iload (j := 4) (pc' := 85) dX12_field_83 rfl rfl ?_
          refine g_goto (tgt := 89) dX12_field_85 (by decide) ?_
          refine g_istore_n (L' := [(0, .ref 189), (1, .int (nI m)), (2, .int (nI s)), (3, .int ((fldS P n k m s).2)), (4, .int (nI s)), (6, .int (valP P m g))]) (pc' := 90) dX12_field_89 (by decide) rfl rfl ?_
          refine g_iload (j := 5) (pc' := 92) dX12_field_90 rfl rfl ?_
          refine g_iload_n (j := 3) (pc' := 93) dX12_field_92 rfl rfl ?_
          refine g_icmp_le (tgt := 101) (pc' := 96) dX12_field_93 (by decide) rfl (fun hc => (absurd hc hc5)) (fun hc => ?_)
          refine g_iload (j := 5) (pc' := 98) dX12_field_96 rfl rfl ?_
          refine g_goto (tgt := 102) dX12_field_98 (by decide) ?_
          refine g_istore_n (L' := [(0, .ref 189), (1, .int (nI m)), (2, .int (nI s)), (3, .int (valP P m g)), (4, .int (nI s)), (6, .int (valP P m g))]) (pc' := 103) dX12_field_102 (by decide) rfl rfl ?_
          refine g_iinc (j := 4) (v := nI (s + 1)) (L' := [(0, .ref 189), (1, .int (nI m)), (2, .int (nI s)), (3, .int (valP P m g)), (4, .int (nI (s + 1))), (6, .int (valP P m g))]) (pc' := 106) dX12_field_103 rfl (nI_1 s) (by decide) rfl rfl ?_
          refine g_less (L' := [(0, .ref 189), (1, .int (nI m)), (2, .int (nI s)), (3, .int (valP P m g)), (4, .int (nI (s + 1)))]) [0, 1, 2, 3, 4] rfl ?_
          refine g_goto (tgt := 18) dX12_field_106 (by decide) ?_
          exact h9
  exact loop 21 21 0 M rfl (by omega) (fun _ _ => rfl)
