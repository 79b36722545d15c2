theorem YR.goes {M M' : Nat → Nat → Int32} {t n k : Nat} {P P' : Nat → Int32} {pa : List (Nat → Int32)} (h : YR M t (n, k, P, pa)) (h1 : ∀ j, j < 47 → M' t j = P' j) (h2 : ∀ j, 47 ≤ j → M' t j = M t j) : YR M' t (n, k, P', pa) := by
  obtain ⟨-, g2, g3⟩ := h
  exact ⟨h1, by rw [h2 47 (by omega)]; exact g2, fun i Q hi => ⟨fun j hj => by rw [h2 _ (by omega)]; exact (g3 i Q hi).1 j hj, by rw [h2 _ (by omega)]; exact (g3 i Q hi).2⟩⟩
set_option maxRecDepth 100000 in
set_option maxHeartbeats 1000000 in
theorem r_marches_b {M : Nat → Nat → Int32} {N : Nat → Nat → Int64} {n k : Nat} {P : Nat → Int32} {pa : List (Nat → Int32)} {kp : Option YS} {tp : List Int32} {sh : Nat → Option (Nat × Nat × (Nat → Int64))} (hA : AOk ((n, k, P, pa), kp, tp, sh)) (hI : RI M N ((n, k, P, pa), kp, tp, sh)) {v : Int32} (h1 : v < 1 ∨ 40 < v) : Run mX12_marches 30 0 0 [.ref 189, .int v] (SK, M, N) (RQ M N (-1) ((n, k, P, pa), kp, tp, sh)) := by
  refine Run.of (by decide) (Nat.le_of_ble_eq_true rfl) ?_
  have hok : OkP n k P := hA.1.1.1
  have hP : ∀ j, j < 47 → M 190 j = P j := hI.1.1
  have hn6 := hok.1
  have hk6 := hok.2.1
  have hn : M 190 0 = nI n := (hP 0 (by omega)).trans hok.2.2.1
  have hk : M 190 1 = nI k := (hP 1 (by omega)).trans hok.2.2.2.1
  refine g_iload_n (j := 1) (pc' := 1) dX12_marches_0 rfl rfl ?_
  refine g_i2l (pc' := 2) dX12_marches_1 rfl ?_
  refine g_lconst (v := 1) (pc' := 3) dX12_marches_2 (by decide) rfl ?_
  refine g_ldc2 (v := 40) (pc' := 6) dX12_marches_3 qX12_166 rfl ?_
  refine g_callS (my := mX12_in) (st := []) (av := [.long (Int32.toInt64 v), .long 1, .long 40]) (mcr := 0) (msr := 0) (mc := 0) (ms := 0) (pc' := 9) dX12_marches_6 kX12_in wX12_55 rfl (Nat.le_of_ble_eq_true rfl) (by decide) (r_in0 (lo := 1) (hi := 40) (by decide) (by decide) (h1)) rfl ?_
  rintro _ _ ⟨rfl, rfl⟩
  show Go mX12_marches _ _ _ 9 [(0, .ref 189), (1, .int v)] [.int 0] (SK, M, N) _
  refine g_if_ne (tgt := 14) (pc' := 12) dX12_marches_9 (by decide) rfl (fun hc => absurd rfl hc) (fun _ => ?_)
  refine g_iconst (v := (-1)) (pc' := 13) dX12_marches_12 (by decide) rfl ?_
  exact g_iret dX12_marches_13 rfl rfl (RQ.same hI)
set_option maxRecDepth 100000 in
set_option maxHeartbeats 1000000 in
theorem r_marches_f {M : Nat → Nat → Int32} {N : Nat → Nat → Int64} {n k : Nat} {P : Nat → Int32} {pa : List (Nat → Int32)} {kp : Option YS} {tp : List Int32} {sh : Nat → Option (Nat × Nat × (Nat → Int64))} (hA : AOk ((n, k, P, pa), kp, tp, sh)) (hI : RI M N ((n, k, P, pa), kp, tp, sh)) {t r : Nat} (ht1 : 1 ≤ t) (ht40 : t ≤ 40) (h3 : P 3 = nI r) (hr : r ≤ 9999) (hb : 9999 < r + t) : Run mX12_marches 30 0 0 [.ref 189, .int (nI t)] (SK, M, N) (RQ M N (-3) ((n, k, P, pa), kp, tp, sh)) := by
  refine Run.of (by decide) (Nat.le_of_ble_eq_true rfl) ?_
  have hok : OkP n k P := hA.1.1.1
  have hP : ∀ j, j < 47 → M 190 j = P j := hI.1.1
  have hn6 := hok.1
  have hk6 := hok.2.1
  have hn : M 190 0 = nI n := (hP 0 (by omega)).trans hok.2.2.1
  have hk : M 190 1 = nI k := (hP 1 (by omega)).trans hok.2.2.2.1
  refine g_iload_n (j := 1) (pc' := 1) dX12_marches_0 rfl rfl ?_
  refine g_i2l (pc' := 2) dX12_marches_1 rfl ?_
  refine g_lconst (v := 1) (pc' := 3) dX12_marches_2 (by decide) rfl ?_
  refine g_ldc2 (v := 40) (pc' := 6) dX12_marches_3 qX12_166 rfl ?_
  refine g_callS (my := mX12_in) (st := []) (av := [.long (Int32.toInt64 (nI t)), .long 1, .long 40]) (mcr := 0) (msr := 0) (mc := 0) (ms := 0) (pc' := 9) dX12_marches_6 kX12_in wX12_55 rfl (Nat.le_of_ble_eq_true rfl) (by decide) (r_in1 (lo := 1) (hi := 40) (by decide) (by decide) (not_rng1 ht1 ht40)) rfl ?_
  rintro _ _ ⟨rfl, rfl⟩
  show Go mX12_marches _ _ _ 9 [(0, .ref 189), (1, .int (nI t))] [.int 1] (SK, M, N) _
  refine g_if_ne (tgt := 14) (pc' := 12) dX12_marches_9 (by decide) rfl (fun _ => ?_) (fun hc => absurd hc (by decide))
  refine g_aload_n (j := 0) (pc' := 15) dX12_marches_14 rfl rfl ?_
  refine g_getR (pc' := 18) dX12_marches_15 fX12_7 rfl rfl rfl ?_
  refine g_iconst (v := 3) (pc' := 19) dX12_marches_18 (by decide) rfl ?_
  refine g_iald (n := 3) (pc' := 20) dX12_marches_19 rfl rfl (by omega) rfl ?_
  refine g_top (y := P 3) (hP 3 (by omega)) ?_
  refine g_iload_n (j := 1) (pc' := 21) dX12_marches_20 rfl rfl ?_
  refine g_iadd (pc' := 22) dX12_marches_21 rfl ?_
  refine g_top (y := nI (r + t)) (nI_addE h3 rfl) ?_
  refine g_sipush (v := 9999) (pc' := 25) dX12_marches_22 (by decide) rfl ?_
  refine g_icmp_le (tgt := 31) (pc' := 28) dX12_marches_25 (by decide) rfl (fun hc => (absurd hc (nI_ge (a := 9999) (b := r + t) hb (by omega)))) (fun hc => ?_)
  refine g_bipush (v := (-3)) (pc' := 30) dX12_marches_28 (by decide) rfl ?_
  exact g_iret dX12_marches_30 rfl rfl (RQ.same hI)
set_option maxRecDepth 100000 in
set_option maxHeartbeats 1000000 in
theorem r_marches {M : Nat → Nat → Int32} {N : Nat → Nat → Int64} {n k : Nat} {P : Nat → Int32} {pa : List (Nat → Int32)} {kp : Option YS} {tp : List Int32} {sh : Nat → Option (Nat × Nat × (Nat → Int64))} (hA : AOk ((n, k, P, pa), kp, tp, sh)) (hI : RI M N ((n, k, P, pa), kp, tp, sh)) {t r : Nat} (ht1 : 1 ≤ t) (ht40 : t ≤ 40) (h3 : P 3 = nI r) (hb : r + t ≤ 9999) : Run mX12_marches 30 0 0 [.ref 189, .int (nI t)] (SK, M, N) (RQ M N (cnt4 (marS n k P pa t).1 n) ((n, k, (marS n k P pa t).1, (marS n k P pa t).2), kp, tp, sh)) := by
  refine Run.of (by decide) (Nat.le_of_ble_eq_true rfl) ?_
  have hok : OkP n k P := hA.1.1.1
  have hP : ∀ j, j < 47 → M 190 j = P j := hI.1.1
  have hn6 := hok.1
  have hk6 := hok.2.1
  have hn : M 190 0 = nI n := (hP 0 (by omega)).trans hok.2.2.1
  have hk : M 190 1 = nI k := (hP 1 (by omega)).trans hok.2.2.2.1
  refine g_iload_n (j := 1) (pc' := 1) dX12_marches_0 rfl rfl ?_
  refine g_i2l (pc' := 2) dX12_marches_1 rfl ?_
  refine g_lconst (v := 1) (pc' := 3) dX12_marches_2 (by decide) rfl ?_
  refine g_ldc2 (v := 40) (pc' := 6) dX12_marches_3 qX12_166 rfl ?_
  refine g_callS (my := mX12_in) (st := []) (av := [.long (Int32.toInt64 (nI t)), .long 1, .long 40]) (mcr := 0) (msr := 0) (mc := 0) (ms := 0) (pc' := 9) dX12_marches_6 kX12_in wX12_55 rfl (Nat.le_of_ble_eq_true rfl) (by decide) (r_in1 (lo := 1) (hi := 40) (by decide) (by decide) (not_rng1 ht1 ht40)) rfl ?_
  rintro _ _ ⟨rfl, rfl⟩
  show Go mX12_marches _ _ _ 9 [(0, .ref 189), (1, .int (nI t))] [.int 1] (SK, M, N) _
  refine g_if_ne (tgt := 14) (pc' := 12) dX12_marches_9 (by decide) rfl (fun _ => ?_) (fun hc => absurd hc (by decide))
  refine g_aload_n (j := 0) (pc' := 15) dX12_marches_14 rfl rfl ?_
  refine g_getR (pc' := 18) dX12_marches_15 fX12_7 rfl rfl rfl ?_
  refine g_iconst (v := 3) (pc' := 19) dX12_marches_18 (by decide) rfl ?_
  refine g_iald (n := 3) (pc' := 20) dX12_marches_19 rfl rfl (by omega) rfl ?_
  refine g_top (y := P 3) (hP 3 (by omega)) ?_
  refine g_iload_n (j := 1) (pc' := 21) dX12_marches_20 rfl rfl ?_
  refine g_iadd (pc' := 22) dX12_marches_21 rfl ?_
  refine g_top (y := nI (r + t)) (nI_addE h3 rfl) ?_
  refine g_sipush (v := 9999) (pc' := 25) dX12_marches_22 (by decide) rfl ?_
  refine g_icmp_le (tgt := 31) (pc' := 28) dX12_marches_25 (by decide) rfl (fun hc => ?_) (fun hc => (absurd (nI_le (a := r + t) (b := 9999) hb (by omega)) hc))
  refine g_iconst (v := 0) (pc' := 32) dX12_marches_31 (by decide) rfl ?_
  refine g_istore_n (L' := [(0, .ref 189), (1, .int (nI t)), (2, .int 0)]) (pc' := 33) dX12_marches_32 (by decide) rfl rfl ?_
  have loop : ∀ (u j : Nat) (M1 : Nat → Nat → Int32), j + u = t → YR M1 190 (n, k, (marS n k P pa j).1, (marS n k P pa j).2) → (∀ a, ¬ tmpR a → a ≠ 190 → M1 a = M a) → Go mX12_marches 30 0 0 33 [(0, .ref 189), (1, .int (nI t)), (2, .int (nI j))] [] (SK, M1, N) (RQ M N (cnt4 (marS n k P pa t).1 n) ((n, k, (marS n k P pa t).1, (marS n k P pa t).2), kp, tp, sh)) := by
    intro u
    induction u with
    | zero =>
      intro j M1 hj hY hf
      obtain rfl : j = t := by omega
      have hg := (marS_ok hA.1 h3 (t := j) (by omega)).1
      refine g_iload_n (j := 2) (pc' := 34) dX12_marches_33 rfl rfl ?_
      refine g_iload_n (j := 1) (pc' := 35) dX12_marches_34 rfl rfl ?_
      refine g_icmp_ge (tgt := 62) (pc' := 38) dX12_marches_35 (by decide) rfl (fun hc => ?_) (fun hc => (absurd (nI_le (Nat.le_refl _) (by omega)) hc))
      refine g_aload_n (j := 0) (pc' := 63) dX12_marches_62 rfl rfl ?_
      refine g_getR (pc' := 66) dX12_marches_63 fX12_7 rfl rfl rfl ?_
      refine g_callS (my := mX12_calledOf) (st := []) (av := [.ref 190]) (mcr := 0) (msr := 0) (mc := 0) (ms := 0) (pc' := 69) dX12_marches_66 kX12_calledOf wX12_156 rfl (Nat.le_of_ble_eq_true rfl) (by decide) (r_calledOf (c := 190) rfl hn6 ((hY.1 0 (by omega)).trans hg.1.1.2.2.1) hY.1) rfl ?_
      rintro _ _ ⟨rfl, rfl⟩
      show Go mX12_marches _ _ _ 69 [(0, .ref 189), (1, .int (nI j)), (2, .int (nI j))] [.int (cnt4 (marS n k P pa j).1 n)] (SK, M1, N) _
      exact g_iret dX12_marches_69 rfl rfl (RQ.now hI hY hf)
    | succ u ih =>
      intro j M1 hj hY hf
      refine g_iload_n (j := 2) (pc' := 34) dX12_marches_33 rfl rfl ?_
      refine g_iload_n (j := 1) (pc' := 35) dX12_marches_34 rfl rfl ?_
      refine g_icmp_ge (tgt := 62) (pc' := 38) dX12_marches_35 (by decide) rfl (fun hc => (absurd hc (nI_ge (by omega) (by omega)))) (fun hc => ?_)
      have hg := marS_ok hA.1 h3 (t := j) (by omega)
      refine g_aload_n (j := 0) (pc' := 39) dX12_marches_38 rfl rfl ?_
      refine g_callV (my := mX12_remember) (k := 189) (st := []) (av := []) (mcr := 0) (msr := 0) (mc := 0) (ms := 0) (pc' := 42) dX12_marches_39 kX12_remember wX12_168 rfl ⟨rfl, rfl⟩ rfl (Nat.le_of_ble_eq_true rfl) (by decide) (r_remember hg.1.2.1 hY) rfl ?_
      rintro _ _ ⟨M2, rfl, rfl, hY2, hf2⟩
      show Go mX12_marches _ _ _ 42 [(0, .ref 189), (1, .int (nI t)), (2, .int (nI j))] [] (SK, M2, N) _
      refine g_aload_n (j := 0) (pc' := 43) dX12_marches_42 rfl rfl ?_
      refine g_aload_n (j := 0) (pc' := 44) dX12_marches_43 rfl rfl ?_
      refine g_getR (pc' := 47) dX12_marches_44 fX12_7 rfl rfl rfl ?_
      refine g_aload_n (j := 0) (pc' := 48) dX12_marches_47 rfl rfl ?_
      refine g_getR (pc' := 51) dX12_marches_48 fX12_7 rfl rfl rfl ?_
      refine g_iconst (v := 2) (pc' := 52) dX12_marches_51 (by decide) rfl ?_
      refine g_iald (n := 2) (pc' := 53) dX12_marches_52 rfl rfl (by omega) rfl ?_
      refine g_top (y := (marS n k P pa j).1 2) (hY2.1 2 (by omega)) ?_
      refine g_callV (my := mX12_goes) (k := 189) (st := []) (av := [.ref 190, .int ((marS n k P pa j).1 2)]) (mcr := 0) (msr := 0) (mc := 0) (ms := 0) (pc' := 56) dX12_marches_53 kX12_goes wX12_171 rfl ⟨rfl, rfl⟩ rfl (Nat.le_of_ble_eq_true rfl) (by decide) (r_goes (c := 190) rfl (by omega) hg.1.1.1 hY2.1 ((marS n k P pa j).1 2)) rfl ?_
      rintro _ _ ⟨M3, rfl, rfl, h47, h48, hf3⟩
      show Go mX12_marches _ _ _ 56 [(0, .ref 189), (1, .int (nI t)), (2, .int (nI j))] [] (SK, M3, N) _
      refine g_iinc (j := 2) (v := nI (j + 1)) (L' := [(0, .ref 189), (1, .int (nI t)), (2, .int (nI (j + 1)))]) (pc' := 59) dX12_marches_56 rfl (nI_1 j) (by decide) rfl rfl ?_
      refine g_goto (tgt := 33) dX12_marches_59 (by decide) ?_
      exact ih (j + 1) M3 (by omega) (hY2.goes h47 h48) (fun a ta ha => by unfold tmpR at ta; rw [hf3 a ha (by omega) (by omega) (by omega), hf2 a ha]; exact hf a (by unfold tmpR; omega) ha)
  exact loop t 0 M (by omega) hI.1 (fun a _ _ => rfl)
set_option maxRecDepth 100000 in
set_option maxHeartbeats 1000000 in
theorem r_swap_b1 {M : Nat → Nat → Int32} {N : Nat → Nat → Int64} {n k : Nat} {P : Nat → Int32} {pa : List (Nat → Int32)} {kp : Option YS} {tp : List Int32} {sh : Nat → Option (Nat × Nat × (Nat → Int64))} (hA : AOk ((n, k, P, pa), kp, tp, sh)) (hI : RI M N ((n, k, P, pa), kp, tp, sh)) {v : Int32} (u : Int32) (h1 : ∀ m, m < n → v ≠ nI m) : Run mX12_swap 30 0 0 [.ref 189, .int v, .int u] (SK, M, N) (RQ M N (-1) ((n, k, P, pa), kp, tp, sh)) := by
  refine Run.of (by decide) (Nat.le_of_ble_eq_true rfl) ?_
  have hok : OkP n k P := hA.1.1.1
  have hP : ∀ j, j < 47 → M 190 j = P j := hI.1.1
  have hn6 := hok.1
  have hk6 := hok.2.1
  have hn : M 190 0 = nI n := (hP 0 (by omega)).trans hok.2.2.1
  have hk : M 190 1 = nI k := (hP 1 (by omega)).trans hok.2.2.2.1
  refine g_aload_n (j := 0) (pc' := 1) dX12_swap_0 rfl rfl ?_
  refine g_iload_n (j := 1) (pc' := 2) dX12_swap_1 rfl rfl ?_
  refine g_callV (my := mX12_isMan) (k := 189) (st := []) (av := [.int v]) (mcr := 0) (msr := 0) (mc := 0) (ms := 0) (pc' := 5) dX12_swap_2 kX12_isMan wX12_84 rfl ⟨rfl, rfl⟩ rfl (Nat.le_of_ble_eq_true rfl) (by decide) (s_isMan0 hn hn6 (h1)) rfl ?_
  rintro _ _ ⟨rfl, rfl⟩
  show Go mX12_swap _ _ _ 5 [(0, .ref 189), (1, .int v), (2, .int u)] [.int 0] (SK, M, N) _
  refine g_if_eq (tgt := 21) (pc' := 8) dX12_swap_5 (by decide) rfl (fun _ => ?_) (fun hc => absurd rfl hc)
  refine g_iconst (v := (-1)) (pc' := 22) dX12_swap_21 (by decide) rfl ?_
  exact g_iret dX12_swap_22 rfl rfl (RQ.same hI)
set_option maxRecDepth 100000 in
set_option maxHeartbeats 1000000 in
theorem r_swap_b2 {M : Nat → Nat → Int32} {N : Nat → Nat → Int64} {n k : Nat} {P : Nat → Int32} {pa : List (Nat → Int32)} {kp : Option YS} {tp : List Int32} {sh : Nat → Option (Nat × Nat × (Nat → Int64))} (hA : AOk ((n, k, P, pa), kp, tp, sh)) (hI : RI M N ((n, k, P, pa), kp, tp, sh)) {m : Nat} {u : Int32} (hm : m < n) (h1 : ∀ m, m < n → u ≠ nI m) : Run mX12_swap 30 0 0 [.ref 189, .int (nI m), .int u] (SK, M, N) (RQ M N (-1) ((n, k, P, pa), kp, tp, sh)) := by
  refine Run.of (by decide) (Nat.le_of_ble_eq_true rfl) ?_
  have hok : OkP n k P := hA.1.1.1
  have hP : ∀ j, j < 47 → M 190 j = P j := hI.1.1
  have hn6 := hok.1
  have hk6 := hok.2.1
  have hn : M 190 0 = nI n := (hP 0 (by omega)).trans hok.2.2.1
  have hk : M 190 1 = nI k := (hP 1 (by omega)).trans hok.2.2.2.1
  refine g_aload_n (j := 0) (pc' := 1) dX12_swap_0 rfl rfl ?_
  refine g_iload_n (j := 1) (pc' := 2) dX12_swap_1 rfl rfl ?_
  refine g_callV (my := mX12_isMan) (k := 189) (st := []) (av := [.int (nI m)]) (mcr := 0) (msr := 0) (mc := 0) (ms := 0) (pc' := 5) dX12_swap_2 kX12_isMan wX12_84 rfl ⟨rfl, rfl⟩ rfl (Nat.le_of_ble_eq_true rfl) (by decide) (s_isMan1 hn hn6 (hm)) rfl ?_
  rintro _ _ ⟨rfl, rfl⟩
  show Go mX12_swap _ _ _ 5 [(0, .ref 189), (1, .int (nI m)), (2, .int u)] [.int 1] (SK, M, N) _
  refine g_if_eq (tgt := 21) (pc' := 8) dX12_swap_5 (by decide) rfl (fun hc => absurd hc (by decide)) (fun _ => ?_)
  refine g_aload_n (j := 0) (pc' := 9) dX12_swap_8 rfl rfl ?_
  refine g_iload_n (j := 2) (pc' := 10) dX12_swap_9 rfl rfl ?_
  refine g_callV (my := mX12_isMan) (k := 189) (st := []) (av := [.int u]) (mcr := 0) (msr := 0) (mc := 0) (ms := 0) (pc' := 13) dX12_swap_10 kX12_isMan wX12_84 rfl ⟨rfl, rfl⟩ rfl (Nat.le_of_ble_eq_true rfl) (by decide) (s_isMan0 hn hn6 (h1)) rfl ?_
  rintro _ _ ⟨rfl, rfl⟩
  show Go mX12_swap _ _ _ 13 [(0, .ref 189), (1, .int (nI m)), (2, .int u)] [.int 0] (SK, M, N) _
  refine g_if_eq (tgt := 21) (pc' := 16) dX12_swap_13 (by decide) rfl (fun _ => ?_) (fun hc => absurd rfl hc)
  refine g_iconst (v := (-1)) (pc' := 22) dX12_swap_21 (by decide) rfl ?_
  exact g_iret dX12_swap_22 rfl rfl (RQ.same hI)
set_option maxRecDepth 100000 in
set_option maxHeartbeats 1000000 in
theorem r_swap_b3 {M : Nat → Nat → Int32} {N : Nat → Nat → Int64} {n k : Nat} {P : Nat → Int32} {pa : List (Nat → Int32)} {kp : Option YS} {tp : List Int32} {sh : Nat → Option (Nat × Nat × (Nat → Int64))} (hA : AOk ((n, k, P, pa), kp, tp, sh)) (hI : RI M N ((n, k, P, pa), kp, tp, sh)) {m : Nat} (hm : m < n) : Run mX12_swap 30 0 0 [.ref 189, .int (nI m), .int (nI m)] (SK, M, N) (RQ M N (-1) ((n, k, P, pa), kp, tp, sh)) := by
  refine Run.of (by decide) (Nat.le_of_ble_eq_true rfl) ?_
  have hok : OkP n k P := hA.1.1.1
  have hP : ∀ j, j < 47 → M 190 j = P j := hI.1.1
  have hn6 := hok.1
  have hk6 := hok.2.1
  have hn : M 190 0 = nI n := (hP 0 (by omega)).trans hok.2.2.1
  have hk : M 190 1 = nI k := (hP 1 (by omega)).trans hok.2.2.2.1
  refine g_aload_n (j := 0) (pc' := 1) dX12_swap_0 rfl rfl ?_
  refine g_iload_n (j := 1) (pc' := 2) dX12_swap_1 rfl rfl ?_
  refine g_callV (my := mX12_isMan) (k := 189) (st := []) (av := [.int (nI m)]) (mcr := 0) (msr := 0) (mc := 0) (ms := 0) (pc' := 5) dX12_swap_2 kX12_isMan wX12_84 rfl ⟨rfl, rfl⟩ rfl (Nat.le_of_ble_eq_true rfl) (by decide) (s_isMan1 hn hn6 (hm)) rfl ?_
  rintro _ _ ⟨rfl, rfl⟩
  show Go mX12_swap _ _ _ 5 [(0, .ref 189), (1, .int (nI m)), (2, .int (nI m))] [.int 1] (SK, M, N) _
  refine g_if_eq (tgt := 21) (pc' := 8) dX12_swap_5 (by decide) rfl (fun hc => absurd hc (by decide)) (fun _ => ?_)
  refine g_aload_n (j := 0) (pc' := 9) dX12_swap_8 rfl rfl ?_
  refine g_iload_n (j := 2) (pc' := 10) dX12_swap_9 rfl rfl ?_
  refine g_callV (my := mX12_isMan) (k := 189) (st := []) (av := [.int (nI m)]) (mcr := 0) (msr := 0) (mc := 0) (ms := 0) (pc' := 13) dX12_swap_10 kX12_isMan wX12_84 rfl ⟨rfl, rfl⟩ rfl (Nat.le_of_ble_eq_true rfl) (by decide) (s_isMan1 hn hn6 (hm)) rfl ?_
  rintro _ _ ⟨rfl, rfl⟩
  show Go mX12_swap _ _ _ 13 [(0, .ref 189), (1, .int (nI m)), (2, .int (nI m))] [.int 1] (SK, M, N) _
  refine g_if_eq (tgt := 21) (pc' := 16) dX12_swap_13 (by decide) rfl (fun hc => absurd hc (by decide)) (fun _ => ?_)
  refine g_iload_n (j := 1) (pc' := 17) dX12_swap_16 rfl rfl ?_
  refine g_iload_n (j := 2) (pc' := 18) dX12_swap_17 rfl rfl ?_
  refine g_icmp_ne (tgt := 23) (pc' := 21) dX12_swap_18 (by decide) rfl (fun hc => (absurd rfl hc)) (fun hc => ?_)
  refine g_iconst (v := (-1)) (pc' := 22) dX12_swap_21 (by decide) rfl ?_
  exact g_iret dX12_swap_22 rfl rfl (RQ.same hI)
set_option maxRecDepth 100000 in
set_option maxHeartbeats 1000000 in
theorem r_swap_n1 {M : Nat → Nat → Int32} {N : Nat → Nat → Int64} {n k : Nat} {P : Nat → Int32} {pa : List (Nat → Int32)} {kp : Option YS} {tp : List Int32} {sh : Nat → Option (Nat × Nat × (Nat → Int64))} (hA : AOk ((n, k, P, pa), kp, tp, sh)) (hI : RI M N ((n, k, P, pa), kp, tp, sh)) {m o : Nat} (hm : m < n) (ho : o < n) (hmo : m ≠ o) (h1 : P (28 + m) = -4) : Run mX12_swap 30 0 0 [.ref 189, .int (nI m), .int (nI o)] (SK, M, N) (RQ M N (-2) ((n, k, P, pa), kp, tp, sh)) := by
  refine Run.of (by decide) (Nat.le_of_ble_eq_true rfl) ?_
  have hok : OkP n k P := hA.1.1.1
  have hP : ∀ j, j < 47 → M 190 j = P j := hI.1.1
  have hn6 := hok.1
  have hk6 := hok.2.1
  have hn : M 190 0 = nI n := (hP 0 (by omega)).trans hok.2.2.1
  have hk : M 190 1 = nI k := (hP 1 (by omega)).trans hok.2.2.2.1
  refine g_aload_n (j := 0) (pc' := 1) dX12_swap_0 rfl rfl ?_
  refine g_iload_n (j := 1) (pc' := 2) dX12_swap_1 rfl rfl ?_
  refine g_callV (my := mX12_isMan) (k := 189) (st := []) (av := [.int (nI m)]) (mcr := 0) (msr := 0) (mc := 0) (ms := 0) (pc' := 5) dX12_swap_2 kX12_isMan wX12_84 rfl ⟨rfl, rfl⟩ rfl (Nat.le_of_ble_eq_true rfl) (by decide) (s_isMan1 hn hn6 (hm)) rfl ?_
  rintro _ _ ⟨rfl, rfl⟩
  show Go mX12_swap _ _ _ 5 [(0, .ref 189), (1, .int (nI m)), (2, .int (nI o))] [.int 1] (SK, M, N) _
  refine g_if_eq (tgt := 21) (pc' := 8) dX12_swap_5 (by decide) rfl (fun hc => absurd hc (by decide)) (fun _ => ?_)
  refine g_aload_n (j := 0) (pc' := 9) dX12_swap_8 rfl rfl ?_
  refine g_iload_n (j := 2) (pc' := 10) dX12_swap_9 rfl rfl ?_
  refine g_callV (my := mX12_isMan) (k := 189) (st := []) (av := [.int (nI o)]) (mcr := 0) (msr := 0) (mc := 0) (ms := 0) (pc' := 13) dX12_swap_10 kX12_isMan wX12_84 rfl ⟨rfl, rfl⟩ rfl (Nat.le_of_ble_eq_true rfl) (by decide) (s_isMan1 hn hn6 (ho)) rfl ?_
  rintro _ _ ⟨rfl, rfl⟩
  show Go mX12_swap _ _ _ 13 [(0, .ref 189), (1, .int (nI m)), (2, .int (nI o))] [.int 1] (SK, M, N) _
  refine g_if_eq (tgt := 21) (pc' := 16) dX12_swap_13 (by decide) rfl (fun hc => absurd hc (by decide)) (fun _ => ?_)
  refine g_iload_n (j := 1) (pc' := 17) dX12_swap_16 rfl rfl ?_
  refine g_iload_n (j := 2) (pc' := 18) dX12_swap_17 rfl rfl ?_
  refine g_icmp_ne (tgt := 23) (pc' := 21) dX12_swap_18 (by decide) rfl (fun hc => ?_) (fun hc => (absurd hc (fun q => hmo ((nI_eq (by omega) (by omega)).mp q))))
  refine g_aload_n (j := 0) (pc' := 24) dX12_swap_23 rfl rfl ?_
  refine g_getR (pc' := 27) dX12_swap_24 fX12_7 rfl rfl rfl ?_
  refine g_bipush (v := 28) (pc' := 29) dX12_swap_27 (by decide) rfl ?_
  refine g_iload_n (j := 1) (pc' := 30) dX12_swap_29 rfl rfl ?_
  refine g_iadd (pc' := 31) dX12_swap_30 rfl ?_
  refine g_iald (n := 28 + m) (pc' := 32) dX12_swap_31 rfl (nI_addE rfl rfl) (by omega) rfl ?_
  refine g_top (y := P (28 + m)) (hP _ (by omega)) ?_
  refine g_istore_n (L' := [(0, .ref 189), (1, .int (nI m)), (2, .int (nI o)), (3, .int (P (28 + m)))]) (pc' := 33) dX12_swap_32 (by decide) rfl rfl ?_
  refine g_aload_n (j := 0) (pc' := 34) dX12_swap_33 rfl rfl ?_
  refine g_getR (pc' := 37) dX12_swap_34 fX12_7 rfl rfl rfl ?_
  refine g_bipush (v := 28) (pc' := 39) dX12_swap_37 (by decide) rfl ?_
  refine g_iload_n (j := 2) (pc' := 40) dX12_swap_39 rfl rfl ?_
  refine g_iadd (pc' := 41) dX12_swap_40 rfl ?_
  refine g_iald (n := 28 + o) (pc' := 42) dX12_swap_41 rfl (nI_addE rfl rfl) (by omega) rfl ?_
  refine g_top (y := P (28 + o)) (hP _ (by omega)) ?_
  refine g_istore (L' := [(0, .ref 189), (1, .int (nI m)), (2, .int (nI o)), (3, .int (P (28 + m))), (4, .int (P (28 + o)))]) (pc' := 44) dX12_swap_42 (by decide) rfl rfl ?_
  refine g_iload_n (j := 3) (pc' := 45) dX12_swap_44 rfl rfl ?_
  refine g_bipush (v := (-4)) (pc' := 47) dX12_swap_45 (by decide) rfl ?_
  refine g_icmp_eq (tgt := 57) (pc' := 50) dX12_swap_47 (by decide) rfl (fun hc => ?_) (fun hc => (absurd h1 hc))
  refine g_bipush (v := (-2)) (pc' := 59) dX12_swap_57 (by decide) rfl ?_
  exact g_iret dX12_swap_59 rfl rfl (RQ.same hI)
set_option maxRecDepth 100000 in
set_option maxHeartbeats 1000000 in
theorem r_swap_n2 {M : Nat → Nat → Int32} {N : Nat → Nat → Int64} {n k : Nat} {P : Nat → Int32} {pa : List (Nat → Int32)} {kp : Option YS} {tp : List Int32} {sh : Nat → Option (Nat × Nat × (Nat → Int64))} (hA : AOk ((n, k, P, pa), kp, tp, sh)) (hI : RI M N ((n, k, P, pa), kp, tp, sh)) {m o : Nat} (hm : m < n) (ho : o < n) (hmo : m ≠ o) (h1 : ¬ P (28 + m) = -4) (h2 : P (28 + o) = -4) : Run mX12_swap 30 0 0 [.ref 189, .int (nI m), .int (nI o)] (SK, M, N) (RQ M N (-2) ((n, k, P, pa), kp, tp, sh)) := by
  refine Run.of (by decide) (Nat.le_of_ble_eq_true rfl) ?_
  have hok : OkP n k P := hA.1.1.1
  have hP : ∀ j, j < 47 → M 190 j = P j := hI.1.1
  have hn6 := hok.1
  have hk6 := hok.2.1
  have hn : M 190 0 = nI n := (hP 0 (by omega)).trans hok.2.2.1
  have hk : M 190 1 = nI k := (hP 1 (by omega)).trans hok.2.2.2.1
  refine g_aload_n (j := 0) (pc' := 1) dX12_swap_0 rfl rfl ?_
  refine g_iload_n (j := 1) (pc' := 2) dX12_swap_1 rfl rfl ?_
  refine g_callV (my := mX12_isMan) (k := 189) (st := []) (av := [.int (nI m)]) (mcr := 0) (msr := 0) (mc := 0) (ms := 0) (pc' := 5) dX12_swap_2 kX12_isMan wX12_84 rfl ⟨rfl, rfl⟩ rfl (Nat.le_of_ble_eq_true rfl) (by decide) (s_isMan1 hn hn6 (hm)) rfl ?_
  rintro _ _ ⟨rfl, rfl⟩
  show Go mX12_swap _ _ _ 5 [(0, .ref 189), (1, .int (nI m)), (2, .int (nI o))] [.int 1] (SK, M, N) _
  refine g_if_eq (tgt := 21) (pc' := 8) dX12_swap_5 (by decide) rfl (fun hc => absurd hc (by decide)) (fun _ => ?_)
  refine g_aload_n (j := 0) (pc' := 9) dX12_swap_8 rfl rfl ?_
  refine g_iload_n (j := 2) (pc' := 10) dX12_swap_9 rfl rfl ?_
  refine g_callV (my := mX12_isMan) (k := 189) (st := []) (av := [.int (nI o)]) (mcr := 0) (msr := 0) (mc := 0) (ms := 0) (pc' := 13) dX12_swap_10 kX12_isMan wX12_84 rfl ⟨rfl, rfl⟩ rfl (Nat.le_of_ble_eq_true rfl) (by decide) (s_isMan1 hn hn6 (ho)) rfl ?_
  rintro _ _ ⟨rfl, rfl⟩
  show Go mX12_swap _ _ _ 13 [(0, .ref 189), (1, .int (nI m)), (2, .int (nI o))] [.int 1] (SK, M, N) _
  refine g_if_eq (tgt := 21) (pc' := 16) dX12_swap_13 (by decide) rfl (fun hc => absurd hc (by decide)) (fun _ => ?_)
  refine g_iload_n (j := 1) (pc' := 17) dX12_swap_16 rfl rfl ?_
  refine g_iload_n (j := 2) (pc' := 18) dX12_swap_17 rfl rfl ?_
  refine g_icmp_ne (tgt := 23) (pc' := 21) dX12_swap_18 (by decide) rfl (fun hc => ?_) (fun hc => (absurd hc (fun q => hmo ((nI_eq (by omega) (by omega)).mp q))))
  refine g_aload_n (j := 0) (pc' := 24) dX12_swap_23 rfl rfl ?_
  refine g_getR (pc' := 27) dX12_swap_24 fX12_7 rfl rfl rfl ?_
  refine g_bipush (v := 28) (pc' := 29) dX12_swap_27 (by decide) rfl ?_
  refine g_iload_n (j := 1) (pc' := 30) dX12_swap_29 rfl rfl ?_
  refine g_iadd (pc' := 31) dX12_swap_30 rfl ?_
  refine g_iald (n := 28 + m) (pc' := 32) dX12_swap_31 rfl (nI_addE rfl rfl) (by omega) rfl ?_
  refine g_top (y := P (28 + m)) (hP _ (by omega)) ?_
  refine g_istore_n (L' := [(0, .ref 189), (1, .int (nI m)), (2, .int (nI o)), (3, .int (P (28 + m)))]) (pc' := 33) dX12_swap_32 (by decide) rfl rfl ?_
  refine g_aload_n (j := 0) (pc' := 34) dX12_swap_33 rfl rfl ?_
  refine g_getR (pc' := 37) dX12_swap_34 fX12_7 rfl rfl rfl ?_
  refine g_bipush (v := 28) (pc' := 39) dX12_swap_37 (by decide) rfl ?_
  refine g_iload_n (j := 2) (pc' := 40) dX12_swap_39 rfl rfl ?_
  refine g_iadd (pc' := 41) dX12_swap_40 rfl ?_
  refine g_iald (n := 28 + o) (pc' := 42) dX12_swap_41 rfl (nI_addE rfl rfl) (by omega) rfl ?_
  refine g_top (y := P (28 + o)) (hP _ (by omega)) ?_
  refine g_istore (L' := [(0, .ref 189), (1, .int (nI m)), (2, .int (nI o)), (3, .int (P (28 + m))), (4, .int (P (28 + o)))]) (pc' := 44) dX12_swap_42 (by decide) rfl rfl ?_
  refine g_iload_n (j := 3) (pc' := 45) dX12_swap_44 rfl rfl ?_
  refine g_bipush (v := (-4)) (pc' := 47) dX12_swap_45 (by decide) rfl ?_
  refine g_icmp_eq (tgt := 57) (pc' := 50) dX12_swap_47 (by decide) rfl (fun hc => (absurd hc h1)) (fun hc => ?_)
  refine g_iload (j := 4) (pc' := 52) dX12_swap_50 rfl rfl ?_
  refine g_bipush (v := (-4)) (pc' := 54) dX12_swap_52 (by decide) rfl ?_
  refine g_icmp_ne (tgt := 60) (pc' := 57) dX12_swap_54 (by decide) rfl (fun hc => (absurd h2 hc)) (fun hc => ?_)
  refine g_bipush (v := (-2)) (pc' := 59) dX12_swap_57 (by decide) rfl ?_
  exact g_iret dX12_swap_59 rfl rfl (RQ.same hI)
set_option maxRecDepth 100000 in
set_option maxHeartbeats 1000000 in
theorem r_swap {M : Nat → Nat → Int32} {N : Nat → Nat → Int64} {n k : Nat} {P : Nat → Int32} {pa : List (Nat → Int32)} {kp : Option YS} {tp : List Int32} {sh : Nat → Option (Nat × Nat × (Nat → Int64))} (hA : AOk ((n, k, P, pa), kp, tp, sh)) (hI : RI M N ((n, k, P, pa), kp, tp, sh)) {m o : Nat} (hm : m < n) (ho : o < n) (hmo : m ≠ o) (h1 : ¬ P (28 + m) = -4) (h2 : ¬ P (28 + o) = -4) : Run mX12_swap 30 0 0 [.ref 189, .int (nI m), .int (nI o)] (SK, M, N) (RQ M N (P (28 + o)) ((n, k, upP (upP P (28 + m) (P (28 + o))) (28 + o) (P (28 + m)), keepL P pa), kp, tp, sh)) := by
  refine Run.of (by decide) (Nat.le_of_ble_eq_true rfl) ?_
  have hok : OkP n k P := hA.1.1.1
  have hP : ∀ j, j < 47 → M 190 j = P j := hI.1.1
  have hn6 := hok.1
  have hk6 := hok.2.1
  have hn : M 190 0 = nI n := (hP 0 (by omega)).trans hok.2.2.1
  have hk : M 190 1 = nI k := (hP 1 (by omega)).trans hok.2.2.2.1
  refine g_aload_n (j := 0) (pc' := 1) dX12_swap_0 rfl rfl ?_
  refine g_iload_n (j := 1) (pc' := 2) dX12_swap_1 rfl rfl ?_
  refine g_callV (my := mX12_isMan) (k := 189) (st := []) (av := [.int (nI m)]) (mcr := 0) (msr := 0) (mc := 0) (ms := 0) (pc' := 5) dX12_swap_2 kX12_isMan wX12_84 rfl ⟨rfl, rfl⟩ rfl (Nat.le_of_ble_eq_true rfl) (by decide) (s_isMan1 hn hn6 (hm)) rfl ?_
  rintro _ _ ⟨rfl, rfl⟩
  show Go mX12_swap _ _ _ 5 [(0, .ref 189), (1, .int (nI m)), (2, .int (nI o))] [.int 1] (SK, M, N) _
  refine g_if_eq (tgt := 21) (pc' := 8) dX12_swap_5 (by decide) rfl (fun hc => absurd hc (by decide)) (fun _ => ?_)
  refine g_aload_n (j := 0) (pc' := 9) dX12_swap_8 rfl rfl ?_
  refine g_iload_n (j := 2) (pc' := 10) dX12_swap_9 rfl rfl ?_
  refine g_callV (my := mX12_isMan) (k := 189) (st := []) (av := [.int (nI o)]) (mcr := 0) (msr := 0) (mc := 0) (ms := 0) (pc' := 13) dX12_swap_10 kX12_isMan wX12_84 rfl ⟨rfl, rfl⟩ rfl (Nat.le_of_ble_eq_true rfl) (by decide) (s_isMan1 hn hn6 (ho)) rfl ?_
  rintro _ _ ⟨rfl, rfl⟩
  show Go mX12_swap _ _ _ 13 [(0, .ref 189), (1, .int (nI m)), (2, .int (nI o))] [.int 1] (SK, M, N) _
  refine g_if_eq (tgt := 21) (pc' := 16) dX12_swap_13 (by decide) rfl (fun hc => absurd hc (by decide)) (fun _ => ?_)
  refine g_iload_n (j := 1) (pc' := 17) dX12_swap_16 rfl rfl ?_
  refine g_iload_n (j := 2) (pc' := 18) dX12_swap_17 rfl rfl ?_
  refine g_icmp_ne (tgt := 23) (pc' := 21) dX12_swap_18 (by decide) rfl (fun hc => ?_) (fun hc => (absurd hc (fun q => hmo ((nI_eq (by omega) (by omega)).mp q))))
  refine g_aload_n (j := 0) (pc' := 24) dX12_swap_23 rfl rfl ?_
  refine g_getR (pc' := 27) dX12_swap_24 fX12_7 rfl rfl rfl ?_
  refine g_bipush (v := 28) (pc' := 29) dX12_swap_27 (by decide) rfl ?_
  refine g_iload_n (j := 1) (pc' := 30) dX12_swap_29 rfl rfl ?_
  refine g_iadd (pc' := 31) dX12_swap_30 rfl ?_
  refine g_iald (n := 28 + m) (pc' := 32) dX12_swap_31 rfl (nI_addE rfl rfl) (by omega) rfl ?_
  refine g_top (y := P (28 + m)) (hP _ (by omega)) ?_
  refine g_istore_n (L' := [(0, .ref 189), (1, .int (nI m)), (2, .int (nI o)), (3, .int (P (28 + m)))]) (pc' := 33) dX12_swap_32 (by decide) rfl rfl ?_
  refine g_aload_n (j := 0) (pc' := 34) dX12_swap_33 rfl rfl ?_
  refine g_getR (pc' := 37) dX12_swap_34 fX12_7 rfl rfl rfl ?_
  refine g_bipush (v := 28) (pc' := 39) dX12_swap_37 (by decide) rfl ?_
  refine g_iload_n (j := 2) (pc' := 40) dX12_swap_39 rfl rfl ?_
  refine g_iadd (pc' := 41) dX12_swap_40 rfl ?_
  refine g_iald (n := 28 + o) (pc' := 42) dX12_swap_41 rfl (nI_addE rfl rfl) (by omega) rfl ?_
  refine g_top (y := P (28 + o)) (hP _ (by omega)) ?_
  refine g_istore (L' := [(0, .ref 189), (1, .int (nI m)), (2, .int (nI o)), (3, .int (P (28 + m))), (4, .int (P (28 + o)))]) (pc' := 44) dX12_swap_42 (by decide) rfl rfl ?_
  refine g_iload_n (j := 3) (pc' := 45) dX12_swap_44 rfl rfl ?_
  refine g_bipush (v := (-4)) (pc' := 47) dX12_swap_45 (by decide) rfl ?_
  refine g_icmp_eq (tgt := 57) (pc' := 50) dX12_swap_47 (by decide) rfl (fun hc => (absurd hc h1)) (fun hc => ?_)
  refine g_iload (j := 4) (pc' := 52) dX12_swap_50 rfl rfl ?_
  refine g_bipush (v := (-4)) (pc' := 54) dX12_swap_52 (by decide) rfl ?_
  refine g_icmp_ne (tgt := 60) (pc' := 57) dX12_swap_54 (by decide) rfl (fun hc => ?_) (fun hc => (absurd hc h2))
  refine g_aload_n (j := 0) (pc' := 61) dX12_swap_60 rfl rfl ?_
  refine g_callV (my := mX12_remember) (k := 189) (st := []) (av := []) (mcr := 0) (msr := 0) (mc := 0) (ms := 0) (pc' := 64) dX12_swap_61 kX12_remember wX12_168 rfl ⟨rfl, rfl⟩ rfl (Nat.le_of_ble_eq_true rfl) (by decide) (r_remember hA.1.2.1 hI.1) rfl ?_
  rintro _ _ ⟨M1, rfl, rfl, hY, hf1⟩
  show Go mX12_swap _ _ _ 64 [(0, .ref 189), (1, .int (nI m)), (2, .int (nI o)), (3, .int (P (28 + m))), (4, .int (P (28 + o)))] [] (SK, M1, N) _
  have hP1 : ∀ j, j < 47 → M1 190 j = P j := hY.1
  refine g_aload_n (j := 0) (pc' := 65) dX12_swap_64 rfl rfl ?_
  refine g_getR (pc' := 68) dX12_swap_65 fX12_7 rfl rfl rfl ?_
  refine g_bipush (v := 28) (pc' := 70) dX12_swap_68 (by decide) rfl ?_
  refine g_iload_n (j := 1) (pc' := 71) dX12_swap_70 rfl rfl ?_
  refine g_iadd (pc' := 72) dX12_swap_71 rfl ?_
  refine g_iload (j := 4) (pc' := 74) dX12_swap_72 rfl rfl ?_
  refine g_iast (n := 28 + m) (pc' := 75) dX12_swap_74 rfl (nI_addE rfl rfl) (by omega) rfl ?_
  refine g_aload_n (j := 0) (pc' := 76) dX12_swap_75 rfl rfl ?_
  refine g_getR (pc' := 79) dX12_swap_76 fX12_7 rfl rfl rfl ?_
  refine g_bipush (v := 28) (pc' := 81) dX12_swap_79 (by decide) rfl ?_
  refine g_iload_n (j := 2) (pc' := 82) dX12_swap_81 rfl rfl ?_
  refine g_iadd (pc' := 83) dX12_swap_82 rfl ?_
  refine g_iload_n (j := 3) (pc' := 84) dX12_swap_83 rfl rfl ?_
  refine g_iast (n := 28 + o) (pc' := 85) dX12_swap_84 rfl (nI_addE rfl rfl) (by omega) rfl ?_
  refine g_iload (j := 4) (pc' := 87) dX12_swap_85 rfl rfl ?_
  exact g_iret dX12_swap_87 rfl rfl (RQ.now hI ((hY.up (by omega)).up (by omega)) (fun a _ ha => by rw [um_ne ha, um_ne ha]; exact hf1 a ha))
set_option maxRecDepth 100000 in
set_option maxHeartbeats 1000000 in
theorem r_undo_n {M : Nat → Nat → Int32} {N : Nat → Nat → Int64} {n k : Nat} {P : Nat → Int32} {pa : List (Nat → Int32)} {kp : Option YS} {tp : List Int32} {sh : Nat → Option (Nat × Nat × (Nat → Int64))} (hA : AOk ((n, k, P, pa), kp, tp, sh)) (hI : RI M N ((n, k, P, pa), kp, tp, sh)) (h0 : pa = []) : Run mX12_undo 30 0 0 [.ref 189] (SK, M, N) (RQ M N (-4) ((n, k, P, pa), kp, tp, sh)) := by
  refine Run.of (by decide) (Nat.le_of_ble_eq_true rfl) ?_
  have hok : OkP n k P := hA.1.1.1
  have hP : ∀ j, j < 47 → M 190 j = P j := hI.1.1
  have hn6 := hok.1
  have hk6 := hok.2.1
  have hn : M 190 0 = nI n := (hP 0 (by omega)).trans hok.2.2.1
  have hk : M 190 1 = nI k := (hP 1 (by omega)).trans hok.2.2.2.1
  refine g_aload_n (j := 0) (pc' := 1) dX12_undo_0 rfl rfl ?_
  refine g_getR (pc' := 4) dX12_undo_1 fX12_7 rfl rfl rfl ?_
  refine g_bipush (v := 47) (pc' := 6) dX12_undo_4 (by decide) rfl ?_
  refine g_iald (n := 47) (pc' := 7) dX12_undo_6 rfl rfl (by omega) rfl ?_
  refine g_top (y := 0) (by rw [hI.1.2.1, h0]; rfl) ?_
  refine g_if_ne (tgt := 13) (pc' := 10) dX12_undo_7 (by decide) rfl (fun hc => (absurd rfl hc)) (fun hc => ?_)
  refine g_bipush (v := (-4)) (pc' := 12) dX12_undo_10 (by decide) rfl ?_
  exact g_iret dX12_undo_12 rfl rfl (RQ.same hI)
set_option maxRecDepth 100000 in
set_option maxHeartbeats 1000000 in
theorem r_undo {M : Nat → Nat → Int32} {N : Nat → Nat → Int64} {n k : Nat} {P : Nat → Int32} {pa : List (Nat → Int32)} {kp : Option YS} {tp : List Int32} {sh : Nat → Option (Nat × Nat × (Nat → Int64))} (hA : AOk ((n, k, P, pa), kp, tp, sh)) (hI : RI M N ((n, k, P, pa), kp, tp, sh)) {Q : Nat → Int32} {pb : List (Nat → Int32)} (h0 : pa = Q :: pb) : Run mX12_undo 30 0 0 [.ref 189] (SK, M, N) (RQ M N (nI pb.length) ((n, k, undoP P Q, pb), kp, tp, sh)) := by
  refine Run.of (by decide) (Nat.le_of_ble_eq_true rfl) ?_
  have hok : OkP n k P := hA.1.1.1
  have hP : ∀ j, j < 47 → M 190 j = P j := hI.1.1
  have hn6 := hok.1
  have hk6 := hok.2.1
  have hn : M 190 0 = nI n := (hP 0 (by omega)).trans hok.2.2.1
  have hk : M 190 1 = nI k := (hP 1 (by omega)).trans hok.2.2.2.1
  subst h0
  have hl : pb.length + 1 ≤ 8 := hA.1.2.1
  have g2 : M 190 47 = nI (pb.length + 1) := hI.1.2.1
  have g4 : (∀ j, j < 37 → M 190 (48 + 38 * pb.length + j) = Q (10 + j)) ∧ M 190 (48 + 38 * pb.length + 37) = Q 3 := hI.1.2.2 0 Q rfl
  refine g_aload_n (j := 0) (pc' := 1) dX12_undo_0 rfl rfl ?_
  refine g_getR (pc' := 4) dX12_undo_1 fX12_7 rfl rfl rfl ?_
  refine g_bipush (v := 47) (pc' := 6) dX12_undo_4 (by decide) rfl ?_
  refine g_iald (n := 47) (pc' := 7) dX12_undo_6 rfl rfl (by omega) rfl ?_
  refine g_top (y := nI (pb.length + 1)) (g2) ?_
  refine g_if_ne (tgt := 13) (pc' := 10) dX12_undo_7 (by decide) rfl (fun hc => ?_) (fun hc => (absurd hc (nI_ne0 (by omega) (by omega))))
  refine g_aload_n (j := 0) (pc' := 14) dX12_undo_13 rfl rfl ?_
  refine g_getR (pc' := 17) dX12_undo_14 fX12_7 rfl rfl rfl ?_
  refine g_bipush (v := 47) (pc' := 19) dX12_undo_17 (by decide) rfl ?_
  refine g_dup2 (pc' := 20) dX12_undo_19 rfl rfl rfl ?_
  refine g_iald (n := 47) (pc' := 21) dX12_undo_20 rfl rfl (by omega) rfl ?_
  refine g_top (y := nI (pb.length + 1)) (g2) ?_
  refine g_iconst (v := 1) (pc' := 22) dX12_undo_21 (by decide) rfl ?_
  refine g_isub (pc' := 23) dX12_undo_22 rfl ?_
  refine g_top (y := nI pb.length) (nI_pred _) ?_
  refine g_iast (n := 47) (pc' := 24) dX12_undo_23 rfl rfl (by omega) rfl ?_
  refine g_bipush (v := 48) (pc' := 26) dX12_undo_24 (by decide) rfl ?_
  refine g_bipush (v := 38) (pc' := 28) dX12_undo_26 (by decide) rfl ?_
  refine g_aload_n (j := 0) (pc' := 29) dX12_undo_28 rfl rfl ?_
  refine g_getR (pc' := 32) dX12_undo_29 fX12_7 rfl rfl rfl ?_
  refine g_bipush (v := 47) (pc' := 34) dX12_undo_32 (by decide) rfl ?_
  refine g_iald (n := 47) (pc' := 35) dX12_undo_34 rfl rfl (by omega) rfl ?_
  refine g_top (y := nI pb.length) (by simp (disch := omega) only [um_ne, um_at, um_at2, cpy2_ne]) ?_
  refine g_top (y := nI pb.length) (rfl) ?_
  refine g_imul (pc' := 36) dX12_undo_35 rfl ?_
  refine g_iadd (pc' := 37) dX12_undo_36 rfl ?_
  refine g_top (y := nI (48 + 38 * pb.length)) (by rw [show (38 : Int32) * nI pb.length = nI (38 * pb.length) from pk_mul 38 _]; exact nI_add 48 (38 * pb.length)) ?_
  refine g_istore_n (L' := [(0, .ref 189), (1, .int (nI (48 + 38 * pb.length)))]) (pc' := 38) dX12_undo_37 (by decide) rfl rfl ?_
  refine g_aload_n (j := 0) (pc' := 39) dX12_undo_38 rfl rfl ?_
  refine g_getR (pc' := 42) dX12_undo_39 fX12_7 rfl rfl rfl ?_
  refine g_iload_n (j := 1) (pc' := 43) dX12_undo_42 rfl rfl ?_
  refine g_aload_n (j := 0) (pc' := 44) dX12_undo_43 rfl rfl ?_
  refine g_getR (pc' := 47) dX12_undo_44 fX12_7 rfl rfl rfl ?_
  refine g_bipush (v := 10) (pc' := 49) dX12_undo_47 (by decide) rfl ?_
  refine g_bipush (v := 37) (pc' := 51) dX12_undo_49 (by decide) rfl ?_
  refine g_callS (my := mX12_copies) (st := []) (av := [.ref 190, .int (nI (48 + 38 * pb.length)), .ref 190, .int 10, .int 37]) (mcr := 0) (msr := 0) (mc := 0) (ms := 0) (pc' := 54) dX12_undo_51 kX12_copies wX12_152 rfl (Nat.le_of_ble_eq_true rfl) (by decide) (s_copies (k0 := 190) (i := 48 + 38 * pb.length) (k1 := 190) (j := 10) (n := 37) rfl rfl (by omega) (by omega) (by omega)) rfl ?_
  rintro _ _ ⟨rfl, rfl⟩
  show Go mX12_undo _ _ _ 54 [(0, .ref 189), (1, .int (nI (48 + 38 * pb.length)))] [] (SK, (cpy2 (um M 190 47 (nI pb.length)) 190 (48 + 38 * pb.length) 190 10 37), N) _
  refine g_aload_n (j := 0) (pc' := 55) dX12_undo_54 rfl rfl ?_
  refine g_getR (pc' := 58) dX12_undo_55 fX12_7 rfl rfl rfl ?_
  refine g_iconst (v := 3) (pc' := 59) dX12_undo_58 (by decide) rfl ?_
  refine g_aload_n (j := 0) (pc' := 60) dX12_undo_59 rfl rfl ?_
  refine g_getR (pc' := 63) dX12_undo_60 fX12_7 rfl rfl rfl ?_
  refine g_iload_n (j := 1) (pc' := 64) dX12_undo_63 rfl rfl ?_
  refine g_bipush (v := 37) (pc' := 66) dX12_undo_64 (by decide) rfl ?_
  refine g_iadd (pc' := 67) dX12_undo_66 rfl ?_
  refine g_iald (n := (48 + 38 * pb.length) + 37) (pc' := 68) dX12_undo_67 rfl (nI_addE rfl rfl) (by omega) rfl ?_
  refine g_top (y := Q 3) ((cpy2_out (by omega)).trans ((um_at2 (by omega)).trans g4.2)) ?_
  refine g_iast (n := 3) (pc' := 69) dX12_undo_68 rfl rfl (by omega) rfl ?_
  generalize hM2 : (um (cpy2 (um M 190 47 (nI pb.length)) 190 (48 + 38 * pb.length) 190 10 37) 190 3 (Q 3)) = M2
  refine g_aload_n (j := 0) (pc' := 70) dX12_undo_69 rfl rfl ?_
  refine g_getR (pc' := 73) dX12_undo_70 fX12_7 rfl rfl rfl ?_
  refine g_bipush (v := 47) (pc' := 75) dX12_undo_73 (by decide) rfl ?_
  refine g_iald (n := 47) (pc' := 76) dX12_undo_75 rfl rfl (by omega) rfl ?_
  refine g_top (y := nI pb.length) (by rw [← hM2, um_at2 (by omega), cpy2_out (by omega), um_at]) ?_
  refine g_iret dX12_undo_76 rfl rfl (RQ.now hI ⟨fun j hj => ?_, by rw [← hM2, um_at2 (by omega), cpy2_out (by omega), um_at], fun i R hi => ?_⟩ (fun a _ ha => by rw [← hM2, um_ne ha, cpy2_ne ha, um_ne ha]))
  · show M2 190 j = undoP P Q j
    rw [← hM2]
    by_cases e3 : j = 3
    · subst e3; rw [um_at, undoP_in (Or.inr rfl)]
    · by_cases e : 10 ≤ j
      · rw [um_at2 e3, cpy2_in e (by omega), um_at2 (by omega), undoP_in (Or.inl ⟨e, hj⟩)]
        have h9 := g4.1 (j - 10) (by omega)
        rw [show 10 + (j - 10) = j by omega] at h9
        exact h9
      · rw [um_at2 e3, cpy2_out (by omega), um_at2 (by omega), undoP_out (by omega)]
        exact hP j hj
  · have h9 := hI.1.2.2 (i + 1) R hi
    dsimp only at h9 hi ⊢
    rw [List.length_cons, show pb.length + 1 - 1 - (i + 1) = pb.length - 1 - i by omega] at h9
    refine ⟨fun j hj => ?_, ?_⟩
    · rw [← hM2, um_at2 (by omega), cpy2_out (by omega), um_at2 (by omega)]; exact h9.1 j hj
    · rw [← hM2, um_at2 (by omega), cpy2_out (by omega), um_at2 (by omega)]; exact h9.2
