
/-! ===== marches, drift, image, restore ===== -/
/-- t deeds of marching, one by one -/
def marS (n k : Nat) (P : Nat → Int32) (pa : List (Nat → Int32)) : Nat → (Nat → Int32) × List (Nat → Int32)
  | 0 => (P, pa)
  | t + 1 => (marchP n k (marS n k P pa t).1 ((marS n k P pa t).1 2), keepL (marS n k P pa t).1 (marS n k P pa t).2)
theorem ParOk.march {n k : Nat} {P : Nat → Int32} {st : Int32} {r : Nat} (h : ParOk n k P) (h3 : P 3 = nI r) (hr : r < 9999) : ParOk n k (marchP n k P st) ∧ marchP n k P st 3 = nI (r + 1) := by
  obtain ⟨h1, -, ⟨s, s20, hs⟩, h4⟩ := h
  have hn6 := h1.1
  have hk6 := h1.2.1
  have e3 : marchP n k P st 3 = nI (r + 1) := by rw [mp_3, h3]; exact nI_1 r
  exact ⟨⟨h1.march, ⟨r + 1, by omega, e3⟩, ⟨s, s20, by rw [mp_same (by omega) (by omega) h1.1 h1.2.1]; exact hs⟩, by rw [mp_same (by omega) (by omega) h1.1 h1.2.1]; exact h4⟩, e3⟩
theorem keepL_mem {P Q : Nat → Int32} {pa : List (Nat → Int32)} (h : Q ∈ keepL P pa) : Q = P ∨ Q ∈ pa := List.mem_cons.mp (List.mem_of_mem_take h)
/-- a deed that leaves men, names, kinds keeps a yard such as may be -/
theorem YOk.deed {n k : Nat} {P P' : Nat → Int32} {pa : List (Nat → Int32)} (h : YOk (n, k, P, pa)) (h1 : ParOk n k P') (h2 : ∀ j, j < 10 → j ≠ 2 → j ≠ 3 → P' j = P j) : YOk (n, k, P', keepL P pa) := by
  refine ⟨h1, by show (keepL P pa).length ≤ 8; rw [keepL_len]; omega, fun Q hQ => ?_⟩
  rcases keepL_mem hQ with rfl | hQ
  · exact ⟨h.1, fun j a b c => (h2 j a b c).symm⟩
  · exact ⟨(h.2.2 Q hQ).1, fun j a b c => ((h.2.2 Q hQ).2 j a b c).trans (h2 j a b c).symm⟩
theorem mar_same {n k : Nat} {P : Nat → Int32} {st : Int32} (hn : n ≤ 6) (hk : k ≤ 6) : ∀ j, j < 10 → j ≠ 2 → j ≠ 3 → marchP n k P st j = P j := fun j a _ c => mp_same c (by omega) hn hk
theorem marS_ok {n k r : Nat} {P : Nat → Int32} {pa : List (Nat → Int32)} (h : YOk (n, k, P, pa)) (h3 : P 3 = nI r) : ∀ {t : Nat}, r + t ≤ 9999 → YOk (n, k, (marS n k P pa t).1, (marS n k P pa t).2) ∧ (marS n k P pa t).1 3 = nI (r + t)
  | 0, _ => ⟨h, h3⟩
  | t + 1, ht => by
    obtain ⟨g1, g2⟩ := marS_ok h h3 (t := t) (by omega)
    have g3 := ParOk.march (st := (marS n k P pa t).1 2) g1.1 g2 (by omega)
    exact ⟨g1.deed g3.1 (mar_same g1.1.1.1 g1.1.1.2.1), g3.2⟩
set_option maxRecDepth 100000 in
set_option maxHeartbeats 1000000 in
theorem c_marches_b {M : Nat → Nat → Int32} {N : Nat → Nat → Int64} {n k : Nat} {P : Nat → Int32} {pa : List (Nat → Int32)} {kp : Option YS} {tp : List Int32} {sh : Nat → Option (Nat × Nat × (Nat → Int64))} (hA : AOk ((n, k, P, pa), kp, tp, sh)) (hI : CI M N ((n, k, P, pa), kp, tp, sh)) {v : Int32} (h1 : v < 1 ∨ 40 < v) : Run mX11_marches 30 0 0 [.ref 0, .int v] (SK, M, N) (CQ M N (-1) ((n, k, P, pa), kp, tp, sh)) := by
  refine Run.of (by decide) (Nat.le_of_ble_eq_true rfl) ?_
  have hok : OkP n k P := hA.1.1.1
  have hc0 : IsC M 14 n k P := hI.1.1
  have hn6 := hok.1
  have hk6 := hok.2.1
  refine g_iload_n (j := 1) (pc' := 1) dX11_marches_0 rfl rfl ?_
  refine g_iconst (v := 1) (pc' := 2) dX11_marches_1 (by decide) rfl ?_
  refine g_bipush (v := 40) (pc' := 4) dX11_marches_2 (by decide) rfl ?_
  refine g_callS (my := mX11_outside) (st := []) (av := [.int v, .int 1, .int 40]) (mcr := 0) (msr := 0) (mc := 0) (ms := 0) (pc' := 7) dX11_marches_4 kX11_outside wX11_71 rfl (Nat.le_of_ble_eq_true rfl) (by decide) (s_out1 (h1)) rfl ?_
  rintro _ _ ⟨rfl, rfl⟩
  show Go mX11_marches _ _ _ 7 [(0, .ref 0), (1, .int v)] [.int 1] (SK, M, N) _
  refine g_if_eq (tgt := 12) (pc' := 10) dX11_marches_7 (by decide) rfl (fun hc => absurd hc (by decide)) (fun _ => ?_)
  refine g_iconst (v := (-1)) (pc' := 11) dX11_marches_10 (by decide) rfl ?_
  exact g_iret dX11_marches_11 rfl rfl (CQ.same hI)
theorem not_rng1 {t : Nat} (h1 : 1 ≤ t) (h2 : t ≤ 40) : ¬ (nI t < 1 ∨ 40 < nI t) := by
  rintro (h | h)
  · exact nI_nlt (a := t) (b := 1) h1 (by omega) h
  · exact nI_nlt (a := 40) (b := t) h2 (by omega) h
set_option maxRecDepth 100000 in
set_option maxHeartbeats 1000000 in
theorem c_marches_f {M : Nat → Nat → Int32} {N : Nat → Nat → Int64} {n k : Nat} {P : Nat → Int32} {pa : List (Nat → Int32)} {kp : Option YS} {tp : List Int32} {sh : Nat → Option (Nat × Nat × (Nat → Int64))} (hA : AOk ((n, k, P, pa), kp, tp, sh)) (hI : CI M N ((n, k, P, pa), kp, tp, sh)) {t r : Nat} (ht1 : 1 ≤ t) (ht40 : t ≤ 40) (h3 : P 3 = nI r) (hr : r ≤ 9999) (hb : 9999 < r + t) : Run mX11_marches 30 0 0 [.ref 0, .int (nI t)] (SK, M, N) (CQ M N (-3) ((n, k, P, pa), kp, tp, sh)) := by
  refine Run.of (by decide) (Nat.le_of_ble_eq_true rfl) ?_
  have hok : OkP n k P := hA.1.1.1
  have hc0 : IsC M 14 n k P := hI.1.1
  have hn6 := hok.1
  have hk6 := hok.2.1
  refine g_iload_n (j := 1) (pc' := 1) dX11_marches_0 rfl rfl ?_
  refine g_iconst (v := 1) (pc' := 2) dX11_marches_1 (by decide) rfl ?_
  refine g_bipush (v := 40) (pc' := 4) dX11_marches_2 (by decide) rfl ?_
  refine g_callS (my := mX11_outside) (st := []) (av := [.int (nI t), .int 1, .int 40]) (mcr := 0) (msr := 0) (mc := 0) (ms := 0) (pc' := 7) dX11_marches_4 kX11_outside wX11_71 rfl (Nat.le_of_ble_eq_true rfl) (by decide) (s_out0 (not_rng1 ht1 ht40)) rfl ?_
  rintro _ _ ⟨rfl, rfl⟩
  show Go mX11_marches _ _ _ 7 [(0, .ref 0), (1, .int (nI t))] [.int 0] (SK, M, N) _
  refine g_if_eq (tgt := 12) (pc' := 10) dX11_marches_7 (by decide) rfl (fun _ => ?_) (fun hc => absurd rfl hc)
  refine g_aload_n (j := 0) (pc' := 13) dX11_marches_12 rfl rfl ?_
  refine g_getR (pc' := 16) dX11_marches_13 fX11_28 rfl rfl rfl ?_
  refine g_getI (pc' := 19) dX11_marches_16 fX11_164 rfl rfl rfl ?_
  refine g_iload_n (j := 1) (pc' := 20) dX11_marches_19 rfl rfl ?_
  rw [hc0.2.2.2.1]
  refine g_iadd (pc' := 21) dX11_marches_20 rfl ?_
  refine g_top (y := nI (r + t)) (nI_addE h3 rfl) ?_
  refine g_sipush (v := 9999) (pc' := 24) dX11_marches_21 (by decide) rfl ?_
  refine g_icmp_le (tgt := 30) (pc' := 27) dX11_marches_24 (by decide) rfl (fun hc => (absurd hc (nI_ge (a := 9999) (b := r + t) hb (by omega)))) (fun hc => ?_)
  refine g_bipush (v := (-3)) (pc' := 29) dX11_marches_27 (by decide) rfl ?_
  exact g_iret dX11_marches_29 rfl rfl (CQ.same hI)
set_option maxRecDepth 100000 in
set_option maxHeartbeats 1000000 in
theorem c_marches {M : Nat → Nat → Int32} {N : Nat → Nat → Int64} {n k : Nat} {P : Nat → Int32} {pa : List (Nat → Int32)} {kp : Option YS} {tp : List Int32} {sh : Nat → Option (Nat × Nat × (Nat → Int64))} (hA : AOk ((n, k, P, pa), kp, tp, sh)) (hI : CI M N ((n, k, P, pa), kp, tp, sh)) {t r : Nat} (ht1 : 1 ≤ t) (ht40 : t ≤ 40) (h3 : P 3 = nI r) (hb : r + t ≤ 9999) : Run mX11_marches 30 0 0 [.ref 0, .int (nI t)] (SK, M, N) (CQ M N (cnt4 (marS n k P pa t).1 n) ((n, k, (marS n k P pa t).1, (marS n k P pa t).2), kp, tp, sh)) := by
  refine Run.of (by decide) (Nat.le_of_ble_eq_true rfl) ?_
  have hok : OkP n k P := hA.1.1.1
  have hc0 : IsC M 14 n k P := hI.1.1
  have hn6 := hok.1
  have hk6 := hok.2.1
  refine g_iload_n (j := 1) (pc' := 1) dX11_marches_0 rfl rfl ?_
  refine g_iconst (v := 1) (pc' := 2) dX11_marches_1 (by decide) rfl ?_
  refine g_bipush (v := 40) (pc' := 4) dX11_marches_2 (by decide) rfl ?_
  refine g_callS (my := mX11_outside) (st := []) (av := [.int (nI t), .int 1, .int 40]) (mcr := 0) (msr := 0) (mc := 0) (ms := 0) (pc' := 7) dX11_marches_4 kX11_outside wX11_71 rfl (Nat.le_of_ble_eq_true rfl) (by decide) (s_out0 (not_rng1 ht1 ht40)) rfl ?_
  rintro _ _ ⟨rfl, rfl⟩
  show Go mX11_marches _ _ _ 7 [(0, .ref 0), (1, .int (nI t))] [.int 0] (SK, M, N) _
  refine g_if_eq (tgt := 12) (pc' := 10) dX11_marches_7 (by decide) rfl (fun _ => ?_) (fun hc => absurd rfl hc)
  refine g_aload_n (j := 0) (pc' := 13) dX11_marches_12 rfl rfl ?_
  refine g_getR (pc' := 16) dX11_marches_13 fX11_28 rfl rfl rfl ?_
  refine g_getI (pc' := 19) dX11_marches_16 fX11_164 rfl rfl rfl ?_
  refine g_iload_n (j := 1) (pc' := 20) dX11_marches_19 rfl rfl ?_
  rw [hc0.2.2.2.1]
  refine g_iadd (pc' := 21) dX11_marches_20 rfl ?_
  refine g_top (y := nI (r + t)) (nI_addE h3 rfl) ?_
  refine g_sipush (v := 9999) (pc' := 24) dX11_marches_21 (by decide) rfl ?_
  refine g_icmp_le (tgt := 30) (pc' := 27) dX11_marches_24 (by decide) rfl (fun hc => ?_) (fun hc => (absurd (nI_le (a := r + t) (b := 9999) hb (by omega)) hc))
  refine g_iconst (v := 0) (pc' := 31) dX11_marches_30 (by decide) rfl ?_
  refine g_istore_n (L' := [(0, .ref 0), (1, .int (nI t)), (2, .int 0)]) (pc' := 32) dX11_marches_31 (by decide) rfl rfl ?_
  have loop : ∀ (u j : Nat) (M1 : Nat → Nat → Int32), j + u = t → CI M1 N ((n, k, (marS n k P pa j).1, (marS n k P pa j).2), kp, tp, sh) → (∀ a, 189 ≤ a → M1 a = M a) → Go mX11_marches 30 0 0 32 [(0, .ref 0), (1, .int (nI t)), (2, .int (nI j))] [] (SK, M1, N) (CQ M N (cnt4 (marS n k P pa t).1 n) ((n, k, (marS n k P pa t).1, (marS n k P pa t).2), kp, tp, sh)) := by
    intro u
    induction u with
    | zero =>
      intro j M1 hj hJ hf
      have hjt : t = j := by omega
      subst hjt
      have hg := (marS_ok hA.1 h3 (t := t) (by omega)).1
      refine g_iload_n (j := 2) (pc' := 33) dX11_marches_32 rfl rfl ?_
      refine g_iload_n (j := 1) (pc' := 34) dX11_marches_33 rfl rfl ?_
      refine g_icmp_ge (tgt := 72) (pc' := 37) dX11_marches_34 (by decide) rfl (fun hc => ?_) (fun hc => ?_)
      · refine g_aload_n (j := 0) (pc' := 73) dX11_marches_72 rfl rfl ?_
        refine g_aload_n (j := 0) (pc' := 74) dX11_marches_73 rfl rfl ?_
        refine g_getR (pc' := 77) dX11_marches_74 fX11_28 rfl rfl rfl ?_
        refine g_getR (pc' := 80) dX11_marches_77 fX11_110 rfl rfl rfl ?_
        refine g_callV (my := mX11_setOfNamed) (k := 0) (st := []) (av := [.ref 19]) (mcr := 0) (msr := 0) (mc := 0) (ms := 0) (pc' := 83) dX11_marches_80 kX11_setOfNamed wX11_167 rfl ⟨rfl, rfl⟩ rfl (Nat.le_of_ble_eq_true rfl) (by decide) (s_setOf (c := 19) rfl hJ.1.1.1 hn6) rfl ?_
        rintro _ _ ⟨rfl, rfl⟩
        show Go mX11_marches _ _ _ 83 [(0, .ref 0), (1, .int (nI t)), (2, .int (nI t))] [.int (setF (fun m => decide (M1 19 m ≠ -1)) n)] (SK, M1, N) _
        refine g_top (y := cnt4 (marS n k P pa t).1 n) (set_called hg.1.1 hJ.1.1) ?_
        exact g_iret dX11_marches_83 rfl rfl (⟨M1, N, rfl, rfl, hJ, fun a ha => ⟨hf a ha, rfl⟩⟩)
      · exact absurd (nI_le (Nat.le_refl _) (by omega)) hc
    | succ u ih =>
      intro j M1 hj hJ hf
      refine g_iload_n (j := 2) (pc' := 33) dX11_marches_32 rfl rfl ?_
      refine g_iload_n (j := 1) (pc' := 34) dX11_marches_33 rfl rfl ?_
      refine g_icmp_ge (tgt := 72) (pc' := 37) dX11_marches_34 (by decide) rfl (fun hc => ?_) (fun hc => ?_)
      · exact absurd hc (nI_ge (by omega) (by omega))
      · have hg := marS_ok hA.1 h3 (t := j) (by omega)
        have hAj : AOk ((n, k, (marS n k P pa j).1, (marS n k P pa j).2), kp, tp, sh) := ⟨hg.1, hA.2⟩
        obtain ⟨wv, hw8, hw, hs, -⟩ := hJ.1.2
        refine g_aload_n (j := 0) (pc' := 38) dX11_marches_37 rfl rfl ?_
        refine g_getR (pc' := 41) dX11_marches_38 fX11_35 rfl rfl rfl ?_
        refine g_aload_n (j := 0) (pc' := 42) dX11_marches_41 rfl rfl ?_
        refine g_getR (pc' := 45) dX11_marches_42 fX11_28 rfl rfl rfl ?_
        refine g_callV (my := mX5_keep) (k := 22) (st := []) (av := [.ref 14]) (mcr := 0) (msr := 0) (mc := 0) (ms := 0) (pc' := 48) dX11_marches_45 kX5_keep wX11_183 rfl ⟨rfl, rfl⟩ rfl (Nat.le_of_ble_eq_true rfl) (by decide) (s_keep hw hw8 hs hAj.1.2.1) rfl ?_
        rintro _ _ ⟨M2, rfl, rfl, hK⟩
        show Go mX11_marches _ _ _ 48 [(0, .ref 0), (1, .int (nI t)), (2, .int (nI j))] [] (SK, M2, N) _
        have hY := CI.keepDone hAj hJ hw8 hw hK
        refine g_aload_n (j := 0) (pc' := 49) dX11_marches_48 rfl rfl ?_
        refine g_getR (pc' := 52) dX11_marches_49 fX11_10 rfl rfl rfl ?_
        refine g_aload_n (j := 0) (pc' := 53) dX11_marches_52 rfl rfl ?_
        refine g_getR (pc' := 56) dX11_marches_53 fX11_28 rfl rfl rfl ?_
        refine g_aload_n (j := 0) (pc' := 57) dX11_marches_56 rfl rfl ?_
        refine g_getR (pc' := 60) dX11_marches_57 fX11_28 rfl rfl rfl ?_
        refine g_getI (pc' := 63) dX11_marches_60 fX11_117 rfl rfl rfl ?_
        refine g_top (y := (marS n k P pa j).1 2) (hY.1.2.2.1) ?_
        refine g_callV (my := mX0_hold) (k := 1) (st := []) (av := [.ref 14, .int ((marS n k P pa j).1 2)]) (mcr := 0) (msr := 0) (mc := 0) (ms := 0) (pc' := 66) dX11_marches_63 kX0_hold wX11_186 rfl ⟨rfl, rfl⟩ rfl (Nat.le_of_ble_eq_true rfl) (by decide) (s_hold isPar14 hg.1.1.1 hY.1 ((marS n k P pa j).1 2)) rfl ?_
        rintro _ _ ⟨M3, rfl, rfl, hH⟩
        show Go mX11_marches _ _ _ 66 [(0, .ref 0), (1, .int (nI t)), (2, .int (nI j))] [] (SK, M3, N) _
        refine g_iinc (j := 2) (v := nI (j + 1)) (L' := [(0, .ref 0), (1, .int (nI t)), (2, .int (nI (j + 1)))]) (pc' := 69) dX11_marches_66 rfl (nI_1 j) (by decide) rfl rfl ?_
        refine g_goto (tgt := 32) dX11_marches_69 (by decide) ?_
        have hY3 : YC M3 14 22 (n, k, (marS n k P pa (j + 1)).1, (marS n k P pa (j + 1)).2) := by
          obtain ⟨-, wq, hq8, hq, hqs, hqg⟩ := hY
          exact ⟨hH.1, wq, hq8, by rw [hH.2 22 (by omega) (by omega) (by omega) (by omega)]; exact hq, by rw [hH.2 22 (by omega) (by omega) (by omega) (by omega)]; exact hqs, fun i Q hi => (hqg i Q hi).keep (fun a a1 a2 => hH.2 a (by omega) (by omega) (by omega) (by omega))⟩
        refine ih (j + 1) M3 (by omega) (hJ.now hY3 (fun a ta ha => ?_)) (fun a ha => ?_)
        · unfold tmpC at ta; rw [hH.2 a (by omega) (by omega) (by omega) (by omega)]; exact hK.2.2.2.2 a (by omega) (by omega)
        · rw [hH.2 a (by omega) (by omega) (by omega) (by omega), hK.2.2.2.2 a (by omega) (by omega)]; exact hf a ha
  exact loop t 0 M (by omega) hI (fun a _ => rfl)
/-- one MARCH of a DRIFT -/
def drP (n k : Nat) (P : Nat → Int32) : Nat → Int32 := marchP n k (upP P 46 (drawI (P 46))) (stonesI (drawI (P 46)))
def drS (n k : Nat) (P : Nat → Int32) (pa : List (Nat → Int32)) : Nat → (Nat → Int32) × List (Nat → Int32)
  | 0 => (P, pa)
  | t + 1 => (drP n k (drS n k P pa t).1, keepL (drS n k P pa t).1 (drS n k P pa t).2)
/-- how often one was called nothing, as the class counts -/
def drC (n k : Nat) (P : Nat → Int32) (pa : List (Nat → Int32)) : Nat → Int32
  | 0 => 0
  | t + 1 => drC n k P pa t + (nI n - bitC (cnt4 (drS n k P pa (t + 1)).1 n))
theorem drawI_nn (x : Int32) : ¬ drawI x < 0 := by
  unfold drawI
  generalize x * 1103515245 + 12345 = z
  have h : (z &&& 2147483647) = nI (z.toBitVec.toNat % 2 ^ 31) := pk_and z 31 (by decide)
  rw [h]
  exact nI_pos (Nat.mod_lt _ (by decide))
theorem OkP.draw {n k : Nat} {P : Nat → Int32} (h : OkP n k P) (x : Int32) : OkP n k (upP P 46 x) := by
  obtain ⟨h1, h2, h3, h4, h5, h6, h7, h8⟩ := h
  refine ⟨h1, h2, by rw [upP_ne (by omega)]; exact h3, by rw [upP_ne (by omega)]; exact h4, fun j hj => ?_, fun j a1 a2 => ?_, fun i hi => ?_, fun i a1 a2 => ?_⟩
  · simp (disch := omega) only [upP_ne]; exact h5 j hj
  · simp (disch := omega) only [upP_ne]; exact h6 j a1 a2
  · simp (disch := omega) only [upP_ne]; exact h7 i hi
  · simp (disch := omega) only [upP_ne]; exact h8 i a1 a2
theorem ParOk.draw {n k : Nat} {P : Nat → Int32} (h : ParOk n k P) {x : Int32} (hx : ¬ x < 0) : ParOk n k (upP P 46 x) := by
  obtain ⟨h1, ⟨r, hr, er⟩, ⟨s, hs, es⟩, h4⟩ := h
  exact ⟨h1.draw x, ⟨r, hr, by rw [upP_ne (by omega)]; exact er⟩, ⟨s, hs, by rw [upP_ne (by omega)]; exact es⟩, by rw [upP_at]; exact hx⟩
theorem drS_ok {n k r : Nat} {P : Nat → Int32} {pa : List (Nat → Int32)} (h : YOk (n, k, P, pa)) (h3 : P 3 = nI r) : ∀ {t : Nat}, r + t ≤ 9999 → YOk (n, k, (drS n k P pa t).1, (drS n k P pa t).2) ∧ (drS n k P pa t).1 3 = nI (r + t)
  | 0, _ => ⟨h, h3⟩
  | t + 1, ht => by
    obtain ⟨g1, g2⟩ := drS_ok h h3 (t := t) (by omega)
    have g0 := ParOk.draw g1.1 (drawI_nn ((drS n k P pa t).1 46))
    have g3 := ParOk.march (st := stonesI (drawI ((drS n k P pa t).1 46))) g0 (by rw [upP_ne (by omega)]; exact g2) (by omega)
    exact ⟨g1.deed g3.1 (fun j a b c => by
      show marchP n k _ _ j = _
      rw [mp_same c (by omega) g1.1.1.1 g1.1.1.2.1, upP_ne (by omega)]), g3.2⟩
set_option maxRecDepth 100000 in
set_option maxHeartbeats 1000000 in
theorem c_drift_b {M : Nat → Nat → Int32} {N : Nat → Nat → Int64} {n k : Nat} {P : Nat → Int32} {pa : List (Nat → Int32)} {kp : Option YS} {tp : List Int32} {sh : Nat → Option (Nat × Nat × (Nat → Int64))} (hA : AOk ((n, k, P, pa), kp, tp, sh)) (hI : CI M N ((n, k, P, pa), kp, tp, sh)) {v : Int32} (h1 : v < 1 ∨ 40 < v) : Run mX11_drift 30 0 0 [.ref 0, .int v] (SK, M, N) (CQ M N (-1) ((n, k, P, pa), kp, tp, sh)) := by
  refine Run.of (by decide) (Nat.le_of_ble_eq_true rfl) ?_
  have hok : OkP n k P := hA.1.1.1
  have hc0 : IsC M 14 n k P := hI.1.1
  have hn6 := hok.1
  have hk6 := hok.2.1
  refine g_iload_n (j := 1) (pc' := 1) dX11_drift_0 rfl rfl ?_
  refine g_iconst (v := 1) (pc' := 2) dX11_drift_1 (by decide) rfl ?_
  refine g_bipush (v := 40) (pc' := 4) dX11_drift_2 (by decide) rfl ?_
  refine g_callS (my := mX11_outside) (st := []) (av := [.int v, .int 1, .int 40]) (mcr := 0) (msr := 0) (mc := 0) (ms := 0) (pc' := 7) dX11_drift_4 kX11_outside wX11_71 rfl (Nat.le_of_ble_eq_true rfl) (by decide) (s_out1 (h1)) rfl ?_
  rintro _ _ ⟨rfl, rfl⟩
  show Go mX11_drift _ _ _ 7 [(0, .ref 0), (1, .int v)] [.int 1] (SK, M, N) _
  refine g_if_eq (tgt := 12) (pc' := 10) dX11_drift_7 (by decide) rfl (fun hc => absurd hc (by decide)) (fun _ => ?_)
  refine g_iconst (v := (-1)) (pc' := 11) dX11_drift_10 (by decide) rfl ?_
  exact g_iret dX11_drift_11 rfl rfl (CQ.same hI)
set_option maxRecDepth 100000 in
set_option maxHeartbeats 1000000 in
theorem c_drift_f {M : Nat → Nat → Int32} {N : Nat → Nat → Int64} {n k : Nat} {P : Nat → Int32} {pa : List (Nat → Int32)} {kp : Option YS} {tp : List Int32} {sh : Nat → Option (Nat × Nat × (Nat → Int64))} (hA : AOk ((n, k, P, pa), kp, tp, sh)) (hI : CI M N ((n, k, P, pa), kp, tp, sh)) {t r : Nat} (ht1 : 1 ≤ t) (ht40 : t ≤ 40) (h3 : P 3 = nI r) (hr : r ≤ 9999) (hb : 9999 < r + t) : Run mX11_drift 30 0 0 [.ref 0, .int (nI t)] (SK, M, N) (CQ M N (-3) ((n, k, P, pa), kp, tp, sh)) := by
  refine Run.of (by decide) (Nat.le_of_ble_eq_true rfl) ?_
  have hok : OkP n k P := hA.1.1.1
  have hc0 : IsC M 14 n k P := hI.1.1
  have hn6 := hok.1
  have hk6 := hok.2.1
  refine g_iload_n (j := 1) (pc' := 1) dX11_drift_0 rfl rfl ?_
  refine g_iconst (v := 1) (pc' := 2) dX11_drift_1 (by decide) rfl ?_
  refine g_bipush (v := 40) (pc' := 4) dX11_drift_2 (by decide) rfl ?_
  refine g_callS (my := mX11_outside) (st := []) (av := [.int (nI t), .int 1, .int 40]) (mcr := 0) (msr := 0) (mc := 0) (ms := 0) (pc' := 7) dX11_drift_4 kX11_outside wX11_71 rfl (Nat.le_of_ble_eq_true rfl) (by decide) (s_out0 (not_rng1 ht1 ht40)) rfl ?_
  rintro _ _ ⟨rfl, rfl⟩
  show Go mX11_drift _ _ _ 7 [(0, .ref 0), (1, .int (nI t))] [.int 0] (SK, M, N) _
  refine g_if_eq (tgt := 12) (pc' := 10) dX11_drift_7 (by decide) rfl (fun _ => ?_) (fun hc => absurd rfl hc)
  refine g_aload_n (j := 0) (pc' := 13) dX11_drift_12 rfl rfl ?_
  refine g_getR (pc' := 16) dX11_drift_13 fX11_28 rfl rfl rfl ?_
  refine g_getI (pc' := 19) dX11_drift_16 fX11_164 rfl rfl rfl ?_
  refine g_iload_n (j := 1) (pc' := 20) dX11_drift_19 rfl rfl ?_
  rw [hc0.2.2.2.1]
  refine g_iadd (pc' := 21) dX11_drift_20 rfl ?_
  refine g_top (y := nI (r + t)) (nI_addE h3 rfl) ?_
  refine g_sipush (v := 9999) (pc' := 24) dX11_drift_21 (by decide) rfl ?_
  refine g_icmp_le (tgt := 30) (pc' := 27) dX11_drift_24 (by decide) rfl (fun hc => (absurd hc (nI_ge (a := 9999) (b := r + t) hb (by omega)))) (fun hc => ?_)
  refine g_bipush (v := (-3)) (pc' := 29) dX11_drift_27 (by decide) rfl ?_
  exact g_iret dX11_drift_29 rfl rfl (CQ.same hI)
set_option maxRecDepth 100000 in
set_option maxHeartbeats 1000000 in
theorem c_drift {M : Nat → Nat → Int32} {N : Nat → Nat → Int64} {n k : Nat} {P : Nat → Int32} {pa : List (Nat → Int32)} {kp : Option YS} {tp : List Int32} {sh : Nat → Option (Nat × Nat × (Nat → Int64))} (hA : AOk ((n, k, P, pa), kp, tp, sh)) (hI : CI M N ((n, k, P, pa), kp, tp, sh)) {t r : Nat} (ht1 : 1 ≤ t) (ht40 : t ≤ 40) (h3 : P 3 = nI r) (hb : r + t ≤ 9999) : Run mX11_drift 30 0 0 [.ref 0, .int (nI t)] (SK, M, N) (CQ M N (drC n k P pa t) ((n, k, (drS n k P pa t).1, (drS n k P pa t).2), kp, tp, sh)) := by
  refine Run.of (by decide) (Nat.le_of_ble_eq_true rfl) ?_
  have hok : OkP n k P := hA.1.1.1
  have hc0 : IsC M 14 n k P := hI.1.1
  have hn6 := hok.1
  have hk6 := hok.2.1
  refine g_iload_n (j := 1) (pc' := 1) dX11_drift_0 rfl rfl ?_
  refine g_iconst (v := 1) (pc' := 2) dX11_drift_1 (by decide) rfl ?_
  refine g_bipush (v := 40) (pc' := 4) dX11_drift_2 (by decide) rfl ?_
  refine g_callS (my := mX11_outside) (st := []) (av := [.int (nI t), .int 1, .int 40]) (mcr := 0) (msr := 0) (mc := 0) (ms := 0) (pc' := 7) dX11_drift_4 kX11_outside wX11_71 rfl (Nat.le_of_ble_eq_true rfl) (by decide) (s_out0 (not_rng1 ht1 ht40)) rfl ?_
  rintro _ _ ⟨rfl, rfl⟩
  show Go mX11_drift _ _ _ 7 [(0, .ref 0), (1, .int (nI t))] [.int 0] (SK, M, N) _
  refine g_if_eq (tgt := 12) (pc' := 10) dX11_drift_7 (by decide) rfl (fun _ => ?_) (fun hc => absurd rfl hc)
  refine g_aload_n (j := 0) (pc' := 13) dX11_drift_12 rfl rfl ?_
  refine g_getR (pc' := 16) dX11_drift_13 fX11_28 rfl rfl rfl ?_
  refine g_getI (pc' := 19) dX11_drift_16 fX11_164 rfl rfl rfl ?_
  refine g_iload_n (j := 1) (pc' := 20) dX11_drift_19 rfl rfl ?_
  rw [hc0.2.2.2.1]
  refine g_iadd (pc' := 21) dX11_drift_20 rfl ?_
  refine g_top (y := nI (r + t)) (nI_addE h3 rfl) ?_
  refine g_sipush (v := 9999) (pc' := 24) dX11_drift_21 (by decide) rfl ?_
  refine g_icmp_le (tgt := 30) (pc' := 27) dX11_drift_24 (by decide) rfl (fun hc => ?_) (fun hc => (absurd (nI_le (a := r + t) (b := 9999) hb (by omega)) hc))
  refine g_iconst (v := 0) (pc' := 31) dX11_drift_30 (by decide) rfl ?_
  refine g_istore_n (L' := [(0, .ref 0), (1, .int (nI t)), (2, .int 0)]) (pc' := 32) dX11_drift_31 (by decide) rfl rfl ?_
  refine g_iconst (v := 0) (pc' := 33) dX11_drift_32 (by decide) rfl ?_
  refine g_istore_n (L' := [(0, .ref 0), (1, .int (nI t)), (2, .int 0), (3, .int 0)]) (pc' := 34) dX11_drift_33 (by decide) rfl rfl ?_
  have loop : ∀ (u j : Nat) (M1 : Nat → Nat → Int32), j + u = t → CI M1 N ((n, k, (drS n k P pa j).1, (drS n k P pa j).2), kp, tp, sh) → (∀ a, 189 ≤ a → M1 a = M a) → Go mX11_drift 30 0 0 34 [(0, .ref 0), (1, .int (nI t)), (2, .int (drC n k P pa j)), (3, .int (nI j))] [] (SK, M1, N) (CQ M N (drC n k P pa t) ((n, k, (drS n k P pa t).1, (drS n k P pa t).2), kp, tp, sh)) := by
    intro u
    induction u with
    | zero =>
      intro j M1 hj hJ hf
      have hjt : t = j := by omega
      subst hjt
      refine g_iload_n (j := 3) (pc' := 35) dX11_drift_34 rfl rfl ?_
      refine g_iload_n (j := 1) (pc' := 36) dX11_drift_35 rfl rfl ?_
      refine g_icmp_ge (tgt := 99) (pc' := 39) dX11_drift_36 (by decide) rfl (fun hc => ?_) (fun hc => ?_)
      · refine g_iload_n (j := 2) (pc' := 100) dX11_drift_99 rfl rfl ?_
        exact g_iret dX11_drift_100 rfl rfl (⟨M1, N, rfl, rfl, hJ, fun a ha => ⟨hf a ha, rfl⟩⟩)
      · exact absurd (nI_le (Nat.le_refl _) (by omega)) hc
    | succ u ih =>
      intro j M1 hj hJ hf
      refine g_iload_n (j := 3) (pc' := 35) dX11_drift_34 rfl rfl ?_
      refine g_iload_n (j := 1) (pc' := 36) dX11_drift_35 rfl rfl ?_
      refine g_icmp_ge (tgt := 99) (pc' := 39) dX11_drift_36 (by decide) rfl (fun hc => ?_) (fun hc => ?_)
      · exact absurd hc (nI_ge (by omega) (by omega))
      · have hg := drS_ok hA.1 h3 (t := j) (by omega)
        have hg2 := drS_ok hA.1 h3 (t := j + 1) (by omega)
        have hAj : AOk ((n, k, (drS n k P pa j).1, (drS n k P pa j).2), kp, tp, sh) := ⟨hg.1, hA.2⟩
        obtain ⟨wv, hw8, hw, hs, -⟩ := hJ.1.2
        refine g_aload_n (j := 0) (pc' := 40) dX11_drift_39 rfl rfl ?_
        refine g_getR (pc' := 43) dX11_drift_40 fX11_35 rfl rfl rfl ?_
        refine g_aload_n (j := 0) (pc' := 44) dX11_drift_43 rfl rfl ?_
        refine g_getR (pc' := 47) dX11_drift_44 fX11_28 rfl rfl rfl ?_
        refine g_callV (my := mX5_keep) (k := 22) (st := []) (av := [.ref 14]) (mcr := 0) (msr := 0) (mc := 0) (ms := 0) (pc' := 50) dX11_drift_47 kX5_keep wX11_183 rfl ⟨rfl, rfl⟩ rfl (Nat.le_of_ble_eq_true rfl) (by decide) (s_keep hw hw8 hs hAj.1.2.1) rfl ?_
        rintro _ _ ⟨M2, rfl, rfl, hK⟩
        show Go mX11_drift _ _ _ 50 [(0, .ref 0), (1, .int (nI t)), (2, .int (drC n k P pa j)), (3, .int (nI j))] [] (SK, M2, N) _
        have hY := CI.keepDone hAj hJ hw8 hw hK
        have hY1 := hY.1
        refine g_aload_n (j := 0) (pc' := 51) dX11_drift_50 rfl rfl ?_
        refine g_getR (pc' := 54) dX11_drift_51 fX11_10 rfl rfl rfl ?_
        refine g_aload_n (j := 0) (pc' := 55) dX11_drift_54 rfl rfl ?_
        refine g_getR (pc' := 58) dX11_drift_55 fX11_28 rfl rfl rfl ?_
        refine g_aload_n (j := 0) (pc' := 59) dX11_drift_58 rfl rfl ?_
        refine g_getR (pc' := 62) dX11_drift_59 fX11_28 rfl rfl rfl ?_
        refine g_callV (my := mX4_drawStones) (k := 14) (st := [.ref 14, .ref 1]) (av := []) (mcr := 0) (msr := 0) (mc := 0) (ms := 0) (pc' := 65) dX11_drift_62 kX4_drawStones wX11_190 rfl ⟨rfl, rfl⟩ rfl (Nat.le_of_ble_eq_true rfl) (by decide) (s_drawStones par14) rfl ?_
        rintro _ _ ⟨M3, rfl, rfl, hd, hdf⟩
        show Go mX11_drift _ _ _ 65 [(0, .ref 0), (1, .int (nI t)), (2, .int (drC n k P pa j)), (3, .int (nI j))] [.int (stonesI (drawI (M2 14 4))), .ref 14, .ref 1] (SK, M3, N) _
        rw [hY1.2.2.2.2.1]
        have hI3 : IsC M3 14 n k (upP (drS n k P pa j).1 46 (drawI ((drS n k P pa j).1 46))) := by
          obtain ⟨e0, e1, e2, e3, e4, e5, e6⟩ := hY1
          refine ⟨hd.1.trans e0, hd.2.1.trans e1, ?_, ?_, ?_, fun m hm => ?_, fun i hi => ?_⟩
          · rw [hd.2.2.1, upP_ne (by omega)]; exact e2
          · rw [hd.2.2.2.1, upP_ne (by omega)]; exact e3
          · rw [hd.2.2.2.2, upP_at, e4]
          · rw [hdf (14 + 1) (by omega), hdf (14 + 2) (by omega), hdf (14 + 3) (by omega), hdf (14 + 4) (by omega), hdf (14 + 5) (by omega)]
            simp (disch := omega) only [upP_ne]; exact e5 m hm
          · rw [hdf (14 + 6) (by omega), hdf (14 + 7) (by omega)]
            simp (disch := omega) only [upP_ne]; exact e6 i hi
        refine g_callV (my := mX0_hold) (k := 1) (st := []) (av := [.ref 14, .int (stonesI (drawI ((drS n k P pa j).1 46)))]) (mcr := 0) (msr := 0) (mc := 0) (ms := 0) (pc' := 68) dX11_drift_65 kX0_hold wX11_186 rfl ⟨rfl, rfl⟩ rfl (Nat.le_of_ble_eq_true rfl) (by decide) (s_hold isPar14 (hg.1.1.1.draw _) hI3 (stonesI (drawI ((drS n k P pa j).1 46)))) rfl ?_
        rintro _ _ ⟨M4, rfl, rfl, hH⟩
        show Go mX11_drift _ _ _ 68 [(0, .ref 0), (1, .int (nI t)), (2, .int (drC n k P pa j)), (3, .int (nI j))] [] (SK, M4, N) _
        have hY4 : YC M4 14 22 (n, k, (drS n k P pa (j + 1)).1, (drS n k P pa (j + 1)).2) := by
          obtain ⟨-, wq, hq8, hq, hqs, hqg⟩ := hY
          exact ⟨hH.1, wq, hq8, by rw [hH.2 22 (by omega) (by omega) (by omega) (by omega), hdf 22 (by omega)]; exact hq, by rw [hH.2 22 (by omega) (by omega) (by omega) (by omega), hdf 22 (by omega)]; exact hqs, fun i Q hi => (hqg i Q hi).keep (fun a a1 a2 => by rw [hH.2 a (by omega) (by omega) (by omega) (by omega), hdf a (by omega)])⟩
        refine g_iload_n (j := 2) (pc' := 69) dX11_drift_68 rfl rfl ?_
        refine g_aload_n (j := 0) (pc' := 70) dX11_drift_69 rfl rfl ?_
        refine g_getR (pc' := 73) dX11_drift_70 fX11_28 rfl rfl rfl ?_
        refine g_getI (pc' := 76) dX11_drift_73 fX11_75 rfl rfl rfl ?_
        refine g_top (y := nI n) (hY4.1.1) ?_
        refine g_aload_n (j := 0) (pc' := 77) dX11_drift_76 rfl rfl ?_
        refine g_aload_n (j := 0) (pc' := 78) dX11_drift_77 rfl rfl ?_
        refine g_getR (pc' := 81) dX11_drift_78 fX11_28 rfl rfl rfl ?_
        refine g_getR (pc' := 84) dX11_drift_81 fX11_110 rfl rfl rfl ?_
        refine g_callV (my := mX11_setOfNamed) (k := 0) (st := [.int (nI n), .int (drC n k P pa j)]) (av := [.ref 19]) (mcr := 0) (msr := 0) (mc := 0) (ms := 0) (pc' := 87) dX11_drift_84 kX11_setOfNamed wX11_167 rfl ⟨rfl, rfl⟩ rfl (Nat.le_of_ble_eq_true rfl) (by decide) (s_setOf (c := 19) rfl hY4.1.1 hn6) rfl ?_
        rintro _ _ ⟨rfl, rfl⟩
        show Go mX11_drift _ _ _ 87 [(0, .ref 0), (1, .int (nI t)), (2, .int (drC n k P pa j)), (3, .int (nI j))] [.int (setF (fun m => decide (M4 19 m ≠ -1)) n), .int (nI n), .int (drC n k P pa j)] (SK, M4, N) _
        refine g_top (y := cnt4 (drS n k P pa (j + 1)).1 n) (set_called hg2.1.1.1 hY4.1) ?_
        refine g_callS (my := mJ6_bitCount_0f7a4) (st := [.int (nI n), .int (drC n k P pa j)]) (av := [.int (cnt4 (drS n k P pa (j + 1)).1 n)]) (mcr := 0) (msr := 0) (mc := 0) (ms := 0) (pc' := 90) dX11_drift_87 kJ6_bitCount_0f7a4 wX11_194 rfl (Nat.le_of_ble_eq_true rfl) (by decide) (s_bitCount _ _) rfl ?_
        rintro _ _ ⟨rfl, rfl⟩
        show Go mX11_drift _ _ _ 90 [(0, .ref 0), (1, .int (nI t)), (2, .int (drC n k P pa j)), (3, .int (nI j))] [.int (bitC (cnt4 (drS n k P pa (j + 1)).1 n)), .int (nI n), .int (drC n k P pa j)] (SK, M4, N) _
        refine g_isub (pc' := 91) dX11_drift_90 rfl ?_
        refine g_iadd (pc' := 92) dX11_drift_91 rfl ?_
        refine g_istore_n (L' := [(0, .ref 0), (1, .int (nI t)), (2, .int ((drC n k P pa j) + ((nI n) - (bitC (cnt4 (drS n k P pa (j + 1)).1 n))))), (3, .int (nI j))]) (pc' := 93) dX11_drift_92 (by decide) rfl rfl ?_
        refine g_iinc (j := 3) (v := nI (j + 1)) (L' := [(0, .ref 0), (1, .int (nI t)), (2, .int ((drC n k P pa j) + ((nI n) - (bitC (cnt4 (drS n k P pa (j + 1)).1 n))))), (3, .int (nI (j + 1)))]) (pc' := 96) dX11_drift_93 rfl (nI_1 j) (by decide) rfl rfl ?_
        refine g_goto (tgt := 34) dX11_drift_96 (by decide) ?_
        refine ih (j + 1) M4 (by omega) (hJ.now hY4 (fun a ta ha => ?_)) (fun a ha => ?_)
        · unfold tmpC at ta; rw [hH.2 a (by omega) (by omega) (by omega) (by omega), hdf a (by omega)]; exact hK.2.2.2.2 a (by omega) (by omega)
        · rw [hH.2 a (by omega) (by omega) (by omega) (by omega), hdf a (by omega), hK.2.2.2.2 a (by omega) (by omega)]; exact hf a ha
  exact loop t 0 M (by omega) hI (fun a _ => rfl)
theorem YC.pcopied {M M' : Nat → Nat → Int32} {p q ps qs n k : Nat} {P : Nat → Int32} {pa : List (Nat → Int32)} (hn : n ≤ 6) (hk : k ≤ 6) (h : YC M q qs (n, k, P, pa)) (h1 : IsC M' p n k P) (e1 : M' ps 1 = M qs 1) (e2 : M' ps 2 = M qs 2) (e3 : ∀ a j, 2 ≤ a → a < 66 → j < 6 → ((a - 2) % 8 = 0 → j < 5) → M' (ps + a) j = M (qs + a) j) : YC M' p ps (n, k, P, pa) := by
  obtain ⟨-, w, hw, g2, g3, g4⟩ := h
  refine ⟨h1, w, hw, e1.trans g2, e2.trans g3, fun i Q hi => ?_⟩
  refine (g4 i Q hi).copied2 hn hk (fun j hj => ?_) (fun a j a1 a7 hj => ?_)
  · have := e3 (2 + 8 * ((w + 8 - i) % 8)) j (by omega) (by omega) (by omega) (by omega)
    rw [show ps + 2 + 8 * ((w + 8 - i) % 8) = ps + (2 + 8 * ((w + 8 - i) % 8)) by omega, show qs + 2 + 8 * ((w + 8 - i) % 8) = qs + (2 + 8 * ((w + 8 - i) % 8)) by omega]
    exact this
  · have := e3 (2 + 8 * ((w + 8 - i) % 8) + a) j (by omega) (by omega) hj (by omega)
    rw [show ps + 2 + 8 * ((w + 8 - i) % 8) + a = ps + (2 + 8 * ((w + 8 - i) % 8) + a) by omega, show qs + 2 + 8 * ((w + 8 - i) % 8) + a = qs + (2 + 8 * ((w + 8 - i) % 8) + a) by omega]
    exact this
set_option maxRecDepth 100000 in
set_option maxHeartbeats 1000000 in
theorem c_image {M : Nat → Nat → Int32} {N : Nat → Nat → Int64} {n k : Nat} {P : Nat → Int32} {pa : List (Nat → Int32)} {kp : Option YS} {tp : List Int32} {sh : Nat → Option (Nat × Nat × (Nat → Int64))} (hA : AOk ((n, k, P, pa), kp, tp, sh)) (hI : CI M N ((n, k, P, pa), kp, tp, sh))  : Run mX11_image 30 0 0 [.ref 0] (SK, M, N) (CQ M N (1) ((n, k, P, pa), some (n, k, P, pa), tp, sh)) := by
  refine Run.of (by decide) (Nat.le_of_ble_eq_true rfl) ?_
  have hok : OkP n k P := hA.1.1.1
  have hc0 : IsC M 14 n k P := hI.1.1
  have hn6 := hok.1
  have hk6 := hok.2.1
  refine g_aload_n (j := 0) (pc' := 1) dX11_image_0 rfl rfl ?_
  refine g_getR (pc' := 4) dX11_image_1 fX11_39 rfl rfl rfl ?_
  refine g_aload_n (j := 0) (pc' := 5) dX11_image_4 rfl rfl ?_
  refine g_getR (pc' := 8) dX11_image_5 fX11_28 rfl rfl rfl ?_
  refine g_callV (my := mX4_become) (k := 88) (st := []) (av := [.ref 14]) (mcr := 0) (msr := 0) (mc := 0) (ms := 0) (pc' := 11) dX11_image_8 kX4_become wX11_160 rfl ⟨rfl, rfl⟩ rfl (Nat.le_of_ble_eq_true rfl) (by decide) (s_become par88 par14 (by omega)) rfl ?_
  rintro _ _ ⟨M1, rfl, rfl, hc⟩
  show Go mX11_image _ _ _ 11 [(0, .ref 0)] [] (SK, M1, N) _
  have hk1 : IsC M1 88 n k P := hc0.copied hn6 hk6 hc
  refine g_aload_n (j := 0) (pc' := 12) dX11_image_11 rfl rfl ?_
  refine g_getR (pc' := 15) dX11_image_12 fX11_42 rfl rfl rfl ?_
  refine g_aload_n (j := 0) (pc' := 16) dX11_image_15 rfl rfl ?_
  refine g_getR (pc' := 19) dX11_image_16 fX11_35 rfl rfl rfl ?_
  refine g_callV (my := mX5_become) (k := 96) (st := []) (av := [.ref 22]) (mcr := 0) (msr := 0) (mc := 0) (ms := 0) (pc' := 22) dX11_image_19 kX5_become wX11_228 rfl ⟨rfl, rfl⟩ rfl (Nat.le_of_ble_eq_true rfl) (by decide) (s_pbecome96) rfl ?_
  rintro _ _ ⟨M2, rfl, rfl, p1, p2, p3, p4⟩
  show Go mX11_image _ _ _ 22 [(0, .ref 0)] [] (SK, M2, N) _
  have hY1 : YC M1 14 22 (n, k, P, pa) := hI.1.keep (fun a a1 a2 => hc.2.2 a (by omega)) (fun a a1 a2 => hc.2.2 a (by omega))
  have hY2 : YC M2 14 22 (n, k, P, pa) := hY1.keep (fun a a1 a2 => p4 a (by omega)) (fun a a1 a2 => p4 a (by omega))
  have hK2 : YC M2 88 96 (n, k, P, pa) := hY1.pcopied hn6 hk6 (hk1.keep (fun a a1 a2 => p4 a (by omega))) p1 p2 p3
  have hf : ∀ a, (a < 88 ∨ 162 ≤ a) → M2 a = M a := fun a ha => by rw [p4 a (by omega), hc.2.2 a (by omega)]
  refine g_aload_n (j := 0) (pc' := 23) dX11_image_22 rfl rfl ?_
  refine g_iconst (v := 1) (pc' := 24) dX11_image_23 (by decide) rfl ?_
  refine g_putI (pc' := 27) dX11_image_24 fX11_45 rfl rfl ⟨by decide, by decide⟩ rfl ?_
  refine g_iconst (v := 1) (pc' := 28) dX11_image_27 (by decide) rfl ?_
  exact g_iret dX11_image_28 rfl rfl (⟨um M2 0 6 1, N, rfl, rfl, ⟨hY2.keep (fun a a1 a2 => um_ne (by omega)) (fun a a1 a2 => um_ne (by omega)), ⟨um_at, hK2.keep (fun a a1 a2 => um_ne (by omega)) (fun a a1 a2 => um_ne (by omega))⟩, hI.2.2.1.keep (by rw [um_ne (by omega), hf 170 (by omega)]) (by rw [um_ne (by omega), hf 171 (by omega)]), fun i hi => (hI.2.2.2 i hi).keep (by rw [um_ne (by omega), hf _ (by omega)]) rfl⟩, fun a ha => ⟨by rw [um_ne (by omega), hf a (by omega)], rfl⟩⟩)
set_option maxRecDepth 100000 in
set_option maxHeartbeats 1000000 in
theorem c_restore_n {M : Nat → Nat → Int32} {N : Nat → Nat → Int64} {n k : Nat} {P : Nat → Int32} {pa : List (Nat → Int32)} {kp : Option YS} {tp : List Int32} {sh : Nat → Option (Nat × Nat × (Nat → Int64))} (hA : AOk ((n, k, P, pa), kp, tp, sh)) (hI : CI M N ((n, k, P, pa), kp, tp, sh)) (h0 : kp = none) : Run mX11_restore 30 0 0 [.ref 0] (SK, M, N) (CQ M N (-4) ((n, k, P, pa), kp, tp, sh)) := by
  refine Run.of (by decide) (Nat.le_of_ble_eq_true rfl) ?_
  have hok : OkP n k P := hA.1.1.1
  have hc0 : IsC M 14 n k P := hI.1.1
  have hn6 := hok.1
  have hk6 := hok.2.1
  have hk0 : M 0 6 = 0 := by subst h0; exact hI.2.1
  refine g_aload_n (j := 0) (pc' := 1) dX11_restore_0 rfl rfl ?_
  refine g_getI (pc' := 4) dX11_restore_1 fX11_45 rfl rfl rfl ?_
  rw [hk0]
  refine g_if_ne (tgt := 10) (pc' := 7) dX11_restore_4 (by decide) rfl (fun hc => (absurd rfl hc)) (fun hc => ?_)
  refine g_bipush (v := (-4)) (pc' := 9) dX11_restore_7 (by decide) rfl ?_
  exact g_iret dX11_restore_9 rfl rfl (CQ.same hI)
set_option maxRecDepth 100000 in
set_option maxHeartbeats 1000000 in
theorem c_restore {M : Nat → Nat → Int32} {N : Nat → Nat → Int64} {n k : Nat} {P : Nat → Int32} {pa : List (Nat → Int32)} {kp : Option YS} {tp : List Int32} {sh : Nat → Option (Nat × Nat × (Nat → Int64))} (hA : AOk ((n, k, P, pa), kp, tp, sh)) (hI : CI M N ((n, k, P, pa), kp, tp, sh)) {n2 k2 : Nat} {P2 : Nat → Int32} {pa2 : List (Nat → Int32)} (h0 : kp = some (n2, k2, P2, pa2)) : Run mX11_restore 30 0 0 [.ref 0] (SK, M, N) (CQ M N (1) ((n2, k2, P2, pa2), some (n2, k2, P2, pa2), tp, sh)) := by
  refine Run.of (by decide) (Nat.le_of_ble_eq_true rfl) ?_
  have hok : OkP n k P := hA.1.1.1
  have hc0 : IsC M 14 n k P := hI.1.1
  have hn6 := hok.1
  have hk6 := hok.2.1
  subst h0
  obtain ⟨hk0, hYk⟩ : M 0 6 = 1 ∧ YC M 88 96 (n2, k2, P2, pa2) := hI.2.1
  have hok2 : OkP n2 k2 P2 := (hA.2.1 _ rfl).1.1
  refine g_aload_n (j := 0) (pc' := 1) dX11_restore_0 rfl rfl ?_
  refine g_getI (pc' := 4) dX11_restore_1 fX11_45 rfl rfl rfl ?_
  rw [hk0]
  refine g_if_ne (tgt := 10) (pc' := 7) dX11_restore_4 (by decide) rfl (fun hc => ?_) (fun hc => (absurd hc (by decide)))
  refine g_aload_n (j := 0) (pc' := 11) dX11_restore_10 rfl rfl ?_
  refine g_getR (pc' := 14) dX11_restore_11 fX11_28 rfl rfl rfl ?_
  refine g_aload_n (j := 0) (pc' := 15) dX11_restore_14 rfl rfl ?_
  refine g_getR (pc' := 18) dX11_restore_15 fX11_39 rfl rfl rfl ?_
  refine g_callV (my := mX4_become) (k := 14) (st := []) (av := [.ref 88]) (mcr := 0) (msr := 0) (mc := 0) (ms := 0) (pc' := 21) dX11_restore_18 kX4_become wX11_160 rfl ⟨rfl, rfl⟩ rfl (Nat.le_of_ble_eq_true rfl) (by decide) (s_become par14 par88 (by omega)) rfl ?_
  rintro _ _ ⟨M1, rfl, rfl, hc⟩
  show Go mX11_restore _ _ _ 21 [(0, .ref 0)] [] (SK, M1, N) _
  have hk1 : IsC M1 14 n2 k2 P2 := hYk.1.copied hok2.1 hok2.2.1 hc
  refine g_aload_n (j := 0) (pc' := 22) dX11_restore_21 rfl rfl ?_
  refine g_getR (pc' := 25) dX11_restore_22 fX11_35 rfl rfl rfl ?_
  refine g_aload_n (j := 0) (pc' := 26) dX11_restore_25 rfl rfl ?_
  refine g_getR (pc' := 29) dX11_restore_26 fX11_42 rfl rfl rfl ?_
  refine g_callV (my := mX5_become) (k := 22) (st := []) (av := [.ref 96]) (mcr := 0) (msr := 0) (mc := 0) (ms := 0) (pc' := 32) dX11_restore_29 kX5_become wX11_228 rfl ⟨rfl, rfl⟩ rfl (Nat.le_of_ble_eq_true rfl) (by decide) (s_pbecome22) rfl ?_
  rintro _ _ ⟨M2, rfl, rfl, p1, p2, p3, p4⟩
  show Go mX11_restore _ _ _ 32 [(0, .ref 0)] [] (SK, M2, N) _
  have hYk1 : YC M1 88 96 (n2, k2, P2, pa2) := hYk.keep (fun a a1 a2 => hc.2.2 a (by omega)) (fun a a1 a2 => hc.2.2 a (by omega))
  have hY2 : YC M2 14 22 (n2, k2, P2, pa2) := hYk1.pcopied hok2.1 hok2.2.1 (hk1.keep (fun a a1 a2 => p4 a (by omega))) p1 p2 p3
  refine g_iconst (v := 1) (pc' := 33) dX11_restore_32 (by decide) rfl ?_
  exact g_iret dX11_restore_33 rfl rfl (CQ.now hI hY2 (fun a ta ha => by rw [p4 a (by omega), hc.2.2 a (by omega)]))
