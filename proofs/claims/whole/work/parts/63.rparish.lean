theorem not_rngN {lo hi j : Nat} (hj : j < 1000) (hh : hi < 1000) (h : ¬ (lo ≤ j ∧ j ≤ hi)) (hl : lo < 1000) : nI j < nI lo ∨ nI hi < nI j := by
  by_cases e : j < lo
  · exact Or.inl (nI_lt e (by omega))
  · exact Or.inr (nI_lt (by omega) (by omega))
theorem emP_eq (d s : Int32) (x : Nat) : emP d s x = if x = 46 then d else if x = 2 then s else if 28 ≤ x ∧ x ≤ 33 then -4 else 0 := by
  unfold emP
  by_cases e46 : x = 46
  · subst e46; rw [if_neg (by omega), if_neg (by omega), if_pos rfl, if_pos rfl]
  · rw [if_neg (c := x = 46) e46, if_neg (c := x = 46) e46]
    by_cases e2 : x = 2
    · rw [if_pos e2, if_pos e2]
    · rw [if_neg e2, if_neg e2]
      by_cases e : 28 ≤ x ∧ x < 34
      · rw [if_pos e, if_pos (by omega)]
      · rw [if_neg e, if_neg (by omega)]
set_option maxRecDepth 100000 in
set_option maxHeartbeats 1000000 in
theorem r_begins {sk : List (Nat × List Value)} {M : Nat → Nat → Int32} {N : Nat → Nat → Int64} {c : Nat} (hs : sk[c]? = some (100, rep 352)) (st dr : Int32) : Run mX12_begins 1 0 0 [.ref c, .int st, .int dr] (sk, M, N) (fun r h' => ∃ M', h' = (sk, M', N) ∧ r = none ∧ (∀ x, x < 352 → M' c x = emP dr st x) ∧ ∀ a, a ≠ c → M' a = M a) := by
  refine Run.of (by decide) (Nat.le_of_ble_eq_true rfl) ?_
  refine g_iconst (v := 0) (pc' := 1) dX12_begins_0 (by decide) rfl ?_
  refine g_istore_n (L' := [(0, .ref c), (1, .int st), (2, .int dr), (3, .int 0)]) (pc' := 2) dX12_begins_1 (by decide) rfl rfl ?_
  have loop : ∀ (u j : Nat) (M1 : Nat → Nat → Int32), j + u = 352 → (∀ x, x < j → M1 c x = if 28 ≤ x ∧ x ≤ 33 then -4 else 0) → (∀ a, a ≠ c → M1 a = M a) → Go mX12_begins 1 0 0 2 [(0, .ref c), (1, .int st), (2, .int dr), (3, .int (nI j))] [] (sk, M1, N) (fun r h' => ∃ M', h' = (sk, M', N) ∧ r = none ∧ (∀ x, x < 352 → M' c x = emP dr st x) ∧ ∀ a, a ≠ c → M' a = M a) := by
    intro u
    induction u with
    | zero =>
      intro j M1 hj hx hf
      refine g_iload_n (j := 3) (pc' := 3) dX12_begins_2 rfl rfl ?_
      refine g_sipush (v := 352) (pc' := 6) dX12_begins_3 (by decide) rfl ?_
      refine g_icmp_ge (tgt := 38) (pc' := 9) dX12_begins_6 (by decide) rfl (fun hc => ?_) (fun hc => (absurd (nI_le (a := 352) (b := j) (by omega) (by omega)) hc))
      refine g_aload_n (j := 0) (pc' := 39) dX12_begins_38 rfl rfl ?_
      refine g_iconst (v := 2) (pc' := 40) dX12_begins_39 (by decide) rfl ?_
      refine g_iload_n (j := 1) (pc' := 41) dX12_begins_40 rfl rfl ?_
      refine g_iast (n := 2) (pc' := 42) dX12_begins_41 hs rfl (by omega) rfl ?_
      refine g_aload_n (j := 0) (pc' := 43) dX12_begins_42 rfl rfl ?_
      refine g_bipush (v := 46) (pc' := 45) dX12_begins_43 (by decide) rfl ?_
      refine g_iload_n (j := 2) (pc' := 46) dX12_begins_45 rfl rfl ?_
      refine g_iast (n := 46) (pc' := 47) dX12_begins_46 hs rfl (by omega) rfl ?_
      generalize hM2 : (um (um M1 c 2 st) c 46 dr) = M2
      refine g_vret dX12_begins_47 rfl (⟨M2, rfl, rfl, fun x hx2 => ?_, fun a ha => by rw [← hM2, um_ne ha, um_ne ha]; exact hf a ha⟩)
      rw [← hM2, emP_eq]
      by_cases e46 : x = 46
      · subst e46; rw [um_at, if_pos rfl]
      · rw [um_at2 e46, if_neg e46]
        by_cases e2 : x = 2
        · subst e2; rw [um_at, if_pos rfl]
        · rw [um_at2 e2, if_neg e2]; exact hx x (by omega)
    | succ u ih =>
      intro j M1 hj hx hf
      refine g_iload_n (j := 3) (pc' := 3) dX12_begins_2 rfl rfl ?_
      refine g_sipush (v := 352) (pc' := 6) dX12_begins_3 (by decide) rfl ?_
      refine g_icmp_ge (tgt := 38) (pc' := 9) dX12_begins_6 (by decide) rfl (fun hc => (absurd hc (nI_ge (a := j) (b := 352) (by omega) (by omega)))) (fun hc => ?_)
      by_cases h28 : 28 ≤ j ∧ j ≤ 33
      · refine g_aload_n (j := 0) (pc' := 10) dX12_begins_9 rfl rfl ?_
        refine g_iload_n (j := 3) (pc' := 11) dX12_begins_10 rfl rfl ?_
        refine g_iload_n (j := 3) (pc' := 12) dX12_begins_11 rfl rfl ?_
        refine g_i2l (pc' := 13) dX12_begins_12 rfl ?_
        refine g_ldc2 (v := 28) (pc' := 16) dX12_begins_13 qX12_51 rfl ?_
        refine g_ldc2 (v := 33) (pc' := 19) dX12_begins_16 qX12_53 rfl ?_
        refine g_callS (my := mX12_in) (st := [.int (nI j), .ref c]) (av := [.long (Int32.toInt64 (nI j)), .long 28, .long 33]) (mcr := 0) (msr := 0) (mc := 0) (ms := 0) (pc' := 22) dX12_begins_19 kX12_in wX12_55 rfl (Nat.le_of_ble_eq_true rfl) (by decide) (r_in1 (lo := 28) (hi := 33) (by decide) (by decide) (rng2 (lo := 28) (hi := 33) h28.1 h28.2 (by omega))) rfl ?_
        rintro _ _ ⟨rfl, rfl⟩
        show Go mX12_begins _ _ _ 22 [(0, .ref c), (1, .int st), (2, .int dr), (3, .int (nI j))] [.int 1, .int (nI j), .ref c] (sk, M1, N) _
        refine g_if_eq (tgt := 30) (pc' := 25) dX12_begins_22 (by decide) rfl (fun hc => absurd hc (by decide)) (fun _ => ?_)
        refine g_bipush (v := (-4)) (pc' := 27) dX12_begins_25 (by decide) rfl ?_
        refine g_goto (tgt := 31) dX12_begins_27 (by decide) ?_
        refine g_iast (n := j) (pc' := 32) dX12_begins_31 hs rfl (by omega) rfl ?_
        generalize hM2 : (um M1 c j (-4)) = M2
        refine g_iinc (j := 3) (v := nI (j + 1)) (L' := [(0, .ref c), (1, .int st), (2, .int dr), (3, .int (nI (j + 1)))]) (pc' := 35) dX12_begins_32 rfl (nI_1 j) (by decide) rfl rfl ?_
        refine g_goto (tgt := 2) dX12_begins_35 (by decide) ?_
        refine ih (j + 1) M2 (by omega) (fun x hx2 => ?_) (fun a ha => by rw [← hM2, um_ne ha]; exact hf a ha)
        rw [← hM2]
        by_cases e : x = j
        · subst e; rw [um_at, if_pos h28]
        · rw [um_at2 e]; exact hx x (by omega)
      · refine g_aload_n (j := 0) (pc' := 10) dX12_begins_9 rfl rfl ?_
        refine g_iload_n (j := 3) (pc' := 11) dX12_begins_10 rfl rfl ?_
        refine g_iload_n (j := 3) (pc' := 12) dX12_begins_11 rfl rfl ?_
        refine g_i2l (pc' := 13) dX12_begins_12 rfl ?_
        refine g_ldc2 (v := 28) (pc' := 16) dX12_begins_13 qX12_51 rfl ?_
        refine g_ldc2 (v := 33) (pc' := 19) dX12_begins_16 qX12_53 rfl ?_
        refine g_callS (my := mX12_in) (st := [.int (nI j), .ref c]) (av := [.long (Int32.toInt64 (nI j)), .long 28, .long 33]) (mcr := 0) (msr := 0) (mc := 0) (ms := 0) (pc' := 22) dX12_begins_19 kX12_in wX12_55 rfl (Nat.le_of_ble_eq_true rfl) (by decide) (r_in0 (lo := 28) (hi := 33) (by decide) (by decide) (not_rngN (lo := 28) (hi := 33) (by omega) (by omega) h28 (by omega))) rfl ?_
        rintro _ _ ⟨rfl, rfl⟩
        show Go mX12_begins _ _ _ 22 [(0, .ref c), (1, .int st), (2, .int dr), (3, .int (nI j))] [.int 0, .int (nI j), .ref c] (sk, M1, N) _
        refine g_if_eq (tgt := 30) (pc' := 25) dX12_begins_22 (by decide) rfl (fun _ => ?_) (fun hc => absurd rfl hc)
        refine g_iconst (v := 0) (pc' := 31) dX12_begins_30 (by decide) rfl ?_
        refine g_iast (n := j) (pc' := 32) dX12_begins_31 hs rfl (by omega) rfl ?_
        generalize hM2 : (um M1 c j 0) = M2
        refine g_iinc (j := 3) (v := nI (j + 1)) (L' := [(0, .ref c), (1, .int st), (2, .int dr), (3, .int (nI (j + 1)))]) (pc' := 35) dX12_begins_32 rfl (nI_1 j) (by decide) rfl rfl ?_
        refine g_goto (tgt := 2) dX12_begins_35 (by decide) ?_
        refine ih (j + 1) M2 (by omega) (fun x hx2 => ?_) (fun a ha => by rw [← hM2, um_ne ha]; exact hf a ha)
        rw [← hM2]
        by_cases e : x = j
        · subst e; rw [um_at, if_neg h28]
        · rw [um_at2 e]; exact hx x (by omega)
  exact loop 352 0 M (by omega) (fun x hx => absurd hx (Nat.not_lt_zero _)) (fun _ _ => rfl)
theorem pOne_skB {tf : Nat → Nat} {len i p s : Nat} (h : p ≤ len) (hs : skB tf len p = s) : pOne tf len i s = pOne tf len i p := by
  unfold pOne; rw [← hs, skB_skB h]
theorem one4 {tf : Nat → Nat} {len p s : Nat} (htf : ∀ j, j < len → tf j < 128) (hs : skB tf len p = s) (h : ¬ (s < len ∧ tf s = 44)) : pOne tf len 4 p = pOne tf len 1 p := by
  by_cases hlt : s < len
  · have h4 := ix4 (htf s hlt)
    have h1 := ix1 (htf s hlt)
    by_cases e : tf s = 59
    · rw [if_pos e] at h4 h1
      rw [pOne_yes hs hlt h4, pOne_yes hs hlt h1]
    · rw [if_neg e, if_neg (fun q => h ⟨hlt, q⟩)] at h4
      rw [if_neg e] at h1
      rw [pOne_no hs hlt h4, pOne_no hs hlt h1]
  · rw [pOne_end hs hlt, pOne_end hs hlt]
theorem hrI_44 {tf : Nat → Nat} {len s : Nat} (htf : ∀ j, j < len → tf j < 128) (h : ¬ (s < len ∧ tf s = 44)) : ¬ hrI tf len s = 44 := by
  unfold hrI
  by_cases hlt : s < len
  · rw [if_pos hlt]
    intro q
    have := htf s hlt
    exact h ⟨hlt, (nI_eq (b := 44) (by omega) (by omega)).mp q⟩
  · rw [if_neg hlt]; decide
def RdR (M : Nat → Nat → Int32) (N : Nat → Nat → Int64) (e : Option (Nat × Nat × (Nat → Int32)) × Nat) : AQ := fun r h' => ∃ M', h' = (SK, M', N) ∧ Fr2 M M' ∧ match e.1 with
  | none => r = some (.int 0) ∧ M' 189 14 = nI e.2
  | some t => r = some (.int 1) ∧ ∀ j, j < 48 → M' 192 j = t.2.2 j
theorem RdR.no {M M' : Nat → Nat → Int32} {N : Nat → Nat → Int64} {e : Option (Nat × Nat × (Nat → Int32)) × Nat} {q : Nat} (he : e = (none, q)) (hf : Fr2 M M') (h : M' 189 14 = nI q) : RdR M N e (some (.int 0)) (SK, M', N) := by
  subst he; exact ⟨M', rfl, hf, rfl, h⟩
theorem RdR.yes {M M' : Nat → Nat → Int32} {N : Nat → Nat → Int64} {e : Option (Nat × Nat × (Nat → Int32)) × Nat} {q : Nat} {t : Nat × Nat × (Nat → Int32)} (he : e = (some t, q)) (hf : Fr2 M M') (h : ∀ j, j < 48 → M' 192 j = t.2.2 j) : RdR M N e (some (.int 1)) (SK, M', N) := by
  subst he; exact ⟨M', rfl, hf, rfl, h⟩
set_option maxRecDepth 100000 in
set_option maxHeartbeats 1000000 in
theorem r_reads {M : Nat → Nat → Int32} {N : Nat → Nat → Int64} {tf : Nat → Nat} {len : Nat} (hl : len ≤ 80) (htf : ∀ j, j < len → tf j < 128) (h6 : M 189 6 = nI len) (ht : ∀ j, j < len → M 194 j = nI (tf j)) {d : Int32} (hd : M 190 46 = d) : Run mX12_reads 20 0 0 [.ref 189] (SK, M, N) (RdR M N (pRead tf len d)) := by
  refine Run.of (by decide) (Nat.le_of_ble_eq_true rfl) ?_
  have exitM : ∀ (q s : Nat) (M3 : Nat → Nat → Int32), q ≤ len → skB tf len q = s → TapeR M3 tf len s → Fr2 M M3 → (∀ (qz : Nat) (M2 : Nat → Nat → Int32), pOne tf len 1 q = (none, qz) → Fr2 M M2 → M2 189 14 = nI qz → (RdR M N (pRead tf len d)) (some (.int 0)) (SK, M2, N)) → (∀ (q2 : Nat) (M5 : Nat → Nat → Int32), pOne tf len 1 q = (some 0, q2) → q2 ≤ len → TapeR M5 tf len q2 → M5 192 = M3 192 → Fr2 M M5 → Go mX12_reads 20 0 0 112 [(0, .ref 189)] [] (SK, M5, N) (RdR M N (pRead tf len d))) → Go mX12_reads 20 0 0 78 [(0, .ref 189), (1, .int 1)] [] (SK, M3, N) (RdR M N (pRead tf len d)) := by
    intro q s M3 hq hs hT3 hF3 hno hyes
    have hsl : s ≤ len := by rw [← hs]; exact (skB_le hq).2
    refine g_iconst (v := 0) (pc' := 79) dX12_reads_78 (by decide) rfl ?_
    refine g_istore_n (L' := [(0, .ref 189), (1, .int 0)]) (pc' := 80) dX12_reads_79 (by decide) rfl rfl ?_
    refine g_aload_n (j := 0) (pc' := 81) dX12_reads_80 rfl rfl ?_
    refine g_dup (pc' := 82) dX12_reads_81 rfl rfl ?_
    refine g_getI (pc' := 85) dX12_reads_82 fX12_112 rfl rfl rfl ?_
    refine g_top (y := nI s) (hT3.2.1) ?_
    refine g_iload_n (j := 1) (pc' := 86) dX12_reads_85 rfl rfl ?_
    refine g_if_eq (tgt := 93) (pc' := 89) dX12_reads_86 (by decide) rfl (fun _ => ?_) (fun hc => absurd rfl hc)
    refine g_iconst (v := 0) (pc' := 94) dX12_reads_93 (by decide) rfl ?_
    refine g_iadd (pc' := 95) dX12_reads_94 rfl ?_
    refine g_top (y := nI s) (Int32.add_zero _) ?_
    refine g_putI (pc' := 98) dX12_reads_95 fX12_112 rfl rfl ⟨rfl, rfl⟩ rfl ?_
    have hT4 := hT3.at (q := s)
    have hF4 := hF3.up (j := 13) (x := nI s) (Or.inl rfl)
    have h192 : um M3 189 13 (nI s) 192 = M3 192 := um_ne (by omega)
    generalize hM4 : (um M3 189 13 (nI s)) = M4
    rw [hM4] at hT4 hF4 h192
    refine g_goto (tgt := 41) dX12_reads_98 (by decide) ?_
    refine g_iload_n (j := 1) (pc' := 42) dX12_reads_41 rfl rfl ?_
    refine g_if_eq (tgt := 101) (pc' := 45) dX12_reads_42 (by decide) rfl (fun _ => ?_) (fun hc => absurd rfl hc)
    refine g_less (L' := [(0, .ref 189)]) [0] rfl ?_
    have hpo := pOne_skB (i := 1) hq hs
    cases heS : pOne tf len 1 s with
    | mk o qS =>
      cases o with
      | none =>
        have hcall := r_sign (N := N) hl hsl htf hT4 (c := 59) (i := 1) (by omega) (fun x h => ix1 h)
        rw [heS] at hcall
        refine g_aload_n (j := 0) (pc' := 102) dX12_reads_101 rfl rfl ?_
        refine g_bipush (v := 59) (pc' := 104) dX12_reads_102 (by decide) rfl ?_
        refine g_callV (my := mX12_sign) (k := 189) (st := []) (av := [.int 59]) (mcr := 0) (msr := 0) (mc := 0) (ms := 0) (pc' := 107) dX12_reads_104 kX12_sign wX12_139 rfl ⟨rfl, rfl⟩ rfl (Nat.le_of_ble_eq_true rfl) (by decide) (hcall) rfl ?_
        rintro _ _ ⟨M5, rfl, hFS, rfl, hwS⟩
        show Go mX12_reads _ _ _ 107 [(0, .ref 189)] [.int 0] (SK, M5, N) _
        refine g_if_ne (tgt := 112) (pc' := 110) dX12_reads_107 (by decide) rfl (fun hc => absurd rfl hc) (fun _ => ?_)
        refine g_iconst (v := 0) (pc' := 111) dX12_reads_110 (by decide) rfl ?_
        exact g_iret dX12_reads_111 rfl (by decide) (hno qS M5 (hpo.symm.trans heS) (hF4.trans hFS.two) hwS)
      | some v =>
        have hcall := r_sign (N := N) hl hsl htf hT4 (c := 59) (i := 1) (by omega) (fun x h => ix1 h)
        rw [heS] at hcall
        refine g_aload_n (j := 0) (pc' := 102) dX12_reads_101 rfl rfl ?_
        refine g_bipush (v := 59) (pc' := 104) dX12_reads_102 (by decide) rfl ?_
        refine g_callV (my := mX12_sign) (k := 189) (st := []) (av := [.int 59]) (mcr := 0) (msr := 0) (mc := 0) (ms := 0) (pc' := 107) dX12_reads_104 kX12_sign wX12_139 rfl ⟨rfl, rfl⟩ rfl (Nat.le_of_ble_eq_true rfl) (by decide) (hcall) rfl ?_
        rintro _ _ ⟨M5, rfl, hFS, rfl, hTS, hqS⟩
        show Go mX12_reads _ _ _ 107 [(0, .ref 189)] [.int 1] (SK, M5, N) _
        refine g_if_ne (tgt := 112) (pc' := 110) dX12_reads_107 (by decide) rfl (fun _ => ?_) (fun hc => absurd hc (by decide))
        obtain rfl : v = 0 := by have := pOne_b heS 1 (by decide); omega
        exact hyes qS M5 (hpo.symm.trans heS) hqS hTS ((hFS.2 192 (by omega)).trans h192) (hF4.trans hFS.two)
  have men : ∀ (f n : Nat) (P : Nat → Int32) (p : Nat) (M1 : Nat → Nat → Int32), n + f = 5 → TapeR M1 tf len p → p ≤ len → (∀ j, j < 48 → M1 192 j = P j) → P 0 = nI n → P 1 = 0 → Fr2 M M1 → (∀ (qz : Nat) (M2 : Nat → Nat → Int32), pMenF tf len f n P p = (none, qz) → Fr2 M M2 → M2 189 14 = nI qz → (RdR M N (pRead tf len d)) (some (.int 0)) (SK, M2, N)) → (∀ (t : Nat × (Nat → Int32)) (q : Nat) (M2 : Nat → Nat → Int32), pMenF tf len f n P p = (some t, q) → q ≤ len → TapeR M2 tf len q → (∀ j, j < 48 → M2 192 j = t.2 j) → t.2 1 = 0 → Fr2 M M2 → Go mX12_reads 20 0 0 112 [(0, .ref 189)] [] (SK, M2, N) (RdR M N (pRead tf len d))) → Go mX12_reads 20 0 0 41 [(0, .ref 189), (1, .int 1)] [] (SK, M1, N) (RdR M N (pRead tf len d)) := by
    intro f
    induction f with
    | zero =>
      intro n P p M1 hnf hT1 hp1 hR1 h0 h1 hF1 hno hyes
      refine g_iload_n (j := 1) (pc' := 42) dX12_reads_41 rfl rfl ?_
      refine g_if_eq (tgt := 101) (pc' := 45) dX12_reads_42 (by decide) rfl (fun hc => absurd hc (by decide)) (fun _ => ?_)
      cases heA : pMan tf len p with
      | mk o qA =>
        cases o with
        | none =>
          have hcall := r_readsMan (N := N) hl hp1 htf hT1 (n := n) (P := P) (by omega) h0 hR1
          rw [heA] at hcall
          refine g_aload_n (j := 0) (pc' := 46) dX12_reads_45 rfl rfl ?_
          refine g_callV (my := mX12_readsMan) (k := 189) (st := []) (av := []) (mcr := 0) (msr := 0) (mc := 0) (ms := 0) (pc' := 49) dX12_reads_46 kX12_readsMan wX12_142 rfl ⟨rfl, rfl⟩ rfl (Nat.le_of_ble_eq_true rfl) (by decide) (hcall) rfl ?_
          rintro _ _ ⟨M2, rfl, hFA, rfl, hwA⟩
          show Go mX12_reads _ _ _ 49 [(0, .ref 189), (1, .int 1)] [.int 0] (SK, M2, N) _
          refine g_if_ne (tgt := 54) (pc' := 52) dX12_reads_49 (by decide) rfl (fun hc => absurd rfl hc) (fun _ => ?_)
          refine g_iconst (v := 0) (pc' := 53) dX12_reads_52 (by decide) rfl ?_
          exact g_iret dX12_reads_53 rfl (by decide) (hno qA M2 (by simp only [pMenF, heA]) (hF1.trans hFA) hwA)
        | some t =>
          have hcall := r_readsMan (N := N) hl hp1 htf hT1 (n := n) (P := P) (by omega) h0 hR1
          rw [heA] at hcall
          refine g_aload_n (j := 0) (pc' := 46) dX12_reads_45 rfl rfl ?_
          refine g_callV (my := mX12_readsMan) (k := 189) (st := []) (av := []) (mcr := 0) (msr := 0) (mc := 0) (ms := 0) (pc' := 49) dX12_reads_46 kX12_readsMan wX12_142 rfl ⟨rfl, rfl⟩ rfl (Nat.le_of_ble_eq_true rfl) (by decide) (hcall) rfl ?_
          rintro _ _ ⟨M2, rfl, hFA, rfl, hTA, hqA, hrA⟩
          show Go mX12_reads _ _ _ 49 [(0, .ref 189), (1, .int 1)] [.int 1] (SK, M2, N) _
          refine g_if_ne (tgt := 54) (pc' := 52) dX12_reads_49 (by decide) rfl (fun _ => ?_) (fun hc => absurd hc (by decide))
          dsimp only at hTA hqA hrA
          have e0 : manP P n (nI t.1) (nI t.2.1) (nI (t.2.2 + 1)) 0 = nI (n + 1) := by unfold manP; simp (disch := omega) only [upP_ne, upP_at]
          have e1 : manP P n (nI t.1) (nI t.2.1) (nI (t.2.2 + 1)) 1 = 0 := by unfold manP; simp (disch := omega) only [upP_ne]; exact h1
          obtain ⟨s, hs⟩ : ∃ s, skB tf len qA = s := ⟨_, rfl⟩
          have hsl : s ≤ len := by rw [← hs]; exact (skB_le hqA).2
          refine g_aload_n (j := 0) (pc' := 55) dX12_reads_54 rfl rfl ?_
          refine g_callV (my := mX12_here) (k := 189) (st := []) (av := []) (mcr := 0) (msr := 0) (mc := 0) (ms := 0) (pc' := 58) dX12_reads_55 kX12_here wX12_122 rfl ⟨rfl, rfl⟩ rfl (Nat.le_of_ble_eq_true rfl) (by decide) (s_here hl hqA htf hTA hs) rfl ?_
          rintro _ _ ⟨M3, rfl, rfl, hT3, hw3, hF3⟩
          show Go mX12_reads _ _ _ 58 [(0, .ref 189), (1, .int 1)] [.int (hrI tf len s)] (SK, M3, N) _
          have hR3 : ∀ j, j < 48 → M3 192 j = manP P n (nI t.1) (nI t.2.1) (nI (t.2.2 + 1)) j := fun j hj => by rw [hF3.2 192 (by omega)]; exact hrA j hj
          have hF3b := (hF1.trans hFA).trans hF3.two
          by_cases h44 : s < len ∧ tf s = 44
          · rw [show hrI tf len s = 44 by unfold hrI; rw [if_pos h44.1, h44.2]; rfl]
            refine g_bipush (v := 44) (pc' := 60) dX12_reads_58 (by decide) rfl ?_
            refine g_icmp_ne (tgt := 78) (pc' := 63) dX12_reads_60 (by decide) rfl (fun hc => (absurd rfl hc)) (fun hc => ?_)
            refine g_aload_n (j := 0) (pc' := 64) dX12_reads_63 rfl rfl ?_
            refine g_getR (pc' := 67) dX12_reads_64 fX12_16 rfl rfl rfl ?_
            refine g_iconst (v := 0) (pc' := 68) dX12_reads_67 (by decide) rfl ?_
            refine g_iald (n := 0) (pc' := 69) dX12_reads_68 rfl rfl (by omega) rfl ?_
            refine g_top (y := nI (n + 1)) ((hR3 0 (by omega)).trans e0) ?_
            refine g_bipush (v := 6) (pc' := 71) dX12_reads_69 (by decide) rfl ?_
            refine g_icmp_ge (tgt := 78) (pc' := 74) dX12_reads_71 (by decide) rfl (fun hc => ?_) (fun hc => (absurd (nI_le (a := 6) (b := n + 1) (by omega) (by omega)) hc))
            exact exitM qA s M3 hqA hs hT3 hF3b (fun q M5 e hf hw => hno q M5 (by simp only [pMenF, heA, e]) hf hw) (fun q2 M5 e hq2 hT5 h5 hf => hyes (n + 1, manP P n (nI t.1) (nI t.2.1) (nI (t.2.2 + 1))) q2 M5 (by simp only [pMenF, heA, e]) hq2 hT5 (fun j hj => by rw [h5]; exact hR3 j hj) e1 hf)
          · refine g_bipush (v := 44) (pc' := 60) dX12_reads_58 (by decide) rfl ?_
            refine g_icmp_ne (tgt := 78) (pc' := 63) dX12_reads_60 (by decide) rfl (fun hc => ?_) (fun hc => (absurd hc (hrI_44 htf h44)))
            exact exitM qA s M3 hqA hs hT3 hF3b (fun q M5 e hf hw => hno q M5 (by simp only [pMenF, heA, e]) hf hw) (fun q2 M5 e hq2 hT5 h5 hf => hyes (n + 1, manP P n (nI t.1) (nI t.2.1) (nI (t.2.2 + 1))) q2 M5 (by simp only [pMenF, heA, e]) hq2 hT5 (fun j hj => by rw [h5]; exact hR3 j hj) e1 hf)
    | succ f ih =>
      intro n P p M1 hnf hT1 hp1 hR1 h0 h1 hF1 hno hyes
      refine g_iload_n (j := 1) (pc' := 42) dX12_reads_41 rfl rfl ?_
      refine g_if_eq (tgt := 101) (pc' := 45) dX12_reads_42 (by decide) rfl (fun hc => absurd hc (by decide)) (fun _ => ?_)
      cases heA : pMan tf len p with
      | mk o qA =>
        cases o with
        | none =>
          have hcall := r_readsMan (N := N) hl hp1 htf hT1 (n := n) (P := P) (by omega) h0 hR1
          rw [heA] at hcall
          refine g_aload_n (j := 0) (pc' := 46) dX12_reads_45 rfl rfl ?_
          refine g_callV (my := mX12_readsMan) (k := 189) (st := []) (av := []) (mcr := 0) (msr := 0) (mc := 0) (ms := 0) (pc' := 49) dX12_reads_46 kX12_readsMan wX12_142 rfl ⟨rfl, rfl⟩ rfl (Nat.le_of_ble_eq_true rfl) (by decide) (hcall) rfl ?_
          rintro _ _ ⟨M2, rfl, hFA, rfl, hwA⟩
          show Go mX12_reads _ _ _ 49 [(0, .ref 189), (1, .int 1)] [.int 0] (SK, M2, N) _
          refine g_if_ne (tgt := 54) (pc' := 52) dX12_reads_49 (by decide) rfl (fun hc => absurd rfl hc) (fun _ => ?_)
          refine g_iconst (v := 0) (pc' := 53) dX12_reads_52 (by decide) rfl ?_
          exact g_iret dX12_reads_53 rfl (by decide) (hno qA M2 (by simp only [pMenF, heA]) (hF1.trans hFA) hwA)
        | some t =>
          have hcall := r_readsMan (N := N) hl hp1 htf hT1 (n := n) (P := P) (by omega) h0 hR1
          rw [heA] at hcall
          refine g_aload_n (j := 0) (pc' := 46) dX12_reads_45 rfl rfl ?_
          refine g_callV (my := mX12_readsMan) (k := 189) (st := []) (av := []) (mcr := 0) (msr := 0) (mc := 0) (ms := 0) (pc' := 49) dX12_reads_46 kX12_readsMan wX12_142 rfl ⟨rfl, rfl⟩ rfl (Nat.le_of_ble_eq_true rfl) (by decide) (hcall) rfl ?_
          rintro _ _ ⟨M2, rfl, hFA, rfl, hTA, hqA, hrA⟩
          show Go mX12_reads _ _ _ 49 [(0, .ref 189), (1, .int 1)] [.int 1] (SK, M2, N) _
          refine g_if_ne (tgt := 54) (pc' := 52) dX12_reads_49 (by decide) rfl (fun _ => ?_) (fun hc => absurd hc (by decide))
          dsimp only at hTA hqA hrA
          have e0 : manP P n (nI t.1) (nI t.2.1) (nI (t.2.2 + 1)) 0 = nI (n + 1) := by unfold manP; simp (disch := omega) only [upP_ne, upP_at]
          have e1 : manP P n (nI t.1) (nI t.2.1) (nI (t.2.2 + 1)) 1 = 0 := by unfold manP; simp (disch := omega) only [upP_ne]; exact h1
          obtain ⟨s, hs⟩ : ∃ s, skB tf len qA = s := ⟨_, rfl⟩
          have hsl : s ≤ len := by rw [← hs]; exact (skB_le hqA).2
          refine g_aload_n (j := 0) (pc' := 55) dX12_reads_54 rfl rfl ?_
          refine g_callV (my := mX12_here) (k := 189) (st := []) (av := []) (mcr := 0) (msr := 0) (mc := 0) (ms := 0) (pc' := 58) dX12_reads_55 kX12_here wX12_122 rfl ⟨rfl, rfl⟩ rfl (Nat.le_of_ble_eq_true rfl) (by decide) (s_here hl hqA htf hTA hs) rfl ?_
          rintro _ _ ⟨M3, rfl, rfl, hT3, hw3, hF3⟩
          show Go mX12_reads _ _ _ 58 [(0, .ref 189), (1, .int 1)] [.int (hrI tf len s)] (SK, M3, N) _
          have hR3 : ∀ j, j < 48 → M3 192 j = manP P n (nI t.1) (nI t.2.1) (nI (t.2.2 + 1)) j := fun j hj => by rw [hF3.2 192 (by omega)]; exact hrA j hj
          have hF3b := (hF1.trans hFA).trans hF3.two
          by_cases h44 : s < len ∧ tf s = 44
          · rw [show hrI tf len s = 44 by unfold hrI; rw [if_pos h44.1, h44.2]; rfl]
            refine g_bipush (v := 44) (pc' := 60) dX12_reads_58 (by decide) rfl ?_
            refine g_icmp_ne (tgt := 78) (pc' := 63) dX12_reads_60 (by decide) rfl (fun hc => (absurd rfl hc)) (fun hc => ?_)
            refine g_aload_n (j := 0) (pc' := 64) dX12_reads_63 rfl rfl ?_
            refine g_getR (pc' := 67) dX12_reads_64 fX12_16 rfl rfl rfl ?_
            refine g_iconst (v := 0) (pc' := 68) dX12_reads_67 (by decide) rfl ?_
            refine g_iald (n := 0) (pc' := 69) dX12_reads_68 rfl rfl (by omega) rfl ?_
            refine g_top (y := nI (n + 1)) ((hR3 0 (by omega)).trans e0) ?_
            refine g_bipush (v := 6) (pc' := 71) dX12_reads_69 (by decide) rfl ?_
            refine g_icmp_ge (tgt := 78) (pc' := 74) dX12_reads_71 (by decide) rfl (fun hc => (absurd hc (nI_ge (a := n + 1) (b := 6) (by omega) (by omega)))) (fun hc => ?_)
            have h4 : pOne tf len 4 qA = (some 1, s + 1) := pOne_yes hs h44.1 (by rw [ix4 (htf s h44.1), if_neg (by omega), if_pos h44.2])
            refine g_iconst (v := 1) (pc' := 75) dX12_reads_74 (by decide) rfl ?_
            refine g_goto (tgt := 79) dX12_reads_75 (by decide) ?_
            refine g_istore_n (L' := [(0, .ref 189), (1, .int 1)]) (pc' := 80) dX12_reads_79 (by decide) rfl rfl ?_
            refine g_aload_n (j := 0) (pc' := 81) dX12_reads_80 rfl rfl ?_
            refine g_dup (pc' := 82) dX12_reads_81 rfl rfl ?_
            refine g_getI (pc' := 85) dX12_reads_82 fX12_112 rfl rfl rfl ?_
            refine g_top (y := nI s) (hT3.2.1) ?_
            refine g_iload_n (j := 1) (pc' := 86) dX12_reads_85 rfl rfl ?_
            refine g_if_eq (tgt := 93) (pc' := 89) dX12_reads_86 (by decide) rfl (fun hc => absurd hc (by decide)) (fun _ => ?_)
            refine g_iconst (v := 1) (pc' := 90) dX12_reads_89 (by decide) rfl ?_
            refine g_goto (tgt := 94) dX12_reads_90 (by decide) ?_
            refine g_iadd (pc' := 95) dX12_reads_94 rfl ?_
            refine g_top (y := nI (s + 1)) (nI_1 s) ?_
            refine g_putI (pc' := 98) dX12_reads_95 fX12_112 rfl rfl ⟨rfl, rfl⟩ rfl ?_
            have hT4 := hT3.at (q := s + 1)
            have hF4 := hF3b.up (j := 13) (x := nI (s + 1)) (Or.inl rfl)
            have hR4 : ∀ j, j < 48 → um M3 189 13 (nI (s + 1)) 192 j = manP P n (nI t.1) (nI t.2.1) (nI (t.2.2 + 1)) j := fun j hj => by rw [um_ne (by omega)]; exact hR3 j hj
            generalize hM4 : (um M3 189 13 (nI (s + 1))) = M4
            rw [hM4] at hT4 hF4 hR4
            refine g_goto (tgt := 41) dX12_reads_98 (by decide) ?_
            refine ih (n + 1) (manP P n (nI t.1) (nI t.2.1) (nI (t.2.2 + 1))) (s + 1) M4 (by omega) hT4 h44.1 hR4 e0 e1 hF4 (fun q M5 e hf hw => hno q M5 (by simp only [pMenF, heA, h4]; exact e) hf hw) (fun t2 q2 M5 e => hyes t2 q2 M5 (by simp only [pMenF, heA, h4]; exact e))
          · refine g_bipush (v := 44) (pc' := 60) dX12_reads_58 (by decide) rfl ?_
            refine g_icmp_ne (tgt := 78) (pc' := 63) dX12_reads_60 (by decide) rfl (fun hc => ?_) (fun hc => (absurd hc (hrI_44 htf h44)))
            have h4 := one4 htf hs h44
            exact exitM qA s M3 hqA hs hT3 hF3b (fun q M5 e hf hw => hno q M5 (by simp only [pMenF, heA, h4.trans e]) hf hw) (fun q2 M5 e hq2 hT5 h5 hf => hyes (n + 1, manP P n (nI t.1) (nI t.2.1) (nI (t.2.2 + 1))) q2 M5 (by simp only [pMenF, heA, h4.trans e]) hq2 hT5 (fun j hj => by rw [h5]; exact hR3 j hj) e1 hf)
  have exitN : ∀ (q s : Nat) (M3 : Nat → Nat → Int32), q ≤ len → skB tf len q = s → TapeR M3 tf len s → Fr2 M M3 → (s < len → ∀ M2 : Nat → Nat → Int32, Fr2 M M2 → M2 189 14 = nI s → (RdR M N (pRead tf len d)) (some (.int 0)) (SK, M2, N)) → (len ≤ s → ∀ M2 : Nat → Nat → Int32, M2 192 = M3 192 → Fr2 M M2 → (RdR M N (pRead tf len d)) (some (.int 1)) (SK, M2, N)) → Go mX12_reads 20 0 0 151 [(0, .ref 189), (1, .int 1)] [] (SK, M3, N) (RdR M N (pRead tf len d)) := by
    intro q s M3 hq hs hT3 hF3 hno hyes
    have hsl : s ≤ len := by rw [← hs]; exact (skB_le hq).2
    refine g_iconst (v := 0) (pc' := 152) dX12_reads_151 (by decide) rfl ?_
    refine g_istore_n (L' := [(0, .ref 189), (1, .int 0)]) (pc' := 153) dX12_reads_152 (by decide) rfl rfl ?_
    refine g_aload_n (j := 0) (pc' := 154) dX12_reads_153 rfl rfl ?_
    refine g_dup (pc' := 155) dX12_reads_154 rfl rfl ?_
    refine g_getI (pc' := 158) dX12_reads_155 fX12_112 rfl rfl rfl ?_
    refine g_top (y := nI s) (hT3.2.1) ?_
    refine g_iload_n (j := 1) (pc' := 159) dX12_reads_158 rfl rfl ?_
    refine g_if_eq (tgt := 166) (pc' := 162) dX12_reads_159 (by decide) rfl (fun _ => ?_) (fun hc => absurd rfl hc)
    refine g_iconst (v := 0) (pc' := 167) dX12_reads_166 (by decide) rfl ?_
    refine g_iadd (pc' := 168) dX12_reads_167 rfl ?_
    refine g_top (y := nI s) (Int32.add_zero _) ?_
    refine g_putI (pc' := 171) dX12_reads_168 fX12_112 rfl rfl ⟨rfl, rfl⟩ rfl ?_
    have hT4 := hT3.at (q := s)
    have hF4 := hF3.up (j := 13) (x := nI s) (Or.inl rfl)
    have h192 : um M3 189 13 (nI s) 192 = M3 192 := um_ne (by omega)
    generalize hM4 : (um M3 189 13 (nI s)) = M4
    rw [hM4] at hT4 hF4 h192
    refine g_goto (tgt := 114) dX12_reads_171 (by decide) ?_
    refine g_iload_n (j := 1) (pc' := 115) dX12_reads_114 rfl rfl ?_
    refine g_if_eq (tgt := 174) (pc' := 118) dX12_reads_115 (by decide) rfl (fun _ => ?_) (fun hc => absurd rfl hc)
    refine g_less (L' := [(0, .ref 189)]) [0] rfl ?_
    refine g_aload_n (j := 0) (pc' := 175) dX12_reads_174 rfl rfl ?_
    refine g_callV (my := mX12_here) (k := 189) (st := []) (av := []) (mcr := 0) (msr := 0) (mc := 0) (ms := 0) (pc' := 178) dX12_reads_175 kX12_here wX12_122 rfl ⟨rfl, rfl⟩ rfl (Nat.le_of_ble_eq_true rfl) (by decide) (s_here hl hsl htf hT4 (s := s) (by rw [← hs]; exact skB_skB hq)) rfl ?_
    rintro _ _ ⟨M5, rfl, rfl, hT5, hw5, hF5⟩
    show Go mX12_reads _ _ _ 178 [(0, .ref 189)] [.int (hrI tf len s)] (SK, M5, N) _
    by_cases hlt : s < len
    · have h128 := htf s hlt
      rw [show hrI tf len s = nI (tf s) from if_pos hlt]
      refine g_if_ge (tgt := 185) (pc' := 181) dX12_reads_178 (by decide) rfl (fun hc => ?_) (fun hc => (absurd (nI_pos' (by omega)) hc))
      refine g_iconst (v := 0) (pc' := 186) dX12_reads_185 (by decide) rfl ?_
      exact g_iret dX12_reads_186 rfl (by decide) (hno hlt M5 (hF4.trans hF5.two) hw5)
    · rw [show hrI tf len s = -1 from if_neg hlt]
      refine g_if_ge (tgt := 185) (pc' := 181) dX12_reads_178 (by decide) rfl (fun hc => (absurd hc (by decide))) (fun hc => ?_)
      refine g_iconst (v := 1) (pc' := 182) dX12_reads_181 (by decide) rfl ?_
      refine g_goto (tgt := 186) dX12_reads_182 (by decide) ?_
      exact g_iret dX12_reads_186 rfl (by decide) (hyes (by omega) M5 ((hF5.2 192 (by omega)).trans h192) (hF4.trans hF5.two))
  have nam : ∀ (f k : Nat) (P : Nat → Int32) (p : Nat) (M1 : Nat → Nat → Int32), k + f = 5 → TapeR M1 tf len p → p ≤ len → (∀ j, j < 48 → M1 192 j = P j) → P 1 = nI k → Fr2 M M1 → (∀ (qz : Nat) (M2 : Nat → Nat → Int32), pNamF tf len f k P p = (none, qz) → Fr2 M M2 → M2 189 14 = nI qz → (RdR M N (pRead tf len d)) (some (.int 0)) (SK, M2, N)) → (∀ (t : Nat × (Nat → Int32)) (q : Nat) (M2 : Nat → Nat → Int32), pNamF tf len f k P p = (some t, q) → (∀ j, j < 48 → M2 192 j = t.2 j) → Fr2 M M2 → (RdR M N (pRead tf len d)) (some (.int 1)) (SK, M2, N)) → Go mX12_reads 20 0 0 114 [(0, .ref 189), (1, .int 1)] [] (SK, M1, N) (RdR M N (pRead tf len d)) := by
    intro f
    induction f with
    | zero =>
      intro k P p M1 hnf hT1 hp1 hR1 h1 hF1 hno hyes
      refine g_iload_n (j := 1) (pc' := 115) dX12_reads_114 rfl rfl ?_
      refine g_if_eq (tgt := 174) (pc' := 118) dX12_reads_115 (by decide) rfl (fun hc => absurd hc (by decide)) (fun _ => ?_)
      cases heA : pNam tf len p with
      | mk o qA =>
        cases o with
        | none =>
          have hcall := r_readsName (N := N) hl hp1 htf hT1 (k := k) (P := P) (by omega) h1 hR1
          rw [heA] at hcall
          refine g_aload_n (j := 0) (pc' := 119) dX12_reads_118 rfl rfl ?_
          refine g_callV (my := mX12_readsName) (k := 189) (st := []) (av := []) (mcr := 0) (msr := 0) (mc := 0) (ms := 0) (pc' := 122) dX12_reads_119 kX12_readsName wX12_146 rfl ⟨rfl, rfl⟩ rfl (Nat.le_of_ble_eq_true rfl) (by decide) (hcall) rfl ?_
          rintro _ _ ⟨M2, rfl, hFA, rfl, hwA⟩
          show Go mX12_reads _ _ _ 122 [(0, .ref 189), (1, .int 1)] [.int 0] (SK, M2, N) _
          refine g_if_ne (tgt := 127) (pc' := 125) dX12_reads_122 (by decide) rfl (fun hc => absurd rfl hc) (fun _ => ?_)
          refine g_iconst (v := 0) (pc' := 126) dX12_reads_125 (by decide) rfl ?_
          exact g_iret dX12_reads_126 rfl (by decide) (hno qA M2 (by simp only [pNamF, heA]) (hF1.trans hFA) hwA)
        | some t =>
          have hcall := r_readsName (N := N) hl hp1 htf hT1 (k := k) (P := P) (by omega) h1 hR1
          rw [heA] at hcall
          refine g_aload_n (j := 0) (pc' := 119) dX12_reads_118 rfl rfl ?_
          refine g_callV (my := mX12_readsName) (k := 189) (st := []) (av := []) (mcr := 0) (msr := 0) (mc := 0) (ms := 0) (pc' := 122) dX12_reads_119 kX12_readsName wX12_146 rfl ⟨rfl, rfl⟩ rfl (Nat.le_of_ble_eq_true rfl) (by decide) (hcall) rfl ?_
          rintro _ _ ⟨M2, rfl, hFA, rfl, hTA, hqA, hrA⟩
          show Go mX12_reads _ _ _ 122 [(0, .ref 189), (1, .int 1)] [.int 1] (SK, M2, N) _
          refine g_if_ne (tgt := 127) (pc' := 125) dX12_reads_122 (by decide) rfl (fun _ => ?_) (fun hc => absurd hc (by decide))
          dsimp only at hTA hqA hrA
          have e1 : nameP P k (nI t.1) (nI t.2) 1 = nI (k + 1) := by unfold nameP; simp (disch := omega) only [upP_ne, upP_at]
          obtain ⟨s, hs⟩ : ∃ s, skB tf len qA = s := ⟨_, rfl⟩
          have hsl : s ≤ len := by rw [← hs]; exact (skB_le hqA).2
          have hss : skB tf len s = s := by rw [← hs]; exact skB_skB hqA
          refine g_aload_n (j := 0) (pc' := 128) dX12_reads_127 rfl rfl ?_
          refine g_callV (my := mX12_here) (k := 189) (st := []) (av := []) (mcr := 0) (msr := 0) (mc := 0) (ms := 0) (pc' := 131) dX12_reads_128 kX12_here wX12_122 rfl ⟨rfl, rfl⟩ rfl (Nat.le_of_ble_eq_true rfl) (by decide) (s_here hl hqA htf hTA hs) rfl ?_
          rintro _ _ ⟨M3, rfl, rfl, hT3, hw3, hF3⟩
          show Go mX12_reads _ _ _ 131 [(0, .ref 189), (1, .int 1)] [.int (hrI tf len s)] (SK, M3, N) _
          have hR3 : ∀ j, j < 48 → M3 192 j = nameP P k (nI t.1) (nI t.2) j := fun j hj => by rw [hF3.2 192 (by omega)]; exact hrA j hj
          have hF3b := (hF1.trans hFA).trans hF3.two
          by_cases h44 : s < len ∧ tf s = 44
          · rw [show hrI tf len s = 44 by unfold hrI; rw [if_pos h44.1, h44.2]; rfl]
            refine g_bipush (v := 44) (pc' := 133) dX12_reads_131 (by decide) rfl ?_
            refine g_icmp_ne (tgt := 151) (pc' := 136) dX12_reads_133 (by decide) rfl (fun hc => (absurd rfl hc)) (fun hc => ?_)
            refine g_aload_n (j := 0) (pc' := 137) dX12_reads_136 rfl rfl ?_
            refine g_getR (pc' := 140) dX12_reads_137 fX12_16 rfl rfl rfl ?_
            refine g_iconst (v := 1) (pc' := 141) dX12_reads_140 (by decide) rfl ?_
            refine g_iald (n := 1) (pc' := 142) dX12_reads_141 rfl rfl (by omega) rfl ?_
            refine g_top (y := nI (k + 1)) ((hR3 1 (by omega)).trans e1) ?_
            refine g_bipush (v := 6) (pc' := 144) dX12_reads_142 (by decide) rfl ?_
            refine g_icmp_ge (tgt := 151) (pc' := 147) dX12_reads_144 (by decide) rfl (fun hc => ?_) (fun hc => (absurd (nI_le (a := 6) (b := k + 1) (by omega) (by omega)) hc))
            exact exitN qA s M3 hqA hs hT3 hF3b (fun hlt M5 hf hw => hno s M5 (by simp only [pNamF, heA, hs, if_neg (Nat.not_le.mpr hlt)]) hf hw) (fun hle M5 h5 hf => hyes (k + 1, nameP P k (nI t.1) (nI t.2)) s M5 (by simp only [pNamF, heA, hs, if_pos hle]) (fun j hj => by rw [h5]; exact hR3 j hj) hf)
          · refine g_bipush (v := 44) (pc' := 133) dX12_reads_131 (by decide) rfl ?_
            refine g_icmp_ne (tgt := 151) (pc' := 136) dX12_reads_133 (by decide) rfl (fun hc => ?_) (fun hc => (absurd hc (hrI_44 htf h44)))
            exact exitN qA s M3 hqA hs hT3 hF3b (fun hlt M5 hf hw => hno s M5 (by simp only [pNamF, heA, hs, if_neg (Nat.not_le.mpr hlt)]) hf hw) (fun hle M5 h5 hf => hyes (k + 1, nameP P k (nI t.1) (nI t.2)) s M5 (by simp only [pNamF, heA, hs, if_pos hle]) (fun j hj => by rw [h5]; exact hR3 j hj) hf)
    | succ f ih =>
      intro k P p M1 hnf hT1 hp1 hR1 h1 hF1 hno hyes
      refine g_iload_n (j := 1) (pc' := 115) dX12_reads_114 rfl rfl ?_
      refine g_if_eq (tgt := 174) (pc' := 118) dX12_reads_115 (by decide) rfl (fun hc => absurd hc (by decide)) (fun _ => ?_)
      cases heA : pNam tf len p with
      | mk o qA =>
        cases o with
        | none =>
          have hcall := r_readsName (N := N) hl hp1 htf hT1 (k := k) (P := P) (by omega) h1 hR1
          rw [heA] at hcall
          refine g_aload_n (j := 0) (pc' := 119) dX12_reads_118 rfl rfl ?_
          refine g_callV (my := mX12_readsName) (k := 189) (st := []) (av := []) (mcr := 0) (msr := 0) (mc := 0) (ms := 0) (pc' := 122) dX12_reads_119 kX12_readsName wX12_146 rfl ⟨rfl, rfl⟩ rfl (Nat.le_of_ble_eq_true rfl) (by decide) (hcall) rfl ?_
          rintro _ _ ⟨M2, rfl, hFA, rfl, hwA⟩
          show Go mX12_reads _ _ _ 122 [(0, .ref 189), (1, .int 1)] [.int 0] (SK, M2, N) _
          refine g_if_ne (tgt := 127) (pc' := 125) dX12_reads_122 (by decide) rfl (fun hc => absurd rfl hc) (fun _ => ?_)
          refine g_iconst (v := 0) (pc' := 126) dX12_reads_125 (by decide) rfl ?_
          exact g_iret dX12_reads_126 rfl (by decide) (hno qA M2 (by simp only [pNamF, heA]) (hF1.trans hFA) hwA)
        | some t =>
          have hcall := r_readsName (N := N) hl hp1 htf hT1 (k := k) (P := P) (by omega) h1 hR1
          rw [heA] at hcall
          refine g_aload_n (j := 0) (pc' := 119) dX12_reads_118 rfl rfl ?_
          refine g_callV (my := mX12_readsName) (k := 189) (st := []) (av := []) (mcr := 0) (msr := 0) (mc := 0) (ms := 0) (pc' := 122) dX12_reads_119 kX12_readsName wX12_146 rfl ⟨rfl, rfl⟩ rfl (Nat.le_of_ble_eq_true rfl) (by decide) (hcall) rfl ?_
          rintro _ _ ⟨M2, rfl, hFA, rfl, hTA, hqA, hrA⟩
          show Go mX12_reads _ _ _ 122 [(0, .ref 189), (1, .int 1)] [.int 1] (SK, M2, N) _
          refine g_if_ne (tgt := 127) (pc' := 125) dX12_reads_122 (by decide) rfl (fun _ => ?_) (fun hc => absurd hc (by decide))
          dsimp only at hTA hqA hrA
          have e1 : nameP P k (nI t.1) (nI t.2) 1 = nI (k + 1) := by unfold nameP; simp (disch := omega) only [upP_ne, upP_at]
          obtain ⟨s, hs⟩ : ∃ s, skB tf len qA = s := ⟨_, rfl⟩
          have hsl : s ≤ len := by rw [← hs]; exact (skB_le hqA).2
          have hss : skB tf len s = s := by rw [← hs]; exact skB_skB hqA
          refine g_aload_n (j := 0) (pc' := 128) dX12_reads_127 rfl rfl ?_
          refine g_callV (my := mX12_here) (k := 189) (st := []) (av := []) (mcr := 0) (msr := 0) (mc := 0) (ms := 0) (pc' := 131) dX12_reads_128 kX12_here wX12_122 rfl ⟨rfl, rfl⟩ rfl (Nat.le_of_ble_eq_true rfl) (by decide) (s_here hl hqA htf hTA hs) rfl ?_
          rintro _ _ ⟨M3, rfl, rfl, hT3, hw3, hF3⟩
          show Go mX12_reads _ _ _ 131 [(0, .ref 189), (1, .int 1)] [.int (hrI tf len s)] (SK, M3, N) _
          have hR3 : ∀ j, j < 48 → M3 192 j = nameP P k (nI t.1) (nI t.2) j := fun j hj => by rw [hF3.2 192 (by omega)]; exact hrA j hj
          have hF3b := (hF1.trans hFA).trans hF3.two
          by_cases h44 : s < len ∧ tf s = 44
          · rw [show hrI tf len s = 44 by unfold hrI; rw [if_pos h44.1, h44.2]; rfl]
            refine g_bipush (v := 44) (pc' := 133) dX12_reads_131 (by decide) rfl ?_
            refine g_icmp_ne (tgt := 151) (pc' := 136) dX12_reads_133 (by decide) rfl (fun hc => (absurd rfl hc)) (fun hc => ?_)
            refine g_aload_n (j := 0) (pc' := 137) dX12_reads_136 rfl rfl ?_
            refine g_getR (pc' := 140) dX12_reads_137 fX12_16 rfl rfl rfl ?_
            refine g_iconst (v := 1) (pc' := 141) dX12_reads_140 (by decide) rfl ?_
            refine g_iald (n := 1) (pc' := 142) dX12_reads_141 rfl rfl (by omega) rfl ?_
            refine g_top (y := nI (k + 1)) ((hR3 1 (by omega)).trans e1) ?_
            refine g_bipush (v := 6) (pc' := 144) dX12_reads_142 (by decide) rfl ?_
            refine g_icmp_ge (tgt := 151) (pc' := 147) dX12_reads_144 (by decide) rfl (fun hc => (absurd hc (nI_ge (a := k + 1) (b := 6) (by omega) (by omega)))) (fun hc => ?_)
            have h6 : pOne tf len 6 s = (some 0, s + 1) := pOne_yes hss h44.1 (by rw [ix6 (htf s h44.1), if_pos h44.2])
            refine g_iconst (v := 1) (pc' := 148) dX12_reads_147 (by decide) rfl ?_
            refine g_goto (tgt := 152) dX12_reads_148 (by decide) ?_
            refine g_istore_n (L' := [(0, .ref 189), (1, .int 1)]) (pc' := 153) dX12_reads_152 (by decide) rfl rfl ?_
            refine g_aload_n (j := 0) (pc' := 154) dX12_reads_153 rfl rfl ?_
            refine g_dup (pc' := 155) dX12_reads_154 rfl rfl ?_
            refine g_getI (pc' := 158) dX12_reads_155 fX12_112 rfl rfl rfl ?_
            refine g_top (y := nI s) (hT3.2.1) ?_
            refine g_iload_n (j := 1) (pc' := 159) dX12_reads_158 rfl rfl ?_
            refine g_if_eq (tgt := 166) (pc' := 162) dX12_reads_159 (by decide) rfl (fun hc => absurd hc (by decide)) (fun _ => ?_)
            refine g_iconst (v := 1) (pc' := 163) dX12_reads_162 (by decide) rfl ?_
            refine g_goto (tgt := 167) dX12_reads_163 (by decide) ?_
            refine g_iadd (pc' := 168) dX12_reads_167 rfl ?_
            refine g_top (y := nI (s + 1)) (nI_1 s) ?_
            refine g_putI (pc' := 171) dX12_reads_168 fX12_112 rfl rfl ⟨rfl, rfl⟩ rfl ?_
            have hT4 := hT3.at (q := s + 1)
            have hF4 := hF3b.up (j := 13) (x := nI (s + 1)) (Or.inl rfl)
            have hR4 : ∀ j, j < 48 → um M3 189 13 (nI (s + 1)) 192 j = nameP P k (nI t.1) (nI t.2) j := fun j hj => by rw [um_ne (by omega)]; exact hR3 j hj
            generalize hM4 : (um M3 189 13 (nI (s + 1))) = M4
            rw [hM4] at hT4 hF4 hR4
            refine g_goto (tgt := 114) dX12_reads_171 (by decide) ?_
            exact ih (k + 1) (nameP P k (nI t.1) (nI t.2)) (s + 1) M4 (by omega) hT4 h44.1 hR4 e1 hF4 (fun q M5 e hf hw => hno q M5 (by simp only [pNamF, heA, hs, if_neg (Nat.not_le.mpr h44.1), h6]; exact e) hf hw) (fun t2 q2 M5 e => hyes t2 q2 M5 (by simp only [pNamF, heA, hs, if_neg (Nat.not_le.mpr h44.1), h6]; exact e))
          · refine g_bipush (v := 44) (pc' := 133) dX12_reads_131 (by decide) rfl ?_
            refine g_icmp_ne (tgt := 151) (pc' := 136) dX12_reads_133 (by decide) rfl (fun hc => ?_) (fun hc => (absurd hc (hrI_44 htf h44)))
            exact exitN qA s M3 hqA hs hT3 hF3b (fun hlt M5 hf hw => hno s M5 (by simp only [pNamF, heA, hs, if_neg (Nat.not_le.mpr hlt), pOne_no hss hlt (show ixO 6 (tf s) = none by rw [ix6 (htf s hlt), if_neg (fun q => h44 ⟨hlt, q⟩)])]) hf hw) (fun hle M5 h5 hf => hyes (k + 1, nameP P k (nI t.1) (nI t.2)) s M5 (by simp only [pNamF, heA, hs, if_pos hle]) (fun j hj => by rw [h5]; exact hR3 j hj) hf)
  refine g_aload_n (j := 0) (pc' := 1) dX12_reads_0 rfl rfl ?_
  refine g_getR (pc' := 4) dX12_reads_1 fX12_16 rfl rfl rfl ?_
  refine g_iconst (v := 0) (pc' := 5) dX12_reads_4 (by decide) rfl ?_
  refine g_aload_n (j := 0) (pc' := 6) dX12_reads_5 rfl rfl ?_
  refine g_getR (pc' := 9) dX12_reads_6 fX12_7 rfl rfl rfl ?_
  refine g_bipush (v := 46) (pc' := 11) dX12_reads_9 (by decide) rfl ?_
  refine g_iald (n := 46) (pc' := 12) dX12_reads_11 rfl rfl (by omega) rfl ?_
  refine g_top (y := d) (hd) ?_
  refine g_callS (my := mX12_begins) (st := []) (av := [.ref 192, .int 0, .int d]) (mcr := 0) (msr := 0) (mc := 0) (ms := 0) (pc' := 15) dX12_reads_12 kX12_begins wX12_47 rfl (Nat.le_of_ble_eq_true rfl) (by decide) (r_begins (c := 192) rfl 0 d) rfl ?_
  rintro _ _ ⟨M1, rfl, rfl, hb1, hbf⟩
  show Go mX12_reads _ _ _ 15 [(0, .ref 189)] [] (SK, M1, N) _
  refine g_aload_n (j := 0) (pc' := 16) dX12_reads_15 rfl rfl ?_
  refine g_iconst (v := 0) (pc' := 17) dX12_reads_16 (by decide) rfl ?_
  refine g_putI (pc' := 20) dX12_reads_17 fX12_112 rfl rfl ⟨rfl, rfl⟩ rfl ?_
  generalize hM2 : (um M1 189 13 0) = M2
  have hT2 : TapeR M2 tf len 0 := by
    rw [← hM2]
    exact ⟨by rw [um_at2 (by omega), hbf 189 (by omega)]; exact h6, um_at, fun j hj => by rw [um_ne (by omega), hbf 194 (by omega)]; exact ht j hj⟩
  have hF2 : Fr2 M M2 := by
    rw [← hM2]
    exact ⟨fun j h1 h2 => by rw [um_at2 h1, hbf 189 (by omega)], fun a h1 h2 => by rw [um_ne h1]; exact hbf a h2⟩
  have hR2 : ∀ j, j < 48 → M2 192 j = emP d 0 j := fun j hj => by rw [← hM2, um_ne (by omega)]; exact hb1 j (by omega)
  cases heN : pNum tf len 0 with
  | mk o qN =>
    cases o with
    | none =>
      have hcall := r_number (N := N) hl (by omega) htf hT2 (wh := 2) (by omega)
      rw [heN] at hcall
      refine g_aload_n (j := 0) (pc' := 21) dX12_reads_20 rfl rfl ?_
      refine g_iconst (v := 2) (pc' := 22) dX12_reads_21 (by decide) rfl ?_
      refine g_callV (my := mX12_number) (k := 189) (st := []) (av := [.int 2]) (mcr := 0) (msr := 0) (mc := 0) (ms := 0) (pc' := 25) dX12_reads_22 kX12_number wX12_136 rfl ⟨rfl, rfl⟩ rfl (Nat.le_of_ble_eq_true rfl) (by decide) (hcall) rfl ?_
      rintro _ _ ⟨M3, rfl, hFN, rfl, hwN⟩
      show Go mX12_reads _ _ _ 25 [(0, .ref 189)] [.int 0] (SK, M3, N) _
      refine g_if_eq (tgt := 37) (pc' := 28) dX12_reads_25 (by decide) rfl (fun _ => ?_) (fun hc => absurd rfl hc)
      refine g_iconst (v := 0) (pc' := 38) dX12_reads_37 (by decide) rfl ?_
      exact g_iret dX12_reads_38 rfl (by decide) (RdR.no (q := qN) (by unfold pRead; rw [heN]) (hF2.trans hFN) hwN)
    | some v =>
      have hcall := r_number (N := N) hl (by omega) htf hT2 (wh := 2) (by omega)
      rw [heN] at hcall
      refine g_aload_n (j := 0) (pc' := 21) dX12_reads_20 rfl rfl ?_
      refine g_iconst (v := 2) (pc' := 22) dX12_reads_21 (by decide) rfl ?_
      refine g_callV (my := mX12_number) (k := 189) (st := []) (av := [.int 2]) (mcr := 0) (msr := 0) (mc := 0) (ms := 0) (pc' := 25) dX12_reads_22 kX12_number wX12_136 rfl ⟨rfl, rfl⟩ rfl (Nat.le_of_ble_eq_true rfl) (by decide) (hcall) rfl ?_
      rintro _ _ ⟨M3, rfl, hFN, rfl, hTN, hqN, hrN⟩
      show Go mX12_reads _ _ _ 25 [(0, .ref 189)] [.int 1] (SK, M3, N) _
      refine g_if_eq (tgt := 37) (pc' := 28) dX12_reads_25 (by decide) rfl (fun hc => absurd hc (by decide)) (fun _ => ?_)
      dsimp only at hTN hqN
      cases heS : pOne tf len 1 qN with
      | mk o qS =>
        cases o with
        | none =>
          have hcall := r_sign (N := N) hl hqN htf hTN (c := 59) (i := 1) (by omega) (fun x h => ix1 h)
          rw [heS] at hcall
          refine g_aload_n (j := 0) (pc' := 29) dX12_reads_28 rfl rfl ?_
          refine g_bipush (v := 59) (pc' := 31) dX12_reads_29 (by decide) rfl ?_
          refine g_callV (my := mX12_sign) (k := 189) (st := []) (av := [.int 59]) (mcr := 0) (msr := 0) (mc := 0) (ms := 0) (pc' := 34) dX12_reads_31 kX12_sign wX12_139 rfl ⟨rfl, rfl⟩ rfl (Nat.le_of_ble_eq_true rfl) (by decide) (hcall) rfl ?_
          rintro _ _ ⟨M4, rfl, hFS, rfl, hwS⟩
          show Go mX12_reads _ _ _ 34 [(0, .ref 189)] [.int 0] (SK, M4, N) _
          refine g_if_ne (tgt := 39) (pc' := 37) dX12_reads_34 (by decide) rfl (fun hc => absurd rfl hc) (fun _ => ?_)
          refine g_iconst (v := 0) (pc' := 38) dX12_reads_37 (by decide) rfl ?_
          exact g_iret dX12_reads_38 rfl (by decide) (RdR.no (q := qS) (by unfold pRead; rw [heN]; dsimp only; rw [heS]) ((hF2.trans hFN).trans hFS.two) hwS)
        | some vS =>
          have hcall := r_sign (N := N) hl hqN htf hTN (c := 59) (i := 1) (by omega) (fun x h => ix1 h)
          rw [heS] at hcall
          refine g_aload_n (j := 0) (pc' := 29) dX12_reads_28 rfl rfl ?_
          refine g_bipush (v := 59) (pc' := 31) dX12_reads_29 (by decide) rfl ?_
          refine g_callV (my := mX12_sign) (k := 189) (st := []) (av := [.int 59]) (mcr := 0) (msr := 0) (mc := 0) (ms := 0) (pc' := 34) dX12_reads_31 kX12_sign wX12_139 rfl ⟨rfl, rfl⟩ rfl (Nat.le_of_ble_eq_true rfl) (by decide) (hcall) rfl ?_
          rintro _ _ ⟨M4, rfl, hFS, rfl, hTS, hqS⟩
          show Go mX12_reads _ _ _ 34 [(0, .ref 189)] [.int 1] (SK, M4, N) _
          refine g_if_ne (tgt := 39) (pc' := 37) dX12_reads_34 (by decide) rfl (fun _ => ?_) (fun hc => absurd hc (by decide))
          dsimp only at hTS hqS
          have hR4 : ∀ j, j < 48 → M4 192 j = emP d (nI v) j := fun j hj => by
            rw [hFS.2 192 (by omega), hrN]
            by_cases e : j = 2
            · subst e; rw [if_pos rfl]; rfl
            · rw [if_neg e, hR2 j hj, emP_eq, emP_eq, if_neg e, if_neg e]
          refine g_iconst (v := 1) (pc' := 40) dX12_reads_39 (by decide) rfl ?_
          refine g_istore_n (L' := [(0, .ref 189), (1, .int 1)]) (pc' := 41) dX12_reads_40 (by decide) rfl rfl ?_
          refine men 5 0 (emP d (nI v)) qS M4 rfl hTS hqS hR4 rfl rfl ((hF2.trans hFN).trans hFS.two) (fun q M5 e hf hw => RdR.no (q := q) (by unfold pRead; rw [heN]; dsimp only; rw [heS]; dsimp only; rw [e]) hf hw) (fun t5 q5 M5 e5 hq5 hT5 hR5 h51 hF5 => ?_)
          refine g_iconst (v := 1) (pc' := 113) dX12_reads_112 (by decide) rfl ?_
          refine g_istore_n (L' := [(0, .ref 189), (1, .int 1)]) (pc' := 114) dX12_reads_113 (by decide) rfl rfl ?_
          exact nam 5 0 t5.2 q5 M5 rfl hT5 hq5 hR5 h51 hF5 (fun q M6 e hf hw => RdR.no (q := q) (by unfold pRead; rw [heN]; dsimp only; rw [heS]; dsimp only; rw [e5]; dsimp only; rw [e]) hf hw) (fun t6 q6 M6 e6 hR6 hF6 => RdR.yes (q := q6) (t := (t5.1, t6)) (by unfold pRead; rw [heN]; dsimp only; rw [heS]; dsimp only; rw [e5]; dsimp only; rw [e6]) hF6 hR6)
