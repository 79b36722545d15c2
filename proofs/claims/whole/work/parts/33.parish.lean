/-! ===== parish ===== -/
theorem pMenF_keep {tf : Nat → Nat} {len : Nat} {j : Nat} (hj : j = 2 ∨ j = 3 ∨ j = 46) : ∀ {f n : Nat} {P : Nat → Int32} {p q : Nat} {t : Nat × (Nat → Int32)}, n + f = 5 → pMenF tf len f n P p = (some t, q) → t.2 j = P j := by
  have hm : ∀ {n : Nat} {P : Nat → Int32} {a b c : Int32}, n < 6 → manP P n a b c j = P j := by
    intro n P a b c hn
    unfold manP
    rw [upP_ne (by omega), upP_ne (by omega), upP_ne (by omega), upP_ne (by omega)]
  intro f
  induction f with
  | zero =>
    intro n P p q t hn h
    simp only [pMenF] at h
    split at h
    · cases h
    · split at h
      · cases h
      · cases h; exact hm (by omega)
  | succ f ih =>
    intro n P p q t hn h
    simp only [pMenF] at h
    split at h
    · cases h
    · split at h
      · cases h
      · cases h; exact hm (by omega)
      · exact (ih (by omega) h).trans (hm (by omega))
theorem pNamF_keep {tf : Nat → Nat} {len : Nat} {j : Nat} (hj : j = 2 ∨ j = 3 ∨ j = 46) : ∀ {f n : Nat} {P : Nat → Int32} {p q : Nat} {t : Nat × (Nat → Int32)}, n + f = 5 → pNamF tf len f n P p = (some t, q) → t.2 j = P j := by
  have hm : ∀ {n : Nat} {P : Nat → Int32} {a b : Int32}, n < 6 → nameP P n a b j = P j := by
    intro n P a b hn
    unfold nameP
    rw [upP_ne (by omega), upP_ne (by omega), upP_ne (by omega)]
  intro f
  induction f with
  | zero =>
    intro n P p q t hn h
    simp only [pNamF] at h
    split at h
    · cases h
    · split at h
      · cases h; exact hm (by omega)
      · cases h
  | succ f ih =>
    intro n P p q t hn h
    simp only [pNamF] at h
    split at h
    · cases h
    · split at h
      · cases h; exact hm (by omega)
      · split at h
        · cases h
        · exact (ih (by omega) h).trans (hm (by omega))
theorem pRead_keep {tf : Nat → Nat} {len : Nat} {d : Int32} {t : Nat × Nat × (Nat → Int32)} {q : Nat} (h : pRead tf len d = (some t, q)) : (∃ s, s ≤ 20 ∧ t.2.2 2 = nI s) ∧ t.2.2 3 = 0 ∧ t.2.2 46 = d := by
  unfold pRead at h
  split at h
  · cases h
  · rename_i s q1 h1
    split at h
    · cases h
    · split at h
      · cases h
      · rename_i t1 q3 h3
        split at h
        · cases h
        · rename_i u q4 h4
          cases h
          have e : ∀ j, (j = 2 ∨ j = 3 ∨ j = 46) → u.2 j = emP d (nI s) j := fun j hj => (pNamF_keep hj (by omega) h4).trans (pMenF_keep hj (by omega) h3)
          exact ⟨⟨s, pNum_b h1, e 2 (by omega)⟩, e 3 (by omega), e 46 (by omega)⟩
theorem TrC.full {M M' : Nat → Nat → Int32} {n k : Nat} {P : Nat → Int32} (h : TrC M n k P) (e : M' 162 4 = P 46) (e0 : ∀ j, j < 4 → M' 162 j = M 162 j) (he : ∀ a, a ≠ 162 → M' a = M a) : IsC M' 162 n k P := by
  obtain ⟨h0, h1, h2, h3, h5, h6⟩ := h
  refine ⟨by rw [e0 0 (by omega)]; exact h0, by rw [e0 1 (by omega)]; exact h1, by rw [e0 2 (by omega)]; exact h2, by rw [e0 3 (by omega)]; exact h3, e, fun m hm => ?_, fun i hi => ?_⟩
  · rw [he (162 + 1) (by omega), he (162 + 2) (by omega), he (162 + 3) (by omega), he (162 + 4) (by omega), he (162 + 5) (by omega)]
    exact h5 m hm
  · rw [he (162 + 6) (by omega), he (162 + 7) (by omega)]
    exact h6 i hi
set_option maxRecDepth 100000 in
set_option maxHeartbeats 1000000 in
theorem c_parish_b {M : Nat → Nat → Int32} {N : Nat → Nat → Int64} {n k : Nat} {P : Nat → Int32} {pa : List (Nat → Int32)} {kp : Option YS} {tp : List Int32} {sh : Nat → Option (Nat × Nat × (Nat → Int64))} (hA : AOk ((n, k, P, pa), kp, tp, sh)) (hI : CI M N ((n, k, P, pa), kp, tp, sh)) {tf : Nat → Nat} (htp : ∀ j, j < tp.length → tp[j]? = some (nI (tf j)) ∧ tf j < 128) {q : Nat} (hr : pRead tf tp.length (P 46) = (none, q)) : Run mX11_parish 30 0 0 [.ref 0] (SK, M, N) (CQ M N (-20 - nI q) ((n, k, P, pa), kp, [], sh)) := by
  refine Run.of (by decide) (Nat.le_of_ble_eq_true rfl) ?_
  have hok : OkP n k P := hA.1.1.1
  have hc0 : IsC M 14 n k P := hI.1.1
  have hn6 := hok.1
  have hk6 := hok.2.1
  have hrun := s_reads (N := N) hA.2.2.1.1 (fun j hj => (htp j hj).2) hI.2.2.1.1 (fun j hj => hI.2.2.1.2 j _ (htp j hj).1) (P 46)
  rw [hr] at hrun
  refine g_aload_n (j := 0) (pc' := 1) dX11_parish_0 rfl rfl ?_
  refine g_getR (pc' := 4) dX11_parish_1 fX11_55 rfl rfl rfl ?_
  refine g_aload_n (j := 0) (pc' := 5) dX11_parish_4 rfl rfl ?_
  refine g_getR (pc' := 8) dX11_parish_5 fX11_49 rfl rfl rfl ?_
  refine g_callV (my := mX10_reads) (k := 170) (st := []) (av := [.ref 162]) (mcr := 0) (msr := 0) (mc := 0) (ms := 0) (pc' := 11) dX11_parish_8 kX10_reads wX11_150 rfl ⟨rfl, rfl⟩ rfl (Nat.le_of_ble_eq_true rfl) (by decide) (hrun) rfl ?_
  rintro _ _ ⟨M1, rfl, hT1, hq1, hf1, rfl⟩
  show Go mX11_parish _ _ _ 11 [(0, .ref 0)] [.int 0] (SK, M1, N) _
  refine g_istore_n (L' := [(0, .ref 0), (1, .int 0)]) (pc' := 12) dX11_parish_11 (by decide) rfl rfl ?_
  refine g_aload_n (j := 0) (pc' := 13) dX11_parish_12 rfl rfl ?_
  refine g_getR (pc' := 16) dX11_parish_13 fX11_55 rfl rfl rfl ?_
  refine g_iconst (v := 0) (pc' := 17) dX11_parish_16 (by decide) rfl ?_
  refine g_putI (pc' := 20) dX11_parish_17 fX11_147 rfl rfl ⟨rfl, rfl⟩ rfl ?_
  generalize hM2 : (um M1 170 1 0) = M2
  refine g_iload_n (j := 1) (pc' := 21) dX11_parish_20 rfl rfl ?_
  refine g_if_ne (tgt := 35) (pc' := 24) dX11_parish_21 (by decide) rfl (fun hc => absurd rfl hc) (fun _ => ?_)
  refine g_bipush (v := (-20)) (pc' := 26) dX11_parish_24 (by decide) rfl ?_
  refine g_aload_n (j := 0) (pc' := 27) dX11_parish_26 rfl rfl ?_
  refine g_getR (pc' := 30) dX11_parish_27 fX11_55 rfl rfl rfl ?_
  refine g_getI (pc' := 33) dX11_parish_30 fX11_154 rfl rfl rfl ?_
  refine g_top (y := nI q) (by rw [← hM2, um_at2 (by omega)]; exact hT1.2.1) ?_
  refine g_isub (pc' := 34) dX11_parish_33 rfl ?_
  have hf2 : ∀ a, a ≠ 170 → (a < 162 ∨ 170 ≤ a) → M2 a = M a := fun a a1 a2 => by rw [← hM2, um_ne a1]; exact hf1 a a1 a2
  exact g_iret dX11_parish_34 rfl rfl (⟨M2, N, rfl, rfl, ⟨hI.1.keep (fun a a1 a2 => hf2 a (by omega) (by omega)) (fun a a1 a2 => hf2 a (by omega) (by omega)), hI.2.1.keep (hf2 0 (by omega) (by omega)) (fun a a1 a2 => hf2 a (by omega) (by omega)), ⟨by rw [← hM2]; exact um_at, fun j x hj => by cases hj⟩, fun i hi => (hI.2.2.2 i hi).keep (hf2 _ (by omega) (by omega)) rfl⟩, fun a ha => ⟨hf2 a (by omega) (by omega), rfl⟩⟩)
set_option maxRecDepth 100000 in
set_option maxHeartbeats 1000000 in
theorem c_parish {M : Nat → Nat → Int32} {N : Nat → Nat → Int64} {n k : Nat} {P : Nat → Int32} {pa : List (Nat → Int32)} {kp : Option YS} {tp : List Int32} {sh : Nat → Option (Nat × Nat × (Nat → Int64))} (hA : AOk ((n, k, P, pa), kp, tp, sh)) (hI : CI M N ((n, k, P, pa), kp, tp, sh)) {tf : Nat → Nat} (htp : ∀ j, j < tp.length → tp[j]? = some (nI (tf j)) ∧ tf j < 128) {n2 k2 : Nat} {P2 : Nat → Int32} {q : Nat} (hr : pRead tf tp.length (P 46) = (some (n2, k2, P2), q)) : Run mX11_parish 30 0 0 [.ref 0] (SK, M, N) (CQ M N (nI n2) ((n2, k2, P2, []), kp, [], sh)) := by
  refine Run.of (by decide) (Nat.le_of_ble_eq_true rfl) ?_
  have hok : OkP n k P := hA.1.1.1
  have hc0 : IsC M 14 n k P := hI.1.1
  have hn6 := hok.1
  have hk6 := hok.2.1
  have hrun := s_reads (N := N) hA.2.2.1.1 (fun j hj => (htp j hj).2) hI.2.2.1.1 (fun j hj => hI.2.2.1.2 j _ (htp j hj).1) (P 46)
  rw [hr] at hrun
  have hk := pRead_keep hr
  dsimp only at hk
  refine g_aload_n (j := 0) (pc' := 1) dX11_parish_0 rfl rfl ?_
  refine g_getR (pc' := 4) dX11_parish_1 fX11_55 rfl rfl rfl ?_
  refine g_aload_n (j := 0) (pc' := 5) dX11_parish_4 rfl rfl ?_
  refine g_getR (pc' := 8) dX11_parish_5 fX11_49 rfl rfl rfl ?_
  refine g_callV (my := mX10_reads) (k := 170) (st := []) (av := [.ref 162]) (mcr := 0) (msr := 0) (mc := 0) (ms := 0) (pc' := 11) dX11_parish_8 kX10_reads wX11_150 rfl ⟨rfl, rfl⟩ rfl (Nat.le_of_ble_eq_true rfl) (by decide) (hrun) rfl ?_
  rintro _ _ ⟨M1, rfl, hT1, hq1, hf1, rfl, hR1, hok1⟩
  show Go mX11_parish _ _ _ 11 [(0, .ref 0)] [.int 1] (SK, M1, N) _
  dsimp only at hR1 hok1
  refine g_istore_n (L' := [(0, .ref 0), (1, .int 1)]) (pc' := 12) dX11_parish_11 (by decide) rfl rfl ?_
  refine g_aload_n (j := 0) (pc' := 13) dX11_parish_12 rfl rfl ?_
  refine g_getR (pc' := 16) dX11_parish_13 fX11_55 rfl rfl rfl ?_
  refine g_iconst (v := 0) (pc' := 17) dX11_parish_16 (by decide) rfl ?_
  refine g_putI (pc' := 20) dX11_parish_17 fX11_147 rfl rfl ⟨rfl, rfl⟩ rfl ?_
  generalize hM2 : (um M1 170 1 0) = M2
  refine g_iload_n (j := 1) (pc' := 21) dX11_parish_20 rfl rfl ?_
  refine g_if_ne (tgt := 35) (pc' := 24) dX11_parish_21 (by decide) rfl (fun _ => ?_) (fun hc => absurd hc (by decide))
  have hf2 : ∀ a, a ≠ 170 → (a < 162 ∨ 170 ≤ a) → M2 a = M a := fun a a1 a2 => by rw [← hM2, um_ne a1]; exact hf1 a a1 a2
  have h20 : M2 170 1 = 0 := by rw [← hM2]; exact um_at
  have hR2 : TrC M2 n2 k2 P2 := hR1.keep (fun a a1 a2 => by rw [← hM2, um_ne (by omega)])
  refine g_aload_n (j := 0) (pc' := 36) dX11_parish_35 rfl rfl ?_
  refine g_getR (pc' := 39) dX11_parish_36 fX11_49 rfl rfl rfl ?_
  refine g_aload_n (j := 0) (pc' := 40) dX11_parish_39 rfl rfl ?_
  refine g_getR (pc' := 43) dX11_parish_40 fX11_28 rfl rfl rfl ?_
  refine g_getI (pc' := 46) dX11_parish_43 fX11_157 rfl rfl rfl ?_
  refine g_top (y := P2 46) (by rw [hf2 14 (by omega) (by omega), hk.2.2]; exact hc0.2.2.2.2.1) ?_
  refine g_putI (pc' := 49) dX11_parish_46 fX11_157 rfl rfl ⟨rfl, rfl⟩ rfl ?_
  generalize hM3 : (um M2 162 4 (P2 46)) = M3
  have hI3 : IsC M3 162 n2 k2 P2 := hR2.full (by rw [← hM3]; exact um_at) (fun j hj => by rw [← hM3, um_at2 (by omega)]) (fun a ha => by rw [← hM3, um_ne ha])
  refine g_aload_n (j := 0) (pc' := 50) dX11_parish_49 rfl rfl ?_
  refine g_getR (pc' := 53) dX11_parish_50 fX11_28 rfl rfl rfl ?_
  refine g_aload_n (j := 0) (pc' := 54) dX11_parish_53 rfl rfl ?_
  refine g_getR (pc' := 57) dX11_parish_54 fX11_49 rfl rfl rfl ?_
  refine g_callV (my := mX4_become) (k := 14) (st := []) (av := [.ref 162]) (mcr := 0) (msr := 0) (mc := 0) (ms := 0) (pc' := 60) dX11_parish_57 kX4_become wX11_160 rfl ⟨rfl, rfl⟩ rfl (Nat.le_of_ble_eq_true rfl) (by decide) (s_become par14 par162 (by omega)) rfl ?_
  rintro _ _ ⟨M4, rfl, rfl, hc⟩
  show Go mX11_parish _ _ _ 60 [(0, .ref 0), (1, .int 1)] [] (SK, M4, N) _
  have hI4 : IsC M4 14 n2 k2 P2 := hI3.copied hok1.1 hok1.2.1 hc
  refine g_aload_n (j := 0) (pc' := 61) dX11_parish_60 rfl rfl ?_
  refine g_getR (pc' := 64) dX11_parish_61 fX11_35 rfl rfl rfl ?_
  refine g_callV (my := mX5_forget) (k := 22) (st := []) (av := []) (mcr := 0) (msr := 0) (mc := 0) (ms := 0) (pc' := 67) dX11_parish_64 kX5_forget wX11_79 rfl ⟨rfl, rfl⟩ rfl (Nat.le_of_ble_eq_true rfl) (by decide) (s_forget) rfl ?_
  rintro _ _ ⟨M5, rfl, rfl, f2, f1, ff⟩
  show Go mX11_parish _ _ _ 67 [(0, .ref 0), (1, .int 1)] [] (SK, M5, N) _
  have hI5 : IsC M5 14 n2 k2 P2 := hI4.keep (fun a a1 a2 => ff a (by omega))
  have hf5 : ∀ a, a ≠ 170 → (a < 14 ∨ 22 ≤ a) → a ≠ 22 → (a < 162 ∨ 170 ≤ a) → M5 a = M a := fun a a1 a2 a3 a4 => by rw [ff a a3, hc.2.2 a (by omega), ← hM3, um_ne (by omega)]; exact hf2 a a1 a4
  have h50 : M5 170 1 = 0 := by rw [ff 170 (by omega), hc.2.2 170 (by omega), ← hM3, um_ne (by omega)]; exact h20
  obtain ⟨-, wv, hw8, hw, -, -⟩ := hI.1
  have h51 : M5 22 1 = nI wv := by rw [f1, hc.2.2 22 (by omega), ← hM3, um_ne (by omega), hf2 22 (by omega) (by omega)]; exact hw
  refine g_aload_n (j := 0) (pc' := 68) dX11_parish_67 rfl rfl ?_
  refine g_getR (pc' := 71) dX11_parish_68 fX11_28 rfl rfl rfl ?_
  refine g_getI (pc' := 74) dX11_parish_71 fX11_75 rfl rfl rfl ?_
  refine g_top (y := nI n2) (hI5.1) ?_
  exact g_iret dX11_parish_74 rfl rfl (⟨M5, N, rfl, rfl, ⟨⟨hI5, wv, hw8, h51, f2, fun i Q hi => by cases hi⟩, hI.2.1.keep (hf5 0 (by omega) (by omega) (by omega) (by omega)) (fun a a1 a2 => hf5 a (by omega) (by omega) (by omega) (by omega)), ⟨h50, fun j x hj => by cases hj⟩, fun i hi => (hI.2.2.2 i hi).keep (hf5 _ (by omega) (by omega) (by omega) (by omega)) rfl⟩, fun a ha => ⟨hf5 a (by omega) (by omega) (by omega) (by omega), rfl⟩⟩)
