theorem pMan_b {tf : Nat → Nat} {len p q : Nat} {t : Nat × Nat × Nat} (h : pMan tf len p = (some t, q)) : t.1 ≤ 4 ∧ t.2.1 ≤ 9 ∧ t.2.2 + 1 ≤ 4 := by
  unfold pMan at h
  split at h
  · cases h
  · rename_i a q1 h1
    split at h
    · cases h
    · rename_i b q2 h2
      split at h
      · cases h
      · rename_i c q3 h3
        cases h
        have e1 := pOne_b h1 5 (by decide)
        have e2 := pOne_b h2 10 (by decide)
        have e3 := pOne_b h3 4 (by decide)
        exact ⟨Nat.le_of_lt_succ e1, Nat.le_of_lt_succ e2, e3⟩
theorem pNam_b {tf : Nat → Nat} {len p q : Nat} {t : Nat × Nat} (h : pNam tf len p = (some t, q)) : t.1 ≤ 20 ∧ t.2 ≤ 20 := by
  unfold pNam at h
  split at h
  · cases h
  · rename_i a q1 h1
    split at h
    · cases h
    · split at h
      · cases h
      · rename_i b q3 h3
        cases h
        exact ⟨pNum_b h1, pNum_b h3⟩
theorem manP_47 {P : Nat → Int32} {n : Nat} {a b c : Int32} (h : n < 6) : manP P n a b c 47 = P 47 := by
  unfold manP; simp (disch := omega) only [upP_ne]
theorem nameP_47 {P : Nat → Int32} {n : Nat} {a b : Int32} (h : n < 6) : nameP P n a b 47 = P 47 := by
  unfold nameP; simp (disch := omega) only [upP_ne]
theorem pMenF_ok {tf : Nat → Nat} {len : Nat} : ∀ {f n : Nat} {P : Nat → Int32} {p q : Nat} {t : Nat × (Nat → Int32)}, n + f = 5 → OkP n 0 P → P 47 = 0 → pMenF tf len f n P p = (some t, q) → OkP t.1 0 t.2 ∧ t.2 47 = 0 := by
  intro f
  induction f with
  | zero =>
    intro n P p q t hn ho h0 h
    simp only [pMenF] at h
    split at h
    · cases h
    · rename_i z q1 h1
      have hb := pMan_b h1
      split at h
      · cases h
      · cases h; exact ⟨ho.man (by omega) hb.1 hb.2.1 (by omega) hb.2.2, (manP_47 (by omega)).trans h0⟩
  | succ f ih =>
    intro n P p q t hn ho h0 h
    simp only [pMenF] at h
    split at h
    · cases h
    · rename_i z q1 h1
      have hb := pMan_b h1
      have h2 := ho.man (by omega) hb.1 hb.2.1 (by omega) hb.2.2
      split at h
      · cases h
      · cases h; exact ⟨h2, (manP_47 (by omega)).trans h0⟩
      · exact ih (by omega) h2 ((manP_47 (by omega)).trans h0) h
theorem pNamF_ok {tf : Nat → Nat} {len n : Nat} : ∀ {f k : Nat} {P : Nat → Int32} {p q : Nat} {t : Nat × (Nat → Int32)}, k + f = 5 → OkP n k P → P 47 = 0 → pNamF tf len f k P p = (some t, q) → OkP n t.1 t.2 ∧ t.2 47 = 0 := by
  intro f
  induction f with
  | zero =>
    intro k P p q t hn ho h0 h
    simp only [pNamF] at h
    split at h
    · cases h
    · rename_i z q1 h1
      have hb := pNam_b h1
      split at h
      · cases h; exact ⟨ho.name (by omega) hb.1 hb.2, (nameP_47 (by omega)).trans h0⟩
      · cases h
  | succ f ih =>
    intro k P p q t hn ho h0 h
    simp only [pNamF] at h
    split at h
    · cases h
    · rename_i z q1 h1
      have hb := pNam_b h1
      have h2 := ho.name (by omega) hb.1 hb.2
      split at h
      · cases h; exact ⟨h2, (nameP_47 (by omega)).trans h0⟩
      · split at h
        · cases h
        · exact ih (by omega) h2 ((nameP_47 (by omega)).trans h0) h
theorem pRead_ok {tf : Nat → Nat} {len : Nat} {d : Int32} {t : Nat × Nat × (Nat → Int32)} {q : Nat} (h : pRead tf len d = (some t, q)) : OkP t.1 t.2.1 t.2.2 ∧ t.2.2 47 = 0 := by
  unfold pRead at h
  split at h
  · cases h
  · split at h
    · cases h
    · split at h
      · cases h
      · rename_i t1 q3 h3
        split at h
        · cases h
        · rename_i u q4 h4
          cases h
          have h5 := pMenF_ok (by omega) (OkP.nobody _ _) rfl h3
          exact pNamF_ok (by omega) h5.1 h5.2 h4
/-- the reference's cells but the tape's head, when only the reading changed -/
theorem RI.read {M M' : Nat → Nat → Int32} {N : Nat → Nat → Int64} {y y' : YS} {kp : Option YS} {tp : List Int32} {sh : Nat → Option (Nat × Nat × (Nat → Int64))} (h : RI M N (y, kp, tp, sh)) (hy : YR M' 190 y') (h4 : M' 189 4 = M 189 4) (h6 : M' 189 6 = 0) (he : ∀ a, a ≠ 189 → a ≠ 190 → a ≠ 192 → M' a = M a) : RI M' N (y', kp, [], sh) := by
  obtain ⟨-, g2, g3, g4⟩ := h
  refine ⟨hy, ?_, ⟨h6, fun j x hj => by cases hj⟩, fun i hi => ?_⟩
  · cases kp with
    | none => show M' 189 4 = 0; rw [h4]; exact g2
    | some z => exact ⟨by rw [h4]; exact g2.1, g2.2.keep (he 193 (by omega) (by omega) (by omega))⟩
  · have h9 := g4 i hi
    dsimp only at h9 ⊢
    cases hB : sh i with
    | none => rw [hB] at h9; show M' 196 i = -1; rw [he 196 (by omega) (by omega) (by omega)]; exact h9
    | some z =>
      obtain ⟨la, ln, f⟩ := z
      rw [hB] at h9
      exact ⟨by rw [he 196 (by omega) (by omega) (by omega)]; exact h9.1, by rw [he 195 (by omega) (by omega) (by omega)]; exact h9.2.1, h9.2.2⟩
set_option maxRecDepth 100000 in
set_option maxHeartbeats 1000000 in
theorem r_parish_b {M : Nat → Nat → Int32} {N : Nat → Nat → Int64} {n k : Nat} {P : Nat → Int32} {pa : List (Nat → Int32)} {kp : Option YS} {tp : List Int32} {sh : Nat → Option (Nat × Nat × (Nat → Int64))} (hA : AOk ((n, k, P, pa), kp, tp, sh)) (hI : RI M N ((n, k, P, pa), kp, tp, sh)) {tf : Nat → Nat} (htp : ∀ j, j < tp.length → tp[j]? = some (nI (tf j)) ∧ tf j < 128) {q : Nat} (hr : pRead tf tp.length (P 46) = (none, q)) : Run mX12_parish 30 0 0 [.ref 189] (SK, M, N) (RQ M N (-20 - nI q) ((n, k, P, pa), kp, [], sh)) := by
  refine Run.of (by decide) (Nat.le_of_ble_eq_true rfl) ?_
  have hok : OkP n k P := hA.1.1.1
  have hP : ∀ j, j < 47 → M 190 j = P j := hI.1.1
  have hn6 := hok.1
  have hk6 := hok.2.1
  have hn : M 190 0 = nI n := (hP 0 (by omega)).trans hok.2.2.1
  have hk : M 190 1 = nI k := (hP 1 (by omega)).trans hok.2.2.2.1
  have hcall := r_reads (N := N) (tf := tf) (len := tp.length) hA.2.2.1.1 (fun j hj => (htp j hj).2) hI.2.2.1.1 (fun j hj => hI.2.2.1.2 j _ (htp j hj).1) (hP 46 (by omega))
  rw [hr] at hcall
  refine g_aload_n (j := 0) (pc' := 1) dX12_parish_0 rfl rfl ?_
  refine g_callV (my := mX12_reads) (k := 189) (st := []) (av := []) (mcr := 0) (msr := 0) (mc := 0) (ms := 0) (pc' := 4) dX12_parish_1 kX12_reads wX12_149 rfl ⟨rfl, rfl⟩ rfl (Nat.le_of_ble_eq_true rfl) (by decide) (hcall) rfl ?_
  rintro _ _ ⟨M1, rfl, hF, rfl, hw⟩
  show Go mX12_parish _ _ _ 4 [(0, .ref 189)] [.int 0] (SK, M1, N) _
  refine g_istore_n (L' := [(0, .ref 189), (1, .int 0)]) (pc' := 5) dX12_parish_4 (by decide) rfl rfl ?_
  refine g_aload_n (j := 0) (pc' := 6) dX12_parish_5 rfl rfl ?_
  refine g_iconst (v := 0) (pc' := 7) dX12_parish_6 (by decide) rfl ?_
  refine g_putI (pc' := 10) dX12_parish_7 fX12_108 rfl rfl ⟨rfl, rfl⟩ rfl ?_
  generalize hM2 : (um M1 189 6 0) = M2
  refine g_iload_n (j := 1) (pc' := 11) dX12_parish_10 rfl rfl ?_
  refine g_if_ne (tgt := 22) (pc' := 14) dX12_parish_11 (by decide) rfl (fun hc => absurd rfl hc) (fun _ => ?_)
  refine g_bipush (v := (-20)) (pc' := 16) dX12_parish_14 (by decide) rfl ?_
  refine g_aload_n (j := 0) (pc' := 17) dX12_parish_16 rfl rfl ?_
  refine g_getI (pc' := 20) dX12_parish_17 fX12_115 rfl rfl rfl ?_
  refine g_top (y := nI q) (by rw [← hM2, um_at2 (by omega)]; exact hw) ?_
  refine g_isub (pc' := 21) dX12_parish_20 rfl ?_
  exact g_iret dX12_parish_21 rfl rfl (⟨M2, N, rfl, rfl, hI.read (M' := M2) (hI.1.keep (by rw [← hM2, um_ne (by omega)]; exact hF.2 190 (by omega) (by omega))) (by rw [← hM2, um_at2 (by omega)]; exact hF.1 4 (by omega) (by omega)) (by rw [← hM2]; exact um_at) (fun a h1 h2 h3 => by rw [← hM2, um_ne h1]; exact hF.2 a h1 h3), fun a ha => ⟨by rw [← hM2, um_ne (by omega)]; exact hF.2 a (by omega) (by omega), rfl⟩⟩)
set_option maxRecDepth 100000 in
set_option maxHeartbeats 1000000 in
theorem r_parish {M : Nat → Nat → Int32} {N : Nat → Nat → Int64} {n k : Nat} {P : Nat → Int32} {pa : List (Nat → Int32)} {kp : Option YS} {tp : List Int32} {sh : Nat → Option (Nat × Nat × (Nat → Int64))} (hA : AOk ((n, k, P, pa), kp, tp, sh)) (hI : RI M N ((n, k, P, pa), kp, tp, sh)) {tf : Nat → Nat} (htp : ∀ j, j < tp.length → tp[j]? = some (nI (tf j)) ∧ tf j < 128) {n2 k2 : Nat} {P2 : Nat → Int32} {q : Nat} (hr : pRead tf tp.length (P 46) = (some (n2, k2, P2), q)) : Run mX12_parish 30 0 0 [.ref 189] (SK, M, N) (RQ M N (nI n2) ((n2, k2, P2, []), kp, [], sh)) := by
  refine Run.of (by decide) (Nat.le_of_ble_eq_true rfl) ?_
  have hok : OkP n k P := hA.1.1.1
  have hP : ∀ j, j < 47 → M 190 j = P j := hI.1.1
  have hn6 := hok.1
  have hk6 := hok.2.1
  have hn : M 190 0 = nI n := (hP 0 (by omega)).trans hok.2.2.1
  have hk : M 190 1 = nI k := (hP 1 (by omega)).trans hok.2.2.2.1
  have hcall := r_reads (N := N) (tf := tf) (len := tp.length) hA.2.2.1.1 (fun j hj => (htp j hj).2) hI.2.2.1.1 (fun j hj => hI.2.2.1.2 j _ (htp j hj).1) (hP 46 (by omega))
  have hok2 := pRead_ok hr
  rw [hr] at hcall
  refine g_aload_n (j := 0) (pc' := 1) dX12_parish_0 rfl rfl ?_
  refine g_callV (my := mX12_reads) (k := 189) (st := []) (av := []) (mcr := 0) (msr := 0) (mc := 0) (ms := 0) (pc' := 4) dX12_parish_1 kX12_reads wX12_149 rfl ⟨rfl, rfl⟩ rfl (Nat.le_of_ble_eq_true rfl) (by decide) (hcall) rfl ?_
  rintro _ _ ⟨M1, rfl, hF, rfl, hR⟩
  show Go mX12_parish _ _ _ 4 [(0, .ref 189)] [.int 1] (SK, M1, N) _
  dsimp only at hR hok2
  refine g_istore_n (L' := [(0, .ref 189), (1, .int 1)]) (pc' := 5) dX12_parish_4 (by decide) rfl rfl ?_
  refine g_aload_n (j := 0) (pc' := 6) dX12_parish_5 rfl rfl ?_
  refine g_iconst (v := 0) (pc' := 7) dX12_parish_6 (by decide) rfl ?_
  refine g_putI (pc' := 10) dX12_parish_7 fX12_108 rfl rfl ⟨rfl, rfl⟩ rfl ?_
  generalize hM2 : (um M1 189 6 0) = M2
  refine g_iload_n (j := 1) (pc' := 11) dX12_parish_10 rfl rfl ?_
  refine g_if_ne (tgt := 22) (pc' := 14) dX12_parish_11 (by decide) rfl (fun _ => ?_) (fun hc => absurd hc (by decide))
  refine g_aload_n (j := 0) (pc' := 23) dX12_parish_22 rfl rfl ?_
  refine g_getR (pc' := 26) dX12_parish_23 fX12_16 rfl rfl rfl ?_
  refine g_iconst (v := 0) (pc' := 27) dX12_parish_26 (by decide) rfl ?_
  refine g_aload_n (j := 0) (pc' := 28) dX12_parish_27 rfl rfl ?_
  refine g_getR (pc' := 31) dX12_parish_28 fX12_7 rfl rfl rfl ?_
  refine g_iconst (v := 0) (pc' := 32) dX12_parish_31 (by decide) rfl ?_
  refine g_sipush (v := 352) (pc' := 35) dX12_parish_32 (by decide) rfl ?_
  refine g_callS (my := mX12_copies) (st := []) (av := [.ref 192, .int 0, .ref 190, .int 0, .int 352]) (mcr := 0) (msr := 0) (mc := 0) (ms := 0) (pc' := 38) dX12_parish_35 kX12_copies wX12_152 rfl (Nat.le_of_ble_eq_true rfl) (by decide) (s_copies (k0 := 192) (i := 0) (k1 := 190) (j := 0) (n := 352) rfl rfl (by omega) (by omega) (by omega)) rfl ?_
  rintro _ _ ⟨rfl, rfl⟩
  show Go mX12_parish _ _ _ 38 [(0, .ref 189), (1, .int 1)] [] (SK, (cpy2 M2 192 0 190 0 352), N) _
  generalize hM3 : (cpy2 M2 192 0 190 0 352) = M3
  have hc : ∀ j, j < 48 → M3 190 j = P2 j := fun j hj => by rw [← hM3, cpy_all (by omega), ← hM2, um_ne (by omega)]; exact hR j hj
  have hf3 : ∀ a, a ≠ 189 → a ≠ 190 → a ≠ 192 → M3 a = M a := fun a h1 h2 h3 => by rw [← hM3, cpy2_ne h2, ← hM2, um_ne h1]; exact hF.2 a h1 h3
  refine g_aload_n (j := 0) (pc' := 39) dX12_parish_38 rfl rfl ?_
  refine g_getR (pc' := 42) dX12_parish_39 fX12_7 rfl rfl rfl ?_
  refine g_iconst (v := 0) (pc' := 43) dX12_parish_42 (by decide) rfl ?_
  refine g_iald (n := 0) (pc' := 44) dX12_parish_43 rfl rfl (by omega) rfl ?_
  refine g_top (y := nI n2) ((hc 0 (by omega)).trans hok2.1.2.2.1) ?_
  exact g_iret dX12_parish_44 rfl rfl (⟨M3, N, rfl, rfl, hI.read (M' := M3) ⟨fun j hj => hc j (by omega), (hc 47 (by omega)).trans hok2.2, fun i Q hi => by cases hi⟩ (by rw [← hM3, cpy2_ne (by omega), ← hM2, um_at2 (by omega)]; exact hF.1 4 (by omega) (by omega)) (by rw [← hM3, cpy2_ne (by omega), ← hM2]; exact um_at) hf3, fun a ha => ⟨hf3 a (by omega) (by omega) (by omega), rfl⟩⟩)
