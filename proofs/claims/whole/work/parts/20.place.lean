/-! ===== a man's place in the line; whether a kind would be called so ===== -/
theorem lineA_inj {off : Nat → Int32} : ∀ {n i j : Nat}, i < n → j < n → lineA off n i = lineA off n j → i = j
  | 0, _, _, h, _, _ => absurd h (Nat.not_lt_zero _)
  | n + 1, i, j, hi, hj, h => by
    have hq := plc_le (off := off) (m := n) (l := lineA off n) n
    have hlt : ∀ a, a < n → lineA off n a < n := fun a ha => lineA_lt ha
    have h : insA off n (lineA off n) i = insA off n (lineA off n) j := h
    unfold insA at h
    generalize plc off n (lineA off n) n = q at hq h
    by_cases i1 : i < q
    · rw [if_pos i1] at h
      by_cases j1 : j < q
      · rw [if_pos j1] at h
        exact lineA_inj (n := n) (by omega) (by omega) h
      · rw [if_neg j1] at h
        by_cases j2 : j = q
        · rw [if_pos j2] at h
          have := hlt i (by omega)
          omega
        · rw [if_neg j2] at h
          have := lineA_inj (n := n) (by omega) (by omega) h
          omega
    · rw [if_neg i1] at h
      by_cases i2 : i = q
      · rw [if_pos i2] at h
        by_cases j1 : j < q
        · rw [if_pos j1] at h
          have := hlt j (by omega)
          omega
        · rw [if_neg j1] at h
          by_cases j2 : j = q
          · omega
          · rw [if_neg j2] at h
            have := hlt (j - 1) (by omega)
            omega
      · rw [if_neg i2] at h
        by_cases j1 : j < q
        · rw [if_pos j1] at h
          have := lineA_inj (n := n) (by omega) (by omega) h
          omega
        · rw [if_neg j1] at h
          by_cases j2 : j = q
          · rw [if_pos j2] at h
            have := hlt (i - 1) (by omega)
            omega
          · rw [if_neg j2] at h
            have := lineA_inj (n := n) (by omega) (by omega) h
            omega
/-- the place of m among the first n of the line -/
def placF (off : Nat → Int32) (n m : Nat) : Nat := (firstIx (fun i => lineA off n i == m) 0 n).getD 0
theorem firstIx_none {f : Nat → Bool} : ∀ {k i : Nat}, firstIx f i k = none → ∀ j, i ≤ j → j < i + k → f j = false
  | 0, i, _, j, h1, h2 => by omega
  | k + 1, i, h, j, h1, h2 => by
    unfold firstIx at h
    split at h
    · cases h
    · rename_i hf
      by_cases e : j = i
      · subst e; simpa using hf
      · exact firstIx_none h j (by omega) (by omega)
theorem placF_of {off : Nat → Int32} {n m i : Nat} (hi : i < n) (h : lineA off n i = m) : placF off n m = i := by
  unfold placF
  cases hf : firstIx (fun i => lineA off n i == m) 0 n with
  | none =>
    have := firstIx_none hf i (by omega) (by omega)
    simp [h] at this
  | some j =>
    obtain ⟨-, h2, h3⟩ := firstIx_lt hf
    have h4 : lineA off n j = m := by simpa using h3
    exact lineA_inj (show j < n by omega) hi (h4.trans h.symm)
set_option maxRecDepth 100000 in
set_option maxHeartbeats 1000000 in
theorem s_placeOf {M : Nat → Nat → Int32} {N : Nat → Nat → Int64} {n k : Nat} {P : Nat → Int32} (hok : OkP n k P) (hc0 : IsC M 14 n k P) {m : Nat} (hm : m < n) : Run mX0_placeOf 4 0 0 [.ref 1, .ref 14, .int (nI m)] (SK, M, N) (fun r h' => ∃ M', h' = (SK, M', N) ∧ r = some (.int (nI (placF (offP P (P 2)) n m))) ∧ ∀ a, a ≠ 8 → a ≠ 9 → M' a = M a) := by
  refine Run.of (by decide) (Nat.le_of_ble_eq_true rfl) ?_
  have hn6 := hok.1
  refine g_aload_n (j := 0) (pc' := 1) dX0_placeOf_0 rfl rfl ?_
  refine g_aload_n (j := 1) (pc' := 2) dX0_placeOf_1 rfl rfl ?_
  refine g_aload_n (j := 1) (pc' := 3) dX0_placeOf_2 rfl rfl ?_
  refine g_getI (pc' := 6) dX0_placeOf_3 fX0_69 rfl rfl rfl ?_
  rw [hc0.2.2.1]
  refine g_callV (my := mX0_lineUp) (k := 1) (st := []) (av := [.ref 14, .int (P 2)]) (mcr := 0) (msr := 0) (mc := 0) (ms := 0) (pc' := 9) dX0_placeOf_6 kX0_lineUp wX0_72 rfl ⟨rfl, rfl⟩ rfl (Nat.le_of_ble_eq_true rfl) (by decide) (s_lineUp isPar14 hok hc0 (P 2)) rfl ?_
  rintro _ _ ⟨M1, rfl, rfl, h8, h9, hf⟩
  show Go mX0_placeOf _ _ _ 9 [(0, .ref 1), (1, .ref 14), (2, .int (nI m))] [] (SK, M1, N) _
  have hcM : IsC M1 14 n k P := hc0.keep (fun a a1 a2 => hf a (by omega) (by omega))
  refine g_iconst (v := 0) (pc' := 10) dX0_placeOf_9 (by decide) rfl ?_
  refine g_istore_n (L' := [(0, .ref 1), (1, .ref 14), (2, .int (nI m)), (3, .int 0)]) (pc' := 11) dX0_placeOf_10 (by decide) rfl rfl ?_
  refine g_iconst (v := 0) (pc' := 12) dX0_placeOf_11 (by decide) rfl ?_
  refine g_istore (L' := [(0, .ref 1), (1, .ref 14), (2, .int (nI m)), (3, .int 0), (4, .int 0)]) (pc' := 14) dX0_placeOf_12 (by decide) rfl rfl ?_
  obtain ⟨i0, hi0, hl0⟩ := lineA_surj (off := offP P (P 2)) hm
  have loop : ∀ (t i : Nat) (pl : Int32), i + t = n → (i0 < i → pl = nI i0) → Go mX0_placeOf 4 0 0 14 [(0, .ref 1), (1, .ref 14), (2, .int (nI m)), (3, .int pl), (4, .int (nI i))] [] (SK, M1, N) (fun r h' => ∃ M', h' = (SK, M', N) ∧ r = some (.int (nI (placF (offP P (P 2)) n m))) ∧ ∀ a, a ≠ 8 → a ≠ 9 → M' a = M a) := by
    intro t
    induction t with
    | zero =>
      intro i pl hi hpl
      have hin : n = i := by omega
      subst hin
      refine g_iload (j := 4) (pc' := 16) dX0_placeOf_14 rfl rfl ?_
      refine g_aload_n (j := 1) (pc' := 17) dX0_placeOf_16 rfl rfl ?_
      refine g_getI (pc' := 20) dX0_placeOf_17 fX0_76 rfl rfl rfl ?_
      rw [hcM.1]
      refine g_icmp_ge (tgt := 43) (pc' := 23) dX0_placeOf_20 (by decide) rfl (fun hc => ?_) (fun hc => ?_)
      · refine g_iload_n (j := 3) (pc' := 44) dX0_placeOf_43 rfl rfl ?_
        exact g_iret dX0_placeOf_44 rfl rfl (⟨M1, rfl, by rw [placF_of hi0 hl0, hpl hi0], hf⟩)
      · exact absurd (nI_le (Nat.le_refl _) (by omega)) hc
    | succ t ih =>
      intro i pl hi hpl
      refine g_iload (j := 4) (pc' := 16) dX0_placeOf_14 rfl rfl ?_
      refine g_aload_n (j := 1) (pc' := 17) dX0_placeOf_16 rfl rfl ?_
      refine g_getI (pc' := 20) dX0_placeOf_17 fX0_76 rfl rfl rfl ?_
      rw [hcM.1]
      refine g_icmp_ge (tgt := 43) (pc' := 23) dX0_placeOf_20 (by decide) rfl (fun hc => ?_) (fun hc => ?_)
      · exact absurd hc (nI_ge (by omega) (by omega))
      · have hln := lineA_lt (off := offP P (P 2)) (n := n) (j := i) (by omega)
        refine g_aload_n (j := 0) (pc' := 24) dX0_placeOf_23 rfl rfl ?_
        refine g_getR (pc' := 27) dX0_placeOf_24 fX0_34 rfl rfl rfl ?_
        refine g_iload (j := 4) (pc' := 29) dX0_placeOf_27 rfl rfl ?_
        refine g_iald (n := i) (pc' := 30) dX0_placeOf_29 rfl rfl (by omega) rfl ?_
        refine g_top (y := nI (lineA (offP P (P 2)) n i)) (h9 i (by omega)) ?_
        refine g_iload_n (j := 2) (pc' := 31) dX0_placeOf_30 rfl rfl ?_
        refine g_icmp_ne (tgt := 37) (pc' := 34) dX0_placeOf_31 (by decide) rfl (fun hc2 => ?_) (fun hc2 => ?_)
        · refine g_iinc (j := 4) (v := nI (i + 1)) (L' := [(0, .ref 1), (1, .ref 14), (2, .int (nI m)), (3, .int pl), (4, .int (nI (i + 1)))]) (pc' := 40) dX0_placeOf_37 rfl (nI_1 i) (by decide) rfl rfl ?_
          refine g_goto (tgt := 14) dX0_placeOf_40 (by decide) ?_
          refine ih (i + 1) pl (by omega) (fun h => hpl ?_)
          have : ¬ i0 = i := fun e => hc2 (by rw [← e, hl0])
          omega
        · refine g_iload (j := 4) (pc' := 36) dX0_placeOf_34 rfl rfl ?_
          refine g_istore_n (L' := [(0, .ref 1), (1, .ref 14), (2, .int (nI m)), (3, .int (nI i)), (4, .int (nI i))]) (pc' := 37) dX0_placeOf_36 (by decide) rfl rfl ?_
          refine g_iinc (j := 4) (v := nI (i + 1)) (L' := [(0, .ref 1), (1, .ref 14), (2, .int (nI m)), (3, .int (nI i)), (4, .int (nI (i + 1)))]) (pc' := 40) dX0_placeOf_37 rfl (nI_1 i) (by decide) rfl rfl ?_
          refine g_goto (tgt := 14) dX0_placeOf_40 (by decide) ?_
          refine ih (i + 1) (nI i) (by omega) (fun h => ?_)
          have h2 := (nI_eq (by omega) (by omega)).mp hc2
          rw [lineA_inj (by omega) hi0 (h2.trans hl0.symm)]
  exact loop n 0 0 (by omega) (fun h => by omega)
/-- P with place j changed -/
def upP (P : Nat → Int32) (j : Nat) (x : Int32) : Nat → Int32 := fun i => if i = j then x else P i
theorem upP_at {P : Nat → Int32} {j : Nat} {x : Int32} : upP P j x j = x := if_pos rfl
theorem upP_ne {P : Nat → Int32} {i j : Nat} {x : Int32} (h : i ≠ j) : upP P j x i = P i := if_neg h
theorem OkP.kind {n k : Nat} {P : Nat → Int32} (h : OkP n k P) {m q : Nat} (hm : m < n) (hq : q ≤ 4) : OkP n k (upP P (4 + m) (nI q)) := by
  obtain ⟨h1, h2, h3, h4, h5, h6, h7, h8⟩ := h
  refine ⟨h1, h2, by rw [upP_ne (by omega)]; exact h3, by rw [upP_ne (by omega)]; exact h4, fun j hj => ?_, fun j a1 a2 => ?_, fun i hi => ?_, fun i a1 a2 => ?_⟩
  · rw [upP_ne (show 10 + j ≠ 4 + m by omega), upP_ne (show 16 + j ≠ 4 + m by omega), upP_ne (show 28 + j ≠ 4 + m by omega)]
    refine ⟨?_, (h5 j hj).2⟩
    by_cases e : j = m
    · subst e; exact ⟨q, hq, upP_at⟩
    · rw [upP_ne (by omega)]; exact (h5 j hj).1
  · rw [upP_ne (by omega), upP_ne (by omega)]; exact h6 j a1 a2
  · rw [upP_ne (by omega), upP_ne (by omega)]; exact h7 i hi
  · rw [upP_ne (by omega), upP_ne (by omega)]; exact h8 i a1 a2
theorem cmp_eq {x y : Int64} : lg_cmp x y = 0 ↔ x = y := by
  unfold lg_cmp
  constructor
  · intro h
    split at h
    · exact absurd h (by decide)
    · split at h
      · assumption
      · exact absurd h (by decide)
  · rintro rfl
    rw [if_neg (Int64.lt_irrefl), if_pos rfl]
set_option maxRecDepth 100000 in
set_option maxHeartbeats 1000000 in
theorem s_isCalledSo {M : Nat → Nat → Int32} {N : Nat → Nat → Int64} {n k : Nat} {P : Nat → Int32} (hok : OkP n k P) (hc0 : IsC M 14 n k P) {m q c i nn : Nat} (hm : m < n) (hq : q ≤ 4) (hs : SK[c]? = some (101, rep 24)) (hi : i + nn ≤ 24) : Run mX11_isCalledSo 6 0 0 [.ref 0, .int (nI m), .int (nI q), .ref c, .int (nI i), .int (nI nn)] (SK, M, N) (fun r h' => ∃ M', h' = (SK, M', N) ∧ (∃ z, r = some (.int z) ∧ (((∀ t, t < nn → (unN (foreP n k (upP P (4 + m) (nI q)) (t + 1) (28 + m))).toInt64 = N c (i + t)) ∧ z = 1) ∨ ((¬ ∀ t, t < nn → (unN (foreP n k (upP P (4 + m) (nI q)) (t + 1) (28 + m))).toInt64 = N c (i + t)) ∧ z = 0))) ∧ ∀ a, a ≠ 8 → a ≠ 9 → a ≠ 10 → (a < 162 ∨ 170 ≤ a) → M' a = M a) := by
  refine Run.of (by decide) (Nat.le_of_ble_eq_true rfl) ?_
  have hn6 := hok.1
  refine g_aload_n (j := 0) (pc' := 1) dX11_isCalledSo_0 rfl rfl ?_
  refine g_getR (pc' := 4) dX11_isCalledSo_1 fX11_49 rfl rfl rfl ?_
  refine g_aload_n (j := 0) (pc' := 5) dX11_isCalledSo_4 rfl rfl ?_
  refine g_getR (pc' := 8) dX11_isCalledSo_5 fX11_28 rfl rfl rfl ?_
  refine g_callV (my := mX4_become) (k := 162) (st := []) (av := [.ref 14]) (mcr := 0) (msr := 0) (mc := 0) (ms := 0) (pc' := 11) dX11_isCalledSo_8 kX4_become wX11_160 rfl ⟨rfl, rfl⟩ rfl (Nat.le_of_ble_eq_true rfl) (by decide) (s_become par162 par14 (by omega)) rfl ?_
  rintro _ _ ⟨M1, rfl, rfl, hcp⟩
  show Go mX11_isCalledSo _ _ _ 11 [(0, .ref 0), (1, .int (nI m)), (2, .int (nI q)), (3, .ref c), (4, .int (nI i)), (5, .int (nI nn))] [] (SK, M1, N) _
  have hI1 := hc0.copied hok.1 hok.2.1 hcp
  refine g_aload_n (j := 0) (pc' := 12) dX11_isCalledSo_11 rfl rfl ?_
  refine g_getR (pc' := 15) dX11_isCalledSo_12 fX11_49 rfl rfl rfl ?_
  refine g_getR (pc' := 18) dX11_isCalledSo_15 fX11_97 rfl rfl rfl ?_
  refine g_iload_n (j := 1) (pc' := 19) dX11_isCalledSo_18 rfl rfl ?_
  refine g_iload_n (j := 2) (pc' := 20) dX11_isCalledSo_19 rfl rfl ?_
  refine g_iast (n := m) (pc' := 21) dX11_isCalledSo_20 rfl rfl (by omega) rfl ?_
  refine g_iconst (v := 0) (pc' := 22) dX11_isCalledSo_21 (by decide) rfl ?_
  refine g_istore (L' := [(0, .ref 0), (1, .int (nI m)), (2, .int (nI q)), (3, .ref c), (4, .int (nI i)), (5, .int (nI nn)), (6, .int 0)]) (pc' := 24) dX11_isCalledSo_22 (by decide) rfl rfl ?_
  generalize hM2 : (um M1 163 m (nI q)) = M2
  have hok2 := hok.kind hm hq
  have hT : Told M M2 n k (upP P (4 + m) (nI q)) := by
    refine ⟨⟨?_, ?_, ?_, ?_, ?_, fun j hj => ?_, fun i hi => ?_⟩, fun a _ _ _ ha => ?_⟩
    · rw [← hM2, um_ne (by omega)]; exact hI1.1
    · rw [← hM2, um_ne (by omega)]; exact hI1.2.1
    · rw [← hM2, um_ne (by omega), upP_ne (by omega)]; exact hI1.2.2.1
    · rw [← hM2, um_ne (by omega), upP_ne (by omega)]; exact hI1.2.2.2.1
    · rw [← hM2, um_ne (by omega), upP_ne (by omega)]; exact hI1.2.2.2.2.1
    · obtain ⟨e1, e2⟩ := hI1.2.2.2.2.2.1 j hj
      rw [upP_ne (show 10 + j ≠ 4 + m by omega), upP_ne (show 16 + j ≠ 4 + m by omega), upP_ne (show 22 + j ≠ 4 + m by omega), upP_ne (show 28 + j ≠ 4 + m by omega), ← hM2, um_ne (show 162 + 2 ≠ 163 by omega), um_ne (show 162 + 3 ≠ 163 by omega), um_ne (show 162 + 4 ≠ 163 by omega), um_ne (show 162 + 5 ≠ 163 by omega)]
      refine ⟨?_, e2⟩
      by_cases e : j = m
      · subst e; rw [upP_at]; exact um_at
      · rw [upP_ne (by omega)]; exact (um_at2 e).trans e1
    · rw [← hM2, um_ne (show 162 + 6 ≠ 163 by omega), um_ne (show 162 + 7 ≠ 163 by omega), upP_ne (by omega), upP_ne (by omega)]; exact hI1.2.2.2.2.2.2 i hi
    · rw [← hM2, um_ne (by omega)]; exact hcp.2.2 a (by omega)
  generalize hP2 : upP P (4 + m) (nI q) = P2 at hok2 hT
  have loop : ∀ (j t : Nat) (M3 : Nat → Nat → Int32), t + j = nn → Told M M3 n k (foreP n k P2 t) → (∀ u, u < t → (unN (foreP n k P2 (u + 1) (28 + m))).toInt64 = N c (i + u)) → Go mX11_isCalledSo 6 0 0 24 [(0, .ref 0), (1, .int (nI m)), (2, .int (nI q)), (3, .ref c), (4, .int (nI i)), (5, .int (nI nn)), (6, .int (nI t))] [] (SK, M3, N) (fun r h' => ∃ M', h' = (SK, M', N) ∧ (∃ z, r = some (.int z) ∧ (((∀ t, t < nn → (unN (foreP n k P2 (t + 1) (28 + m))).toInt64 = N c (i + t)) ∧ z = 1) ∨ ((¬ ∀ t, t < nn → (unN (foreP n k P2 (t + 1) (28 + m))).toInt64 = N c (i + t)) ∧ z = 0))) ∧ ∀ a, a ≠ 8 → a ≠ 9 → a ≠ 10 → (a < 162 ∨ 170 ≤ a) → M' a = M a) := by
    intro j
    induction j with
    | zero =>
      intro t M3 ht hT hu
      have htn : nn = t := by omega
      subst htn
      refine g_iload (j := 6) (pc' := 26) dX11_isCalledSo_24 rfl rfl ?_
      refine g_iload (j := 5) (pc' := 28) dX11_isCalledSo_26 rfl rfl ?_
      refine g_icmp_ge (tgt := 78) (pc' := 31) dX11_isCalledSo_28 (by decide) rfl (fun hc => ?_) (fun hc => ?_)
      · refine g_iconst (v := 1) (pc' := 79) dX11_isCalledSo_78 (by decide) rfl ?_
        exact g_iret dX11_isCalledSo_79 rfl (by decide) (⟨M3, rfl, ⟨1, rfl, Or.inl ⟨hu, rfl⟩⟩, hT.2⟩)
      · exact absurd (nI_le (Nat.le_refl _) (by omega)) hc
    | succ j ih =>
      intro t M3 ht hT hu
      refine g_iload (j := 6) (pc' := 26) dX11_isCalledSo_24 rfl rfl ?_
      refine g_iload (j := 5) (pc' := 28) dX11_isCalledSo_26 rfl rfl ?_
      refine g_icmp_ge (tgt := 78) (pc' := 31) dX11_isCalledSo_28 (by decide) rfl (fun hc => ?_) (fun hc => ?_)
      · exact absurd hc (nI_ge (by omega) (by omega))
      · refine g_aload_n (j := 0) (pc' := 32) dX11_isCalledSo_31 rfl rfl ?_
        refine g_getR (pc' := 35) dX11_isCalledSo_32 fX11_10 rfl rfl rfl ?_
        refine g_aload_n (j := 0) (pc' := 36) dX11_isCalledSo_35 rfl rfl ?_
        refine g_getR (pc' := 39) dX11_isCalledSo_36 fX11_49 rfl rfl rfl ?_
        refine g_aload_n (j := 0) (pc' := 40) dX11_isCalledSo_39 rfl rfl ?_
        refine g_getR (pc' := 43) dX11_isCalledSo_40 fX11_49 rfl rfl rfl ?_
        refine g_getI (pc' := 46) dX11_isCalledSo_43 fX11_117 rfl rfl rfl ?_
        rw [hT.1.2.2.1, foreP_2 hok2]
        refine g_callV (my := mX0_hold) (k := 1) (st := []) (av := [.ref 162, .int (P2 2)]) (mcr := 0) (msr := 0) (mc := 0) (ms := 0) (pc' := 49) dX11_isCalledSo_46 kX0_hold wX11_186 rfl ⟨rfl, rfl⟩ rfl (Nat.le_of_ble_eq_true rfl) (by decide) (s_hold isPar162 (foreP_ok hok2 t) hT.1 (P2 2)) rfl ?_
        rintro _ _ ⟨M4, rfl, rfl, hH⟩
        show Go mX11_isCalledSo _ _ _ 49 [(0, .ref 0), (1, .int (nI m)), (2, .int (nI q)), (3, .ref c), (4, .int (nI i)), (5, .int (nI nn)), (6, .int (nI t))] [] (SK, M4, N) _
        have hH1 : IsC M4 162 n k (foreP n k P2 (t + 1)) := hH.1
        refine g_aload_n (j := 0) (pc' := 50) dX11_isCalledSo_49 rfl rfl ?_
        refine g_getR (pc' := 53) dX11_isCalledSo_50 fX11_49 rfl rfl rfl ?_
        refine g_getR (pc' := 56) dX11_isCalledSo_53 fX11_110 rfl rfl rfl ?_
        refine g_iload_n (j := 1) (pc' := 57) dX11_isCalledSo_56 rfl rfl ?_
        refine g_iald (n := m) (pc' := 58) dX11_isCalledSo_57 rfl rfl (by omega) rfl ?_
        refine g_top (y := unN (foreP n k P2 (t + 1) (28 + m))) ((hH1.2.2.2.2.2.1 m hm).2.2.2.2) ?_
        refine g_i2l (pc' := 59) dX11_isCalledSo_58 rfl ?_
        refine g_aload_n (j := 3) (pc' := 60) dX11_isCalledSo_59 rfl rfl ?_
        refine g_iload (j := 4) (pc' := 62) dX11_isCalledSo_60 rfl rfl ?_
        refine g_iload (j := 6) (pc' := 64) dX11_isCalledSo_62 rfl rfl ?_
        refine g_iadd (pc' := 65) dX11_isCalledSo_64 rfl ?_
        refine g_lald (n := i + t) (pc' := 66) dX11_isCalledSo_65 hs (nI_addE rfl rfl) (by omega) rfl ?_
        refine g_lcmp (pc' := 67) dX11_isCalledSo_66 rfl ?_
        refine g_if_eq (tgt := 72) (pc' := 70) dX11_isCalledSo_67 (by decide) rfl (fun hc2 => ?_) (fun hc2 => ?_)
        · have he := cmp_eq.mp hc2
          refine g_iinc (j := 6) (v := nI (t + 1)) (L' := [(0, .ref 0), (1, .int (nI m)), (2, .int (nI q)), (3, .ref c), (4, .int (nI i)), (5, .int (nI nn)), (6, .int (nI (t + 1)))]) (pc' := 75) dX11_isCalledSo_72 rfl (nI_1 t) (by decide) rfl rfl ?_
          refine g_goto (tgt := 24) dX11_isCalledSo_75 (by decide) ?_
          refine ih (t + 1) M4 (by omega) ⟨hH1, fun a a8 a9 a10 ha => (hH.2 a a8 a9 a10 ha).trans (hT.2 a a8 a9 a10 ha)⟩ (fun v hv => ?_)
          by_cases e : v = t
          · subst e; exact he
          · exact hu v (by omega)
        · refine g_iconst (v := 0) (pc' := 71) dX11_isCalledSo_70 (by decide) rfl ?_
          exact g_iret dX11_isCalledSo_71 rfl (by decide) (⟨M4, rfl, ⟨0, rfl, Or.inr ⟨fun q9 => hc2 (cmp_eq.mpr (q9 t (by omega))), rfl⟩⟩, fun a a8 a9 a10 ha => (hH.2 a a8 a9 a10 ha).trans (hT.2 a a8 a9 a10 ha)⟩)
  exact loop nn 0 M2 (by omega) hT (fun u hu => by omega)
