/-! ===== Past; Sheet ===== -/
theorem ba22 {i : Nat} (h : i < 8) : ([.ref 24, .ref 32, .ref 40, .ref 48, .ref 56, .ref 64, .ref 72, .ref 80] : List Value)[i]? = some (.ref (24 + 8 * i)) := by
  rcases (show i = 0 ∨ i = 1 ∨ i = 2 ∨ i = 3 ∨ i = 4 ∨ i = 5 ∨ i = 6 ∨ i = 7 by omega) with rfl | rfl | rfl | rfl | rfl | rfl | rfl | rfl <;> rfl
theorem pp22 {i : Nat} (h : i < 8) : ParAt (24 + 8 * i) := by
  rcases (show i = 0 ∨ i = 1 ∨ i = 2 ∨ i = 3 ∨ i = 4 ∨ i = 5 ∨ i = 6 ∨ i = 7 by omega) with rfl | rfl | rfl | rfl | rfl | rfl | rfl | rfl
  · exact par24
  · exact par32
  · exact par40
  · exact par48
  · exact par56
  · exact par64
  · exact par72
  · exact par80
theorem ba96 {i : Nat} (h : i < 8) : ([.ref 98, .ref 106, .ref 114, .ref 122, .ref 130, .ref 138, .ref 146, .ref 154] : List Value)[i]? = some (.ref (98 + 8 * i)) := by
  rcases (show i = 0 ∨ i = 1 ∨ i = 2 ∨ i = 3 ∨ i = 4 ∨ i = 5 ∨ i = 6 ∨ i = 7 by omega) with rfl | rfl | rfl | rfl | rfl | rfl | rfl | rfl <;> rfl
theorem pp96 {i : Nat} (h : i < 8) : ParAt (98 + 8 * i) := by
  rcases (show i = 0 ∨ i = 1 ∨ i = 2 ∨ i = 3 ∨ i = 4 ∨ i = 5 ∨ i = 6 ∨ i = 7 by omega) with rfl | rfl | rfl | rfl | rfl | rfl | rfl | rfl
  · exact par98
  · exact par106
  · exact par114
  · exact par122
  · exact par130
  · exact par138
  · exact par146
  · exact par154
theorem rem8 {a : Nat} (h : a < 1000) : nI a - nI a / 8 * 8 = nI (a % 8) := pk_rem (d := 8) (by omega) (by omega) (by omega)
theorem min8 {s : Nat} (h : s ≤ 8) : (if (8 : Int32) < nI (s + 1) then (8 : Int32) else nI (s + 1)) = nI (min (s + 1) 8) := by
  by_cases h8 : s = 8
  · subst h8; decide
  · have h9 : ¬ (8 : Int32) < nI (s + 1) := nI_nlt (a := 8) (b := s + 1) (by omega) (by omega)
    rw [if_neg h9, Nat.min_eq_left (by omega)]
set_option maxRecDepth 100000 in
set_option maxHeartbeats 1000000 in
theorem s_forget {M : Nat → Nat → Int32} {N : Nat → Nat → Int64} : Run mX5_forget 0 0 0 [.ref 22] (SK, M, N) (fun r h' => ∃ M', h' = (SK, M', N) ∧ r = none ∧ M' 22 2 = 0 ∧ M' 22 1 = M 22 1 ∧ ∀ a, a ≠ 22 → M' a = M a) := by
  refine Run.of (by decide) (Nat.le_of_ble_eq_true rfl) ?_
  refine g_aload_n (j := 0) (pc' := 1) dX5_forget_0 rfl rfl ?_
  refine g_iconst (v := 0) (pc' := 2) dX5_forget_1 (by decide) rfl ?_
  refine g_putI (pc' := 5) dX5_forget_2 fX5_19 rfl rfl ⟨rfl, rfl⟩ rfl ?_
  exact g_vret dX5_forget_5 rfl (⟨_, rfl, rfl, um_at, um_at2 (by omega), fun a ha => um_ne ha⟩)
/-- Past.keep: cells 22 and the parish that is the newest now; that one is as 14 was -/
def Kept (M M' : Nat → Nat → Int32) (w s : Nat) : Prop := M' 22 1 = nI ((w + 1) % 8) ∧ M' 22 2 = nI (min (s + 1) 8) ∧ (∀ j, j < 5 → M' (24 + 8 * ((w + 1) % 8)) j = M 14 j) ∧ (∀ i j, 1 ≤ i → i ≤ 7 → j < 6 → M' (24 + 8 * ((w + 1) % 8) + i) j = M (14 + i) j) ∧ ∀ a, a ≠ 22 → (a < 24 + 8 * ((w + 1) % 8) ∨ 24 + 8 * ((w + 1) % 8) + 8 ≤ a) → M' a = M a
set_option maxRecDepth 100000 in
set_option maxHeartbeats 1000000 in
theorem s_keep {M : Nat → Nat → Int32} {N : Nat → Nat → Int64} {w s : Nat} (hw : M 22 1 = nI w) (hw8 : w < 8) (hs : M 22 2 = nI s) (hs8 : s ≤ 8) : Run mX5_keep 2 0 0 [.ref 22, .ref 14] (SK, M, N) (fun r h' => ∃ M', h' = (SK, M', N) ∧ r = none ∧ Kept M M' w s) := by
  refine Run.of (by decide) (Nat.le_of_ble_eq_true rfl) ?_
  refine g_aload_n (j := 0) (pc' := 1) dX5_keep_0 rfl rfl ?_
  refine g_aload_n (j := 0) (pc' := 2) dX5_keep_1 rfl rfl ?_
  refine g_getI (pc' := 5) dX5_keep_2 fX5_19 rfl rfl rfl ?_
  refine g_iconst (v := 1) (pc' := 6) dX5_keep_5 (by decide) rfl ?_
  refine g_iadd (pc' := 7) dX5_keep_6 rfl ?_
  refine g_bipush (v := 8) (pc' := 9) dX5_keep_7 (by decide) rfl ?_
  rw [show M 22 2 + 1 = nI (s + 1) from nI_addE hs rfl]
  refine g_min (st := [.ref 22]) (pc' := 12) dX5_keep_9 zX5_23 (Nat.le_of_ble_eq_true rfl) (by decide) rfl ?_
  refine g_top (y := nI (min (s + 1) 8)) (min8 hs8) ?_
  refine g_putI (pc' := 15) dX5_keep_12 fX5_19 rfl rfl ⟨rfl, rfl⟩ rfl ?_
  refine g_aload_n (j := 0) (pc' := 16) dX5_keep_15 rfl rfl ?_
  refine g_aload_n (j := 0) (pc' := 17) dX5_keep_16 rfl rfl ?_
  refine g_getI (pc' := 20) dX5_keep_17 fX5_15 rfl rfl rfl ?_
  refine g_top (y := M 22 1) (by simp (disch := omega) only [um_ne, um_at, um_at2, cpy2_ne]) ?_
  refine g_iconst (v := 1) (pc' := 21) dX5_keep_20 (by decide) rfl ?_
  refine g_iadd (pc' := 22) dX5_keep_21 rfl ?_
  rw [show M 22 1 + 1 = nI (w + 1) from nI_addE hw rfl]
  refine g_bipush (v := 8) (pc' := 24) dX5_keep_22 (by decide) rfl ?_
  refine g_irem (pc' := 25) dX5_keep_24 (by decide) rfl ?_
  refine g_top (y := nI ((w + 1) % 8)) (rem8 (by omega)) ?_
  unfold Kept
  obtain ⟨v, hv⟩ : ∃ v, v = (w + 1) % 8 := ⟨_, rfl⟩
  rw [← hv]
  have hv8 : v < 8 := by omega
  refine g_putI (pc' := 28) dX5_keep_25 fX5_15 rfl rfl ⟨rfl, rfl⟩ rfl ?_
  generalize hM1 : (um (um M 22 2 (nI (min (s + 1) 8))) 22 1 (nI v)) = M1
  have h1 : M1 22 1 = nI v := by rw [← hM1]; exact um_at
  have h2 : M1 22 2 = nI (min (s + 1) 8) := by rw [← hM1]; rw [um_at2 (by omega), um_at]
  have h3 : ∀ a, a ≠ 22 → M1 a = M a := fun a ha => by rw [← hM1, um_ne ha, um_ne ha]
  refine g_aload_n (j := 0) (pc' := 29) dX5_keep_28 rfl rfl ?_
  refine g_getR (pc' := 32) dX5_keep_29 fX5_11 rfl rfl rfl ?_
  refine g_aload_n (j := 0) (pc' := 33) dX5_keep_32 rfl rfl ?_
  refine g_getI (pc' := 36) dX5_keep_33 fX5_15 rfl rfl rfl ?_
  refine g_aald (n := v) (pc' := 37) dX5_keep_36 rfl ⟨rfl, rfl, by decide⟩ h1 (ba22 (by omega)) rfl ?_
  refine g_aload_n (j := 1) (pc' := 38) dX5_keep_37 rfl rfl ?_
  refine g_callV (my := mX4_become) (k := 24 + 8 * v) (st := []) (av := [.ref 14]) (mcr := 0) (msr := 0) (mc := 0) (ms := 0) (pc' := 41) dX5_keep_38 kX4_become wX5_29 (pp22 hv8).c0 ⟨rfl, rfl⟩ rfl (Nat.le_of_ble_eq_true rfl) (by decide) (s_become (pp22 hv8) par14 (Or.inr (by omega))) rfl ?_
  rintro _ _ ⟨M2, rfl, rfl, hc1, hc2, hc3⟩
  show Go mX5_keep _ _ _ 41 [(0, .ref 22), (1, .ref 14)] [] (SK, M2, N) _
  exact g_vret dX5_keep_41 rfl (⟨M2, rfl, rfl, (congrFun (hc3 22 (by omega)) 1).trans h1, (congrFun (hc3 22 (by omega)) 2).trans h2, fun j hj => (hc1 j hj).trans (congrFun (h3 14 (by omega)) j), fun i j a1 a2 a3 => (hc2 i j a1 a2 a3).trans (congrFun (h3 (14 + i) (by omega)) j), fun a h22 ha => (hc3 a ha).trans (h3 a h22)⟩)
set_option maxRecDepth 100000 in
set_option maxHeartbeats 1000000 in
theorem s_latest {M : Nat → Nat → Int32} {N : Nat → Nat → Int64} {w s : Nat} (hw : M 22 1 = nI w) (hw8 : w < 8) (hs : M 22 2 = nI s) (hs8 : s ≤ 8) : Run mX5_latest 0 0 0 [.ref 22] (SK, M, N) (fun r h' => h' = (SK, M, N) ∧ r = some (if s = 0 then .null else .ref (24 + 8 * w))) := by
  refine Run.of (by decide) (Nat.le_of_ble_eq_true rfl) ?_
  refine g_aload_n (j := 0) (pc' := 1) dX5_latest_0 rfl rfl ?_
  refine g_getI (pc' := 4) dX5_latest_1 fX5_19 rfl rfl rfl ?_
  rw [hs]
  refine g_if_ne (tgt := 11) (pc' := 7) dX5_latest_4 (by decide) rfl (fun hc => ?_) (fun hc => ?_)
  · refine g_aload_n (j := 0) (pc' := 12) dX5_latest_11 rfl rfl ?_
    refine g_getR (pc' := 15) dX5_latest_12 fX5_11 rfl rfl rfl ?_
    refine g_aload_n (j := 0) (pc' := 16) dX5_latest_15 rfl rfl ?_
    refine g_getI (pc' := 19) dX5_latest_16 fX5_15 rfl rfl rfl ?_
    refine g_aald (n := w) (pc' := 20) dX5_latest_19 rfl ⟨rfl, rfl, by decide⟩ hw (ba22 (by omega)) rfl ?_
    exact g_aret dX5_latest_20 rfl (⟨rfl, by rw [if_neg (fun q => hc (by rw [q]; rfl))]⟩)
  · have h9 : s = 0 := (nI_eq (b := 0) (by omega) (by omega)).mp hc
    refine g_null (pc' := 8) dX5_latest_7 rfl ?_
    refine g_goto (tgt := 20) dX5_latest_8 (by decide) ?_
    exact g_aretN dX5_latest_20 rfl (⟨rfl, by rw [if_pos h9]⟩)
set_option maxRecDepth 100000 in
set_option maxHeartbeats 1000000 in
theorem s_dropLatest {M : Nat → Nat → Int32} {N : Nat → Nat → Int64} {w s : Nat} (hw : M 22 1 = nI w) (hw8 : w < 8) (hs : M 22 2 = nI s) (hs8 : s ≤ 8) (hs0 : 0 < s) : Run mX5_dropLatest 0 0 0 [.ref 22] (SK, M, N) (fun r h' => ∃ M', h' = (SK, M', N) ∧ r = none ∧ M' 22 1 = nI ((w + 7) % 8) ∧ M' 22 2 = nI (s - 1) ∧ ∀ a, a ≠ 22 → M' a = M a) := by
  refine Run.of (by decide) (Nat.le_of_ble_eq_true rfl) ?_
  refine g_aload_n (j := 0) (pc' := 1) dX5_dropLatest_0 rfl rfl ?_
  refine g_getI (pc' := 4) dX5_dropLatest_1 fX5_19 rfl rfl rfl ?_
  rw [hs]
  refine g_if_le (tgt := 33) (pc' := 7) dX5_dropLatest_4 (by decide) rfl (fun hc => ?_) (fun hc => ?_)
  · exact absurd hc (nI_nle (by omega) (by omega))
  · refine g_aload_n (j := 0) (pc' := 8) dX5_dropLatest_7 rfl rfl ?_
    refine g_dup (pc' := 9) dX5_dropLatest_8 rfl rfl ?_
    refine g_getI (pc' := 12) dX5_dropLatest_9 fX5_19 rfl rfl rfl ?_
    refine g_iconst (v := 1) (pc' := 13) dX5_dropLatest_12 (by decide) rfl ?_
    refine g_isub (pc' := 14) dX5_dropLatest_13 rfl ?_
    refine g_top (y := nI (s - 1)) (by rw [hs]; exact pk_sub (a := s) (b := 1) (by omega)) ?_
    refine g_putI (pc' := 17) dX5_dropLatest_14 fX5_19 rfl rfl ⟨rfl, rfl⟩ rfl ?_
    refine g_aload_n (j := 0) (pc' := 18) dX5_dropLatest_17 rfl rfl ?_
    refine g_aload_n (j := 0) (pc' := 19) dX5_dropLatest_18 rfl rfl ?_
    refine g_getI (pc' := 22) dX5_dropLatest_19 fX5_15 rfl rfl rfl ?_
    refine g_top (y := M 22 1) (by simp (disch := omega) only [um_ne, um_at, um_at2, cpy2_ne]) ?_
    refine g_bipush (v := 8) (pc' := 24) dX5_dropLatest_22 (by decide) rfl ?_
    refine g_iadd (pc' := 25) dX5_dropLatest_24 rfl ?_
    rw [show M 22 1 + 8 = nI (w + 8) from nI_addE hw rfl]
    refine g_iconst (v := 1) (pc' := 26) dX5_dropLatest_25 (by decide) rfl ?_
    refine g_isub (pc' := 27) dX5_dropLatest_26 rfl ?_
    refine g_top (y := nI (w + 7)) (pk_sub (a := w + 8) (b := 1) (by omega)) ?_
    refine g_bipush (v := 8) (pc' := 29) dX5_dropLatest_27 (by decide) rfl ?_
    refine g_irem (pc' := 30) dX5_dropLatest_29 (by decide) rfl ?_
    refine g_top (y := nI ((w + 7) % 8)) (rem8 (by omega)) ?_
    refine g_putI (pc' := 33) dX5_dropLatest_30 fX5_15 rfl rfl ⟨rfl, rfl⟩ rfl ?_
    exact g_vret dX5_dropLatest_33 rfl (⟨_, rfl, rfl, um_at, by rw [um_at2 (by omega), um_at], fun a ha => by rw [um_ne ha, um_ne ha]⟩)
def PCopied (M M' : Nat → Nat → Int32) (k q : Nat) : Prop := M' k 1 = M q 1 ∧ M' k 2 = M q 2 ∧ (∀ a j, 2 ≤ a → a < 66 → j < 6 → ((a - 2) % 8 = 0 → j < 5) → M' (k + a) j = M (q + a) j) ∧ ∀ a, (a < k ∨ k + 66 ≤ a) → M' a = M a
set_option maxRecDepth 100000 in
set_option maxHeartbeats 1000000 in
theorem s_pbecome22 {M : Nat → Nat → Int32} {N : Nat → Nat → Int64} : Run mX5_become 2 0 0 [.ref 22, .ref 96] (SK, M, N) (fun r h' => ∃ M', h' = (SK, M', N) ∧ r = none ∧ PCopied M M' 22 96) := by
  refine Run.of (by decide) (Nat.le_of_ble_eq_true rfl) ?_
  refine g_aload_n (j := 0) (pc' := 1) dX5_become_0 rfl rfl ?_
  refine g_aload_n (j := 1) (pc' := 2) dX5_become_1 rfl rfl ?_
  refine g_getI (pc' := 5) dX5_become_2 fX5_19 rfl rfl rfl ?_
  refine g_putI (pc' := 8) dX5_become_5 fX5_19 rfl rfl ⟨rfl, rfl⟩ rfl ?_
  refine g_aload_n (j := 0) (pc' := 9) dX5_become_8 rfl rfl ?_
  refine g_aload_n (j := 1) (pc' := 10) dX5_become_9 rfl rfl ?_
  refine g_getI (pc' := 13) dX5_become_10 fX5_15 rfl rfl rfl ?_
  refine g_top (y := M 96 1) (by simp (disch := omega) only [um_ne, um_at, um_at2, cpy2_ne]) ?_
  refine g_putI (pc' := 16) dX5_become_13 fX5_15 rfl rfl ⟨rfl, rfl⟩ rfl ?_
  refine g_iconst (v := 0) (pc' := 17) dX5_become_16 (by decide) rfl ?_
  refine g_istore_n (L' := [(0, .ref 22), (1, .ref 96), (2, .int 0)]) (pc' := 18) dX5_become_17 (by decide) rfl rfl ?_
  generalize hM0 : (um (um M 22 2 (M 96 2)) 22 1 (M 96 1)) = M0
  have e1 : M0 22 1 = M 96 1 := by rw [← hM0, um_at]
  have e2 : M0 22 2 = M 96 2 := by rw [← hM0, um_at2 (by omega), um_at]
  have e3 : ∀ a, a ≠ 22 → M0 a = M a := fun a ha => by rw [← hM0, um_ne ha, um_ne ha]
  have loop : ∀ (j i : Nat) (M1 : Nat → Nat → Int32), i + j = 8 → M1 22 = M0 22 → (∀ a c, 2 ≤ a → a < 2 + 8 * i → c < 6 → ((a - 2) % 8 = 0 → c < 5) → M1 (22 + a) c = M (96 + a) c) → (∀ a, (a < 22 ∨ 22 + 2 + 8 * i ≤ a) → M1 a = M0 a) → Go mX5_become 2 0 0 18 [(0, .ref 22), (1, .ref 96), (2, .int (nI i))] [] (SK, M1, N) (fun r h' => ∃ M', h' = (SK, M', N) ∧ r = none ∧ PCopied M M' 22 96) := by
    intro j
    induction j with
    | zero =>
      intro i M1 hi h1 h2 h3
      have h8 : i = 8 := by omega
      subst h8
      refine g_iload_n (j := 2) (pc' := 19) dX5_become_18 rfl rfl ?_
      refine g_bipush (v := 8) (pc' := 21) dX5_become_19 (by decide) rfl ?_
      refine g_icmp_ge (tgt := 45) (pc' := 24) dX5_become_21 (by decide) rfl (fun hc => ?_) (fun hc => ?_)
      · exact g_vret dX5_become_45 rfl (⟨M1, rfl, rfl, (congrFun h1 1).trans e1, (congrFun h1 2).trans e2, fun a c a1 a2 a3 a4 => h2 a c a1 (by omega) a3 a4, fun a ha => (h3 a (by omega)).trans (e3 a (by omega))⟩)
      · exact absurd (nI_le (a := 8) (b := 8) (by omega) (by omega)) hc
    | succ j ih =>
      intro i M1 hi h1 h2 h3
      refine g_iload_n (j := 2) (pc' := 19) dX5_become_18 rfl rfl ?_
      refine g_bipush (v := 8) (pc' := 21) dX5_become_19 (by decide) rfl ?_
      refine g_icmp_ge (tgt := 45) (pc' := 24) dX5_become_21 (by decide) rfl (fun hc => ?_) (fun hc => ?_)
      · exact absurd hc (nI_ge (a := i) (b := 8) (by omega) (by omega))
      · refine g_aload_n (j := 0) (pc' := 25) dX5_become_24 rfl rfl ?_
        refine g_getR (pc' := 28) dX5_become_25 fX5_11 rfl rfl rfl ?_
        refine g_iload_n (j := 2) (pc' := 29) dX5_become_28 rfl rfl ?_
        refine g_aald (n := i) (pc' := 30) dX5_become_29 rfl ⟨rfl, rfl, by decide⟩ rfl (ba22 (by omega)) rfl ?_
        refine g_aload_n (j := 1) (pc' := 31) dX5_become_30 rfl rfl ?_
        refine g_getR (pc' := 34) dX5_become_31 fX5_11 rfl rfl rfl ?_
        refine g_iload_n (j := 2) (pc' := 35) dX5_become_34 rfl rfl ?_
        refine g_aald (n := i) (pc' := 36) dX5_become_35 rfl ⟨rfl, rfl, by decide⟩ rfl (ba96 (by omega)) rfl ?_
        refine g_callV (my := mX4_become) (k := 24 + 8 * i) (st := []) (av := [.ref (98 + 8 * i)]) (mcr := 0) (msr := 0) (mc := 0) (ms := 0) (pc' := 39) dX5_become_36 kX4_become wX5_29 (pp22 (by omega)).c0 ⟨rfl, rfl⟩ rfl (Nat.le_of_ble_eq_true rfl) (by decide) (s_become (pp22 (by omega)) (pp96 (by omega)) (by omega)) rfl ?_
        rintro _ _ ⟨M2, rfl, rfl, hc1, hc2, hc3⟩
        show Go mX5_become _ _ _ 39 [(0, .ref 22), (1, .ref 96), (2, .int (nI i))] [] (SK, M2, N) _
        refine g_iinc (j := 2) (v := nI (i + 1)) (L' := [(0, .ref 22), (1, .ref 96), (2, .int (nI (i + 1)))]) (pc' := 42) dX5_become_39 rfl (nI_1 i) (by decide) rfl rfl ?_
        refine g_goto (tgt := 18) dX5_become_42 (by decide) ?_
        refine ih (i + 1) M2 (by omega) ((hc3 22 (by omega)).trans h1) (fun a c a1 a2 a3 a4 => ?_) (fun a ha => (hc3 a (by omega)).trans (h3 a (by omega)))
        by_cases hb : a < 2 + 8 * i
        · rw [congrFun (hc3 (22 + a) (by omega)) c]
          exact h2 a c a1 hb a3 a4
        · have hq : ∀ b, 98 + 8 * i ≤ b → b < 98 + 8 * i + 8 → M1 b = M b := fun b b1 b2 => (h3 b (by omega)).trans (e3 b (by omega))
          by_cases h0 : a = 2 + 8 * i
          · subst h0
            have g1 := hc1 c (a4 (by omega))
            rw [congrFun (hq _ (Nat.le_refl _) (by omega)) c] at g1
            rw [show 22 + (2 + 8 * i) = 24 + 8 * i by omega, show 96 + (2 + 8 * i) = 98 + 8 * i by omega]
            exact g1
          · have g1 := hc2 (a - (2 + 8 * i)) c (by omega) (by omega) a3
            rw [congrFun (hq _ (by omega) (by omega)) c] at g1
            rw [show 24 + 8 * i + (a - (2 + 8 * i)) = 22 + a by omega, show 98 + 8 * i + (a - (2 + 8 * i)) = 96 + a by omega] at g1
            exact g1
  exact loop 8 0 M0 (by omega) rfl (fun a c a1 a2 => by omega) (fun a _ => rfl)
set_option maxRecDepth 100000 in
set_option maxHeartbeats 1000000 in
theorem s_pbecome96 {M : Nat → Nat → Int32} {N : Nat → Nat → Int64} : Run mX5_become 2 0 0 [.ref 96, .ref 22] (SK, M, N) (fun r h' => ∃ M', h' = (SK, M', N) ∧ r = none ∧ PCopied M M' 96 22) := by
  refine Run.of (by decide) (Nat.le_of_ble_eq_true rfl) ?_
  refine g_aload_n (j := 0) (pc' := 1) dX5_become_0 rfl rfl ?_
  refine g_aload_n (j := 1) (pc' := 2) dX5_become_1 rfl rfl ?_
  refine g_getI (pc' := 5) dX5_become_2 fX5_19 rfl rfl rfl ?_
  refine g_putI (pc' := 8) dX5_become_5 fX5_19 rfl rfl ⟨rfl, rfl⟩ rfl ?_
  refine g_aload_n (j := 0) (pc' := 9) dX5_become_8 rfl rfl ?_
  refine g_aload_n (j := 1) (pc' := 10) dX5_become_9 rfl rfl ?_
  refine g_getI (pc' := 13) dX5_become_10 fX5_15 rfl rfl rfl ?_
  refine g_top (y := M 22 1) (by simp (disch := omega) only [um_ne, um_at, um_at2, cpy2_ne]) ?_
  refine g_putI (pc' := 16) dX5_become_13 fX5_15 rfl rfl ⟨rfl, rfl⟩ rfl ?_
  refine g_iconst (v := 0) (pc' := 17) dX5_become_16 (by decide) rfl ?_
  refine g_istore_n (L' := [(0, .ref 96), (1, .ref 22), (2, .int 0)]) (pc' := 18) dX5_become_17 (by decide) rfl rfl ?_
  generalize hM0 : (um (um M 96 2 (M 22 2)) 96 1 (M 22 1)) = M0
  have e1 : M0 96 1 = M 22 1 := by rw [← hM0, um_at]
  have e2 : M0 96 2 = M 22 2 := by rw [← hM0, um_at2 (by omega), um_at]
  have e3 : ∀ a, a ≠ 96 → M0 a = M a := fun a ha => by rw [← hM0, um_ne ha, um_ne ha]
  have loop : ∀ (j i : Nat) (M1 : Nat → Nat → Int32), i + j = 8 → M1 96 = M0 96 → (∀ a c, 2 ≤ a → a < 2 + 8 * i → c < 6 → ((a - 2) % 8 = 0 → c < 5) → M1 (96 + a) c = M (22 + a) c) → (∀ a, (a < 96 ∨ 96 + 2 + 8 * i ≤ a) → M1 a = M0 a) → Go mX5_become 2 0 0 18 [(0, .ref 96), (1, .ref 22), (2, .int (nI i))] [] (SK, M1, N) (fun r h' => ∃ M', h' = (SK, M', N) ∧ r = none ∧ PCopied M M' 96 22) := by
    intro j
    induction j with
    | zero =>
      intro i M1 hi h1 h2 h3
      have h8 : i = 8 := by omega
      subst h8
      refine g_iload_n (j := 2) (pc' := 19) dX5_become_18 rfl rfl ?_
      refine g_bipush (v := 8) (pc' := 21) dX5_become_19 (by decide) rfl ?_
      refine g_icmp_ge (tgt := 45) (pc' := 24) dX5_become_21 (by decide) rfl (fun hc => ?_) (fun hc => ?_)
      · exact g_vret dX5_become_45 rfl (⟨M1, rfl, rfl, (congrFun h1 1).trans e1, (congrFun h1 2).trans e2, fun a c a1 a2 a3 a4 => h2 a c a1 (by omega) a3 a4, fun a ha => (h3 a (by omega)).trans (e3 a (by omega))⟩)
      · exact absurd (nI_le (a := 8) (b := 8) (by omega) (by omega)) hc
    | succ j ih =>
      intro i M1 hi h1 h2 h3
      refine g_iload_n (j := 2) (pc' := 19) dX5_become_18 rfl rfl ?_
      refine g_bipush (v := 8) (pc' := 21) dX5_become_19 (by decide) rfl ?_
      refine g_icmp_ge (tgt := 45) (pc' := 24) dX5_become_21 (by decide) rfl (fun hc => ?_) (fun hc => ?_)
      · exact absurd hc (nI_ge (a := i) (b := 8) (by omega) (by omega))
      · refine g_aload_n (j := 0) (pc' := 25) dX5_become_24 rfl rfl ?_
        refine g_getR (pc' := 28) dX5_become_25 fX5_11 rfl rfl rfl ?_
        refine g_iload_n (j := 2) (pc' := 29) dX5_become_28 rfl rfl ?_
        refine g_aald (n := i) (pc' := 30) dX5_become_29 rfl ⟨rfl, rfl, by decide⟩ rfl (ba96 (by omega)) rfl ?_
        refine g_aload_n (j := 1) (pc' := 31) dX5_become_30 rfl rfl ?_
        refine g_getR (pc' := 34) dX5_become_31 fX5_11 rfl rfl rfl ?_
        refine g_iload_n (j := 2) (pc' := 35) dX5_become_34 rfl rfl ?_
        refine g_aald (n := i) (pc' := 36) dX5_become_35 rfl ⟨rfl, rfl, by decide⟩ rfl (ba22 (by omega)) rfl ?_
        refine g_callV (my := mX4_become) (k := 98 + 8 * i) (st := []) (av := [.ref (24 + 8 * i)]) (mcr := 0) (msr := 0) (mc := 0) (ms := 0) (pc' := 39) dX5_become_36 kX4_become wX5_29 (pp96 (by omega)).c0 ⟨rfl, rfl⟩ rfl (Nat.le_of_ble_eq_true rfl) (by decide) (s_become (pp96 (by omega)) (pp22 (by omega)) (by omega)) rfl ?_
        rintro _ _ ⟨M2, rfl, rfl, hc1, hc2, hc3⟩
        show Go mX5_become _ _ _ 39 [(0, .ref 96), (1, .ref 22), (2, .int (nI i))] [] (SK, M2, N) _
        refine g_iinc (j := 2) (v := nI (i + 1)) (L' := [(0, .ref 96), (1, .ref 22), (2, .int (nI (i + 1)))]) (pc' := 42) dX5_become_39 rfl (nI_1 i) (by decide) rfl rfl ?_
        refine g_goto (tgt := 18) dX5_become_42 (by decide) ?_
        refine ih (i + 1) M2 (by omega) ((hc3 96 (by omega)).trans h1) (fun a c a1 a2 a3 a4 => ?_) (fun a ha => (hc3 a (by omega)).trans (h3 a (by omega)))
        by_cases hb : a < 2 + 8 * i
        · rw [congrFun (hc3 (96 + a) (by omega)) c]
          exact h2 a c a1 hb a3 a4
        · have hq : ∀ b, 24 + 8 * i ≤ b → b < 24 + 8 * i + 8 → M1 b = M b := fun b b1 b2 => (h3 b (by omega)).trans (e3 b (by omega))
          by_cases h0 : a = 2 + 8 * i
          · subst h0
            have g1 := hc1 c (a4 (by omega))
            rw [congrFun (hq _ (Nat.le_refl _) (by omega)) c] at g1
            rw [show 96 + (2 + 8 * i) = 98 + 8 * i by omega, show 22 + (2 + 8 * i) = 24 + 8 * i by omega]
            exact g1
          · have g1 := hc2 (a - (2 + 8 * i)) c (by omega) (by omega) a3
            rw [congrFun (hq _ (by omega) (by omega)) c] at g1
            rw [show 98 + 8 * i + (a - (2 + 8 * i)) = 96 + a by omega, show 24 + 8 * i + (a - (2 + 8 * i)) = 22 + a by omega] at g1
            exact g1
  exact loop 8 0 M0 (by omega) rfl (fun a c a1 a2 => by omega) (fun a _ => rfl)
theorem sw (hi : Nat) (hb : hi < 1000) (x : Int32) : (∃ j, j ≤ hi ∧ x = nI j) ∨ (x.toInt < 0 ∨ (hi : Int) < x.toInt) := by
  by_cases h0 : x < 0
  · right; left
    have := Int32.lt_iff_toInt_lt.mp h0
    simpa using this
  · obtain ⟨j, hj, rfl⟩ := nI_of h0
    by_cases h1 : j ≤ hi
    · exact Or.inl ⟨j, h1, rfl⟩
    · right; right
      rw [nI_toInt hj]
      omega
def ShAt (k : Nat) : Prop := SK[k]? = some (9, [.int 0, .int 0, .int 0, .ref (k + 1)]) ∧ SK[k + 1]? = some (101, rep 24)
theorem shAt {i : Nat} (h : i < 4) : ShAt (181 + 2 * i) := by
  rcases (show i = 0 ∨ i = 1 ∨ i = 2 ∨ i = 3 by omega) with rfl | rfl | rfl | rfl <;> exact ⟨rfl, rfl⟩
theorem shRef {i : Nat} (h : i < 4) : ([.ref 181, .ref 183, .ref 185, .ref 187] : List Value)[i]? = some (.ref (181 + 2 * i)) := by
  rcases (show i = 0 ∨ i = 1 ∨ i = 2 ∨ i = 3 by omega) with rfl | rfl | rfl | rfl <;> rfl
def cutL (lane : Int32) (v : Int64) : Int64 := if lane = 0 then v.toInt32.toInt8.toInt32.toInt64 else if lane = 1 then v.toInt32.toInt16.toInt32.toInt64 else if lane = 2 then v.toInt32.toInt64 else v
set_option maxRecDepth 100000 in
set_option maxHeartbeats 1000000 in
theorem s_renew {M : Nat → Nat → Int32} {N : Nat → Nat → Int64} {k : Nat} (la n : Int32) (hk : ShAt k) : Run mX9_renew 1 0 0 [.ref k, .int la, .int n] (SK, M, N) (fun r h' => ∃ M' N', h' = (SK, M', N') ∧ r = none ∧ (M' k 0 = 0 ∧ M' k 1 = la ∧ M' k 2 = n) ∧ (∀ a, a ≠ k → M' a = M a) ∧ (∀ j, j < 24 → N' (k + 1) j = 0) ∧ (∀ a, a ≠ k + 1 → N' a = N a)) := by
  refine Run.of (by decide) (Nat.le_of_ble_eq_true rfl) ?_
  refine g_aload_n (j := 0) (pc' := 1) dX9_renew_0 rfl rfl ?_
  refine g_iconst (v := 0) (pc' := 2) dX9_renew_1 (by decide) rfl ?_
  refine g_putI (pc' := 5) dX9_renew_2 fX9_9 hk.1 rfl ⟨by decide, by decide⟩ rfl ?_
  refine g_aload_n (j := 0) (pc' := 6) dX9_renew_5 rfl rfl ?_
  refine g_iload_n (j := 1) (pc' := 7) dX9_renew_6 rfl rfl ?_
  refine g_putI (pc' := 10) dX9_renew_7 fX9_15 hk.1 rfl ⟨rfl, rfl⟩ rfl ?_
  refine g_aload_n (j := 0) (pc' := 11) dX9_renew_10 rfl rfl ?_
  refine g_iload_n (j := 2) (pc' := 12) dX9_renew_11 rfl rfl ?_
  refine g_putI (pc' := 15) dX9_renew_12 fX9_19 hk.1 rfl ⟨rfl, rfl⟩ rfl ?_
  refine g_aload_n (j := 0) (pc' := 16) dX9_renew_15 rfl rfl ?_
  refine g_getR (pc' := 19) dX9_renew_16 fX9_22 hk.1 rfl rfl ?_
  refine g_lconst (v := 0) (pc' := 20) dX9_renew_19 (by decide) rfl ?_
  refine g_callS (my := mJ7_fill_d0a16) (st := []) (av := [.ref (k + 1), .long 0]) (mcr := 0) (msr := 0) (mc := 0) (ms := 0) (pc' := 23) dX9_renew_20 kJ7_fill_d0a16 wX9_26 rfl (Nat.le_of_ble_eq_true rfl) (by decide) (s_fillL 0 hk.2 (by omega)) rfl ?_
  rintro _ _ ⟨N1, rfl, rfl, hf1, hf2⟩
  show Go mX9_renew _ _ _ 23 [(0, .ref k), (1, .int la), (2, .int n)] [] (SK, (um (um (um M k 0 0) k 1 la) k 2 n), N1) _
  generalize hM1 : (um (um (um M k 0 0) k 1 la) k 2 n) = M1
  exact g_vret dX9_renew_23 rfl (⟨M1, N1, rfl, rfl, ⟨by rw [← hM1]; simp (disch := omega) only [um_ne, um_at, um_at2], by rw [← hM1]; simp (disch := omega) only [um_ne, um_at, um_at2], by rw [← hM1]; simp (disch := omega) only [um_ne, um_at, um_at2]⟩, fun a ha => by rw [← hM1]; simp (disch := omega) only [um_ne, um_at, um_at2], hf1, hf2⟩)
set_option maxRecDepth 100000 in
set_option maxHeartbeats 1000000 in
theorem s_has {M : Nat → Nat → Int32} {N : Nat → Nat → Int64} {k : Nat} (i n : Int32) (hk : ShAt k) : Run mX9_has 0 0 0 [.ref k, .int i, .int n] (SK, M, N) (fun r h' => h' = (SK, M, N) ∧ r = some (.int (if 0 ≤ i ∧ 0 ≤ n ∧ i ≤ M k 2 - n then 1 else 0))) := by
  refine Run.of (by decide) (Nat.le_of_ble_eq_true rfl) ?_
  refine g_iload_n (j := 1) (pc' := 1) dX9_has_0 rfl rfl ?_
  refine g_if_lt (tgt := 22) (pc' := 4) dX9_has_1 (by decide) rfl (fun hc => ?_) (fun hc => ?_)
  · have h9 : ¬ (0 ≤ i ∧ 0 ≤ n ∧ i ≤ M k 2 - n) := fun q => absurd hc (Int32.not_lt.mpr q.1)
    refine g_iconst (v := 0) (pc' := 23) dX9_has_22 (by decide) rfl ?_
    exact g_iret dX9_has_23 rfl (by decide) (⟨rfl, by rw [if_neg h9]⟩)
  · refine g_iload_n (j := 2) (pc' := 5) dX9_has_4 rfl rfl ?_
    refine g_if_lt (tgt := 22) (pc' := 8) dX9_has_5 (by decide) rfl (fun hc2 => ?_) (fun hc2 => ?_)
    · have h9 : ¬ (0 ≤ i ∧ 0 ≤ n ∧ i ≤ M k 2 - n) := fun q => absurd hc2 (Int32.not_lt.mpr q.2.1)
      refine g_iconst (v := 0) (pc' := 23) dX9_has_22 (by decide) rfl ?_
      exact g_iret dX9_has_23 rfl (by decide) (⟨rfl, by rw [if_neg h9]⟩)
    · refine g_iload_n (j := 1) (pc' := 9) dX9_has_8 rfl rfl ?_
      refine g_aload_n (j := 0) (pc' := 10) dX9_has_9 rfl rfl ?_
      refine g_getI (pc' := 13) dX9_has_10 fX9_19 hk.1 rfl rfl ?_
      refine g_iload_n (j := 2) (pc' := 14) dX9_has_13 rfl rfl ?_
      refine g_isub (pc' := 15) dX9_has_14 rfl ?_
      refine g_icmp_gt (tgt := 22) (pc' := 18) dX9_has_15 (by decide) rfl (fun hc3 => ?_) (fun hc3 => ?_)
      · have h9 : ¬ (0 ≤ i ∧ 0 ≤ n ∧ i ≤ M k 2 - n) := fun q => absurd hc3 (Int32.not_lt.mpr q.2.2)
        refine g_iconst (v := 0) (pc' := 23) dX9_has_22 (by decide) rfl ?_
        exact g_iret dX9_has_23 rfl (by decide) (⟨rfl, by rw [if_neg h9]⟩)
      · have h9 : 0 ≤ i ∧ 0 ≤ n ∧ i ≤ M k 2 - n := ⟨Int32.not_lt.mp hc, Int32.not_lt.mp hc2, Int32.not_lt.mp hc3⟩
        refine g_iconst (v := 1) (pc' := 19) dX9_has_18 (by decide) rfl ?_
        refine g_goto (tgt := 23) dX9_has_19 (by decide) ?_
        exact g_iret dX9_has_23 rfl (by decide) (⟨rfl, by rw [if_pos h9]⟩)
set_option maxRecDepth 100000 in
set_option maxHeartbeats 1000000 in
theorem s_put {M : Nat → Nat → Int32} {N : Nat → Nat → Int64} {k i : Nat} (v : Int64) (hk : ShAt k) (hi : i < 24) : Run mX9_put 0 0 0 [.ref k, .int (nI i), .long v] (SK, M, N) (fun r h' => r = none ∧ h' = (SK, M, um N (k + 1) i (cutL (M k 1) v))) := by
  refine Run.of (by decide) (Nat.le_of_ble_eq_true rfl) ?_
  refine g_aload_n (j := 0) (pc' := 1) dX9_put_0 rfl rfl ?_
  refine g_getI (pc' := 4) dX9_put_1 fX9_15 hk.1 rfl rfl ?_
  rcases sw 2 (by decide) (M k 1) with ⟨j9, hj9, hx⟩ | hx
  · rcases (show j9 = 0 ∨ j9 = 1 ∨ j9 = 2 by omega) with rfl | rfl | rfl
    · refine g_top (y := nI 0) hx ?_
      refine g_tblIn (off := 28) (tgt := 32) dX9_put_4 (by decide) (by decide) (by decide) (by decide) ?_
      refine g_aload_n (j := 0) (pc' := 33) dX9_put_32 rfl rfl ?_
      refine g_getR (pc' := 36) dX9_put_33 fX9_22 hk.1 rfl rfl ?_
      refine g_iload_n (j := 1) (pc' := 37) dX9_put_36 rfl rfl ?_
      refine g_lload_n (j := 2) (pc' := 38) dX9_put_37 rfl rfl ?_
      refine g_l2i (pc' := 39) dX9_put_38 rfl ?_
      refine g_i2b (pc' := 40) dX9_put_39 rfl ?_
      refine g_i2l (pc' := 41) dX9_put_40 rfl ?_
      refine g_last (n := i) (pc' := 42) dX9_put_41 hk.2 rfl (by omega) rfl ?_
      refine g_goto (tgt := 77) dX9_put_42 (by decide) ?_
      exact g_vret dX9_put_77 rfl (⟨rfl, by rw [hx]; rfl⟩)
    · refine g_top (y := nI 1) hx ?_
      refine g_tblIn (off := 41) (tgt := 45) dX9_put_4 (by decide) (by decide) (by decide) (by decide) ?_
      refine g_aload_n (j := 0) (pc' := 46) dX9_put_45 rfl rfl ?_
      refine g_getR (pc' := 49) dX9_put_46 fX9_22 hk.1 rfl rfl ?_
      refine g_iload_n (j := 1) (pc' := 50) dX9_put_49 rfl rfl ?_
      refine g_lload_n (j := 2) (pc' := 51) dX9_put_50 rfl rfl ?_
      refine g_l2i (pc' := 52) dX9_put_51 rfl ?_
      refine g_i2s (pc' := 53) dX9_put_52 rfl ?_
      refine g_i2l (pc' := 54) dX9_put_53 rfl ?_
      refine g_last (n := i) (pc' := 55) dX9_put_54 hk.2 rfl (by omega) rfl ?_
      refine g_goto (tgt := 77) dX9_put_55 (by decide) ?_
      exact g_vret dX9_put_77 rfl (⟨rfl, by rw [hx]; rfl⟩)
    · refine g_top (y := nI 2) hx ?_
      refine g_tblIn (off := 54) (tgt := 58) dX9_put_4 (by decide) (by decide) (by decide) (by decide) ?_
      refine g_aload_n (j := 0) (pc' := 59) dX9_put_58 rfl rfl ?_
      refine g_getR (pc' := 62) dX9_put_59 fX9_22 hk.1 rfl rfl ?_
      refine g_iload_n (j := 1) (pc' := 63) dX9_put_62 rfl rfl ?_
      refine g_lload_n (j := 2) (pc' := 64) dX9_put_63 rfl rfl ?_
      refine g_l2i (pc' := 65) dX9_put_64 rfl ?_
      refine g_i2l (pc' := 66) dX9_put_65 rfl ?_
      refine g_last (n := i) (pc' := 67) dX9_put_66 hk.2 rfl (by omega) rfl ?_
      refine g_goto (tgt := 77) dX9_put_67 (by decide) ?_
      exact g_vret dX9_put_77 rfl (⟨rfl, by rw [hx]; rfl⟩)
  · refine g_tblOut (tgt := 70) dX9_put_4 hx (by decide) ?_
    have h9 : ∀ j : Nat, j ≤ 2 → ¬ M k 1 = nI j := fun j hj q => by rw [q, nI_toInt (by omega)] at hx; omega
    refine g_aload_n (j := 0) (pc' := 71) dX9_put_70 rfl rfl ?_
    refine g_getR (pc' := 74) dX9_put_71 fX9_22 hk.1 rfl rfl ?_
    refine g_iload_n (j := 1) (pc' := 75) dX9_put_74 rfl rfl ?_
    refine g_lload_n (j := 2) (pc' := 76) dX9_put_75 rfl rfl ?_
    refine g_last (n := i) (pc' := 77) dX9_put_76 hk.2 rfl (by omega) rfl ?_
    exact g_vret dX9_put_77 rfl (⟨rfl, by unfold cutL; rw [if_neg (show ¬ M k 1 = 0 from h9 0 (by omega)), if_neg (show ¬ M k 1 = 1 from h9 1 (by omega)), if_neg (show ¬ M k 1 = 2 from h9 2 (by omega))]⟩)
