/-! ===== FurrowNames' own helpers ===== -/
def setF (f : Nat → Bool) : Nat → Int32
  | 0 => 0
  | m + 1 => if f m then setF f m ||| (1 : Int32) <<< (nI m &&& 31) else setF f m
def sumF (f : Nat → Int32) : Nat → Int32
  | 0 => 0
  | i + 1 => sumF f i + f i
/-- t MARCHES from P on, with P's own stones -/
def foreP (n k : Nat) (P : Nat → Int32) : Nat → Nat → Int32
  | 0 => P
  | t + 1 => marchP n k (foreP n k P t) (P 2)
theorem foreP_ok {n k : Nat} {P : Nat → Int32} (h : OkP n k P) : ∀ t, OkP n k (foreP n k P t)
  | 0 => h
  | t + 1 => (foreP_ok h t).march
theorem foreP_2 {n k : Nat} {P : Nat → Int32} (h : OkP n k P) : ∀ t, foreP n k P t 2 = P 2
  | 0 => rfl
  | t + 1 => by
    show marchP n k (foreP n k P t) (P 2) 2 = P 2
    rw [mp_same (by omega) (by omega) h.1 h.2.1]
    exact foreP_2 h t
theorem in_rng {v : Int32} (hi : Nat) (hb : hi < 1000) : (v < 0 ∨ nI hi < v) ∨ ∃ m, m ≤ hi ∧ v = nI m := by
  rcases sw hi hb v with h | h
  · exact Or.inr h
  · left
    rcases h with h | h
    · left; rw [Int32.lt_iff_toInt_lt]; simpa using h
    · right; rw [Int32.lt_iff_toInt_lt, nI_toInt (by omega)]; exact h
theorem not_rng {m hi : Nat} (hb : hi < 1000) (h : m ≤ hi) : ¬ (nI m < 0 ∨ nI hi < nI m) := by
  rintro (h0 | h0)
  · exact nI_pos (by omega) h0
  · exact nI_nlt (by omega) (by omega) h0
/-- outside(v, 0, hi), as a case -/
theorem out_rng {v : Int32} (hi : Nat) (hb : hi < 1000) : ((∀ m, m ≤ hi → v ≠ nI m) ∧ (if v < 0 ∨ nI hi < v then (1 : Int32) else 0) = 1) ∨ ∃ m, m ≤ hi ∧ v = nI m ∧ (if v < 0 ∨ nI hi < v then (1 : Int32) else 0) = 0 := by
  rcases in_rng (v := v) hi hb with h | ⟨m, hm, rfl⟩
  · exact Or.inl ⟨fun m hm e => not_rng hb hm (e ▸ h), if_pos h⟩
  · exact Or.inr ⟨m, hm, rfl, if_neg (not_rng hb hm)⟩
set_option maxRecDepth 100000 in
set_option maxHeartbeats 1000000 in
theorem s_setOf {M : Nat → Nat → Int32} {N : Nat → Nat → Int64} {c n : Nat} (hs : SK[c]? = some (100, rep 6)) (hn : M 14 0 = nI n) (h6 : n ≤ 6) : Run mX11_setOfNamed 0 0 0 [.ref 0, .ref c] (SK, M, N) (fun r h' => h' = (SK, M, N) ∧ r = some (.int (setF (fun m => decide (M c m ≠ -1)) n))) := by
  refine Run.of (by decide) (Nat.le_of_ble_eq_true rfl) ?_
  refine g_iconst (v := 0) (pc' := 1) dX11_setOfNamed_0 (by decide) rfl ?_
  refine g_istore_n (L' := [(0, .ref 0), (1, .ref c), (2, .int 0)]) (pc' := 2) dX11_setOfNamed_1 (by decide) rfl rfl ?_
  refine g_iconst (v := 0) (pc' := 3) dX11_setOfNamed_2 (by decide) rfl ?_
  refine g_istore_n (L' := [(0, .ref 0), (1, .ref c), (2, .int 0), (3, .int 0)]) (pc' := 4) dX11_setOfNamed_3 (by decide) rfl rfl ?_
  have loop : ∀ (t i : Nat), i + t = n → Go mX11_setOfNamed 0 0 0 4 [(0, .ref 0), (1, .ref c), (2, .int (setF (fun m => decide (M c m ≠ -1)) i)), (3, .int (nI i))] [] (SK, M, N) (fun r h' => h' = (SK, M, N) ∧ r = some (.int (setF (fun m => decide (M c m ≠ -1)) n))) := by
    intro t
    induction t with
    | zero =>
      intro i hi
      have hin : n = i := by omega
      subst hin
      refine g_iload_n (j := 3) (pc' := 5) dX11_setOfNamed_4 rfl rfl ?_
      refine g_aload_n (j := 0) (pc' := 6) dX11_setOfNamed_5 rfl rfl ?_
      refine g_getR (pc' := 9) dX11_setOfNamed_6 fX11_28 rfl rfl rfl ?_
      refine g_getI (pc' := 12) dX11_setOfNamed_9 fX11_75 rfl rfl rfl ?_
      rw [hn]
      refine g_icmp_ge (tgt := 34) (pc' := 15) dX11_setOfNamed_12 (by decide) rfl (fun hc => ?_) (fun hc => ?_)
      · refine g_iload_n (j := 2) (pc' := 35) dX11_setOfNamed_34 rfl rfl ?_
        exact g_iret dX11_setOfNamed_35 rfl rfl (⟨rfl, rfl⟩)
      · exact absurd (nI_le (Nat.le_refl _) (by omega)) hc
    | succ t ih =>
      intro i hi
      refine g_iload_n (j := 3) (pc' := 5) dX11_setOfNamed_4 rfl rfl ?_
      refine g_aload_n (j := 0) (pc' := 6) dX11_setOfNamed_5 rfl rfl ?_
      refine g_getR (pc' := 9) dX11_setOfNamed_6 fX11_28 rfl rfl rfl ?_
      refine g_getI (pc' := 12) dX11_setOfNamed_9 fX11_75 rfl rfl rfl ?_
      rw [hn]
      refine g_icmp_ge (tgt := 34) (pc' := 15) dX11_setOfNamed_12 (by decide) rfl (fun hc => ?_) (fun hc => ?_)
      · exact absurd hc (nI_ge (by omega) (by omega))
      · refine g_aload_n (j := 1) (pc' := 16) dX11_setOfNamed_15 rfl rfl ?_
        refine g_iload_n (j := 3) (pc' := 17) dX11_setOfNamed_16 rfl rfl ?_
        refine g_iald (n := i) (pc' := 18) dX11_setOfNamed_17 hs rfl (by omega) rfl ?_
        refine g_iconst (v := (-1)) (pc' := 19) dX11_setOfNamed_18 (by decide) rfl ?_
        refine g_icmp_eq (tgt := 28) (pc' := 22) dX11_setOfNamed_19 (by decide) rfl (fun hc2 => ?_) (fun hc2 => ?_)
        · refine g_iinc (j := 3) (v := nI (i + 1)) (L' := [(0, .ref 0), (1, .ref c), (2, .int (setF (fun m => decide (M c m ≠ -1)) i)), (3, .int (nI (i + 1)))]) (pc' := 31) dX11_setOfNamed_28 rfl (nI_1 i) (by decide) rfl rfl ?_
          refine g_goto (tgt := 4) dX11_setOfNamed_31 (by decide) ?_
          have h9 := ih (i + 1) (by omega)
          simp only [setF, ne_eq, hc2, not_true, decide_false, Bool.false_eq_true, if_false] at h9
          exact h9
        · refine g_iload_n (j := 2) (pc' := 23) dX11_setOfNamed_22 rfl rfl ?_
          refine g_iconst (v := 1) (pc' := 24) dX11_setOfNamed_23 (by decide) rfl ?_
          refine g_iload_n (j := 3) (pc' := 25) dX11_setOfNamed_24 rfl rfl ?_
          refine g_ishl (pc' := 26) dX11_setOfNamed_25 rfl ?_
          refine g_ior (pc' := 27) dX11_setOfNamed_26 rfl ?_
          refine g_istore_n (L' := [(0, .ref 0), (1, .ref c), (2, .int ((setF (fun m => decide (M c m ≠ -1)) i) ||| (1 <<< ((nI i) &&& 31)))), (3, .int (nI i))]) (pc' := 28) dX11_setOfNamed_27 (by decide) rfl rfl ?_
          refine g_iinc (j := 3) (v := nI (i + 1)) (L' := [(0, .ref 0), (1, .ref c), (2, .int ((setF (fun m => decide (M c m ≠ -1)) i) ||| (1 <<< ((nI i) &&& 31)))), (3, .int (nI (i + 1)))]) (pc' := 31) dX11_setOfNamed_28 rfl (nI_1 i) (by decide) rfl rfl ?_
          refine g_goto (tgt := 4) dX11_setOfNamed_31 (by decide) ?_
          have h9 := ih (i + 1) (by omega)
          simp only [setF, ne_eq, hc2, not_false_iff, decide_true, if_true] at h9
          exact h9
  exact loop n 0 (by omega)
set_option maxRecDepth 100000 in
set_option maxHeartbeats 1000000 in
theorem s_sum {M : Nat → Nat → Int32} {N : Nat → Nat → Int64} {c n : Nat} (hs : SK[c]? = some (100, rep 6)) (hn : M 14 1 = nI n) (h6 : n ≤ 6) : Run mX11_sum 0 0 0 [.ref 0, .ref c] (SK, M, N) (fun r h' => h' = (SK, M, N) ∧ r = some (.int (sumF (M c) n))) := by
  refine Run.of (by decide) (Nat.le_of_ble_eq_true rfl) ?_
  refine g_iconst (v := 0) (pc' := 1) dX11_sum_0 (by decide) rfl ?_
  refine g_istore_n (L' := [(0, .ref 0), (1, .ref c), (2, .int 0)]) (pc' := 2) dX11_sum_1 (by decide) rfl rfl ?_
  refine g_iconst (v := 0) (pc' := 3) dX11_sum_2 (by decide) rfl ?_
  refine g_istore_n (L' := [(0, .ref 0), (1, .ref c), (2, .int 0), (3, .int 0)]) (pc' := 4) dX11_sum_3 (by decide) rfl rfl ?_
  have loop : ∀ (t i : Nat), i + t = n → Go mX11_sum 0 0 0 4 [(0, .ref 0), (1, .ref c), (2, .int (sumF (M c) i)), (3, .int (nI i))] [] (SK, M, N) (fun r h' => h' = (SK, M, N) ∧ r = some (.int (sumF (M c) n))) := by
    intro t
    induction t with
    | zero =>
      intro i hi
      have hin : n = i := by omega
      subst hin
      refine g_iload_n (j := 3) (pc' := 5) dX11_sum_4 rfl rfl ?_
      refine g_aload_n (j := 0) (pc' := 6) dX11_sum_5 rfl rfl ?_
      refine g_getR (pc' := 9) dX11_sum_6 fX11_28 rfl rfl rfl ?_
      refine g_getI (pc' := 12) dX11_sum_9 fX11_86 rfl rfl rfl ?_
      rw [hn]
      refine g_icmp_ge (tgt := 27) (pc' := 15) dX11_sum_12 (by decide) rfl (fun hc => ?_) (fun hc => ?_)
      · refine g_iload_n (j := 2) (pc' := 28) dX11_sum_27 rfl rfl ?_
        exact g_iret dX11_sum_28 rfl rfl (⟨rfl, rfl⟩)
      · exact absurd (nI_le (Nat.le_refl _) (by omega)) hc
    | succ t ih =>
      intro i hi
      refine g_iload_n (j := 3) (pc' := 5) dX11_sum_4 rfl rfl ?_
      refine g_aload_n (j := 0) (pc' := 6) dX11_sum_5 rfl rfl ?_
      refine g_getR (pc' := 9) dX11_sum_6 fX11_28 rfl rfl rfl ?_
      refine g_getI (pc' := 12) dX11_sum_9 fX11_86 rfl rfl rfl ?_
      rw [hn]
      refine g_icmp_ge (tgt := 27) (pc' := 15) dX11_sum_12 (by decide) rfl (fun hc => ?_) (fun hc => ?_)
      · exact absurd hc (nI_ge (by omega) (by omega))
      · refine g_iload_n (j := 2) (pc' := 16) dX11_sum_15 rfl rfl ?_
        refine g_aload_n (j := 1) (pc' := 17) dX11_sum_16 rfl rfl ?_
        refine g_iload_n (j := 3) (pc' := 18) dX11_sum_17 rfl rfl ?_
        refine g_iald (n := i) (pc' := 19) dX11_sum_18 hs rfl (by omega) rfl ?_
        refine g_iadd (pc' := 20) dX11_sum_19 rfl ?_
        refine g_istore_n (L' := [(0, .ref 0), (1, .ref c), (2, .int ((sumF (M c) i) + (M c i))), (3, .int (nI i))]) (pc' := 21) dX11_sum_20 (by decide) rfl rfl ?_
        refine g_iinc (j := 3) (v := nI (i + 1)) (L' := [(0, .ref 0), (1, .ref c), (2, .int ((sumF (M c) i) + (M c i))), (3, .int (nI (i + 1)))]) (pc' := 24) dX11_sum_21 rfl (nI_1 i) (by decide) rfl rfl ?_
        refine g_goto (tgt := 4) dX11_sum_24 (by decide) ?_
        exact ih (i + 1) (by omega)
  exact loop n 0 (by omega)
theorem isPar14 : isPar 14 := by unfold isPar; omega
theorem isPar162 : isPar 162 := by unfold isPar; omega
theorem isPar88 : isPar 88 := by unfold isPar; omega
/-- trial is what is foretold; Choice's cells and trial's alone are written -/
def Told (M M' : Nat → Nat → Int32) (n k : Nat) (P : Nat → Int32) : Prop := IsC M' 162 n k P ∧ ∀ a, a ≠ 8 → a ≠ 9 → a ≠ 10 → (a < 162 ∨ 170 ≤ a) → M' a = M a
set_option maxRecDepth 100000 in
set_option maxHeartbeats 1000000 in
theorem s_foretell {M : Nat → Nat → Int32} {N : Nat → Nat → Int64} {n k : Nat} {P : Nat → Int32} (hok : OkP n k P) (hc0 : IsC M 14 n k P) {t : Nat} (ht : t ≤ 60) : Run mX11_foretell 6 0 0 [.ref 0, .int (nI t)] (SK, M, N) (fun r h' => ∃ M', h' = (SK, M', N) ∧ r = none ∧ Told M M' n k (foreP n k P t)) := by
  refine Run.of (by decide) (Nat.le_of_ble_eq_true rfl) ?_
  refine g_aload_n (j := 0) (pc' := 1) dX11_foretell_0 rfl rfl ?_
  refine g_getR (pc' := 4) dX11_foretell_1 fX11_49 rfl rfl rfl ?_
  refine g_aload_n (j := 0) (pc' := 5) dX11_foretell_4 rfl rfl ?_
  refine g_getR (pc' := 8) dX11_foretell_5 fX11_28 rfl rfl rfl ?_
  refine g_callV (my := mX4_become) (k := 162) (st := []) (av := [.ref 14]) (mcr := 0) (msr := 0) (mc := 0) (ms := 0) (pc' := 11) dX11_foretell_8 kX4_become wX11_160 rfl ⟨rfl, rfl⟩ rfl (Nat.le_of_ble_eq_true rfl) (by decide) (s_become par162 par14 (by omega)) rfl ?_
  rintro _ _ ⟨M1, rfl, rfl, hcp⟩
  show Go mX11_foretell _ _ _ 11 [(0, .ref 0), (1, .int (nI t))] [] (SK, M1, N) _
  have h0 : Told M M1 n k P := ⟨hc0.copied hok.1 hok.2.1 hcp, fun a _ _ _ ha => hcp.2.2 a (by omega)⟩
  refine g_iconst (v := 0) (pc' := 12) dX11_foretell_11 (by decide) rfl ?_
  refine g_istore_n (L' := [(0, .ref 0), (1, .int (nI t)), (2, .int 0)]) (pc' := 13) dX11_foretell_12 (by decide) rfl rfl ?_
  have loop : ∀ (j i : Nat) (M2 : Nat → Nat → Int32), i + j = t → Told M M2 n k (foreP n k P i) → Go mX11_foretell 6 0 0 13 [(0, .ref 0), (1, .int (nI t)), (2, .int (nI i))] [] (SK, M2, N) (fun r h' => ∃ M', h' = (SK, M', N) ∧ r = none ∧ Told M M' n k (foreP n k P t)) := by
    intro j
    induction j with
    | zero =>
      intro i M2 hi hT
      have hit : t = i := by omega
      subst hit
      refine g_iload_n (j := 2) (pc' := 14) dX11_foretell_13 rfl rfl ?_
      refine g_iload_n (j := 1) (pc' := 15) dX11_foretell_14 rfl rfl ?_
      refine g_icmp_ge (tgt := 42) (pc' := 18) dX11_foretell_15 (by decide) rfl (fun hc => ?_) (fun hc => ?_)
      · exact g_vret dX11_foretell_42 rfl (⟨M2, rfl, rfl, hT⟩)
      · exact absurd (nI_le (Nat.le_refl _) (by omega)) hc
    | succ j ih =>
      intro i M2 hi hT
      refine g_iload_n (j := 2) (pc' := 14) dX11_foretell_13 rfl rfl ?_
      refine g_iload_n (j := 1) (pc' := 15) dX11_foretell_14 rfl rfl ?_
      refine g_icmp_ge (tgt := 42) (pc' := 18) dX11_foretell_15 (by decide) rfl (fun hc => ?_) (fun hc => ?_)
      · exact absurd hc (nI_ge (by omega) (by omega))
      · refine g_aload_n (j := 0) (pc' := 19) dX11_foretell_18 rfl rfl ?_
        refine g_getR (pc' := 22) dX11_foretell_19 fX11_10 rfl rfl rfl ?_
        refine g_aload_n (j := 0) (pc' := 23) dX11_foretell_22 rfl rfl ?_
        refine g_getR (pc' := 26) dX11_foretell_23 fX11_49 rfl rfl rfl ?_
        refine g_aload_n (j := 0) (pc' := 27) dX11_foretell_26 rfl rfl ?_
        refine g_getR (pc' := 30) dX11_foretell_27 fX11_49 rfl rfl rfl ?_
        refine g_getI (pc' := 33) dX11_foretell_30 fX11_117 rfl rfl rfl ?_
        rw [hT.1.2.2.1, foreP_2 hok]
        refine g_callV (my := mX0_hold) (k := 1) (st := []) (av := [.ref 162, .int (P 2)]) (mcr := 0) (msr := 0) (mc := 0) (ms := 0) (pc' := 36) dX11_foretell_33 kX0_hold wX11_186 rfl ⟨rfl, rfl⟩ rfl (Nat.le_of_ble_eq_true rfl) (by decide) (s_hold isPar162 (foreP_ok hok i) hT.1 (P 2)) rfl ?_
        rintro _ _ ⟨M3, rfl, rfl, hH⟩
        show Go mX11_foretell _ _ _ 36 [(0, .ref 0), (1, .int (nI t)), (2, .int (nI i))] [] (SK, M3, N) _
        refine g_iinc (j := 2) (v := nI (i + 1)) (L' := [(0, .ref 0), (1, .int (nI t)), (2, .int (nI (i + 1)))]) (pc' := 39) dX11_foretell_36 rfl (nI_1 i) (by decide) rfl rfl ?_
        refine g_goto (tgt := 13) dX11_foretell_39 (by decide) ?_
        exact ih (i + 1) M3 (by omega) ⟨hH.1, fun a a8 a9 a10 ha => (hH.2 a a8 a9 a10 ha).trans (hT.2 a a8 a9 a10 ha)⟩
  exact loop t 0 M1 (by omega) h0
/-- by what man m is called -/
def clP (P : Nat → Int32) (m : Nat) : Option Nat := if P (28 + m) = -4 then none else some (P (28 + m)).toNatClampNeg
theorem clP_of {n k : Nat} {P : Nat → Int32} (h : OkP n k P) {m : Nat} (hm : m < n) : (P (28 + m) = -4 ∧ clP P m = none ∧ unN (P (28 + m)) = -1) ∨ ∃ i, i < k ∧ P (28 + m) = nI i ∧ clP P m = some i ∧ unN (P (28 + m)) = nI i := by
  rcases (h.2.2.2.2.1 m hm).2.2.2 with e | ⟨i, hi, e⟩
  · exact Or.inl ⟨e, by unfold clP; rw [if_pos e], by rw [e]; decide⟩
  · have hk := h.2.1
    have hne : ¬ nI i = -4 := by
      intro q
      have h2 := congrArg Int32.toInt q
      rw [nI_toInt (by omega)] at h2
      have h4 : (-4 : Int32).toInt = -4 := by decide
      omega
    refine Or.inr ⟨i, hi, e, ?_, ?_⟩
    · unfold clP; rw [e, if_neg hne, nI_clamp (by omega)]
    · unfold unN; rw [e, if_neg hne]
def wchP (P : Nat → Int32) (m o : Nat) : Bool := match clP P m, clP P o with
  | some a, some b => decide (valP P m a < valP P m b)
  | _, _ => false
def b2I (b : Bool) : Int32 := if b then 1 else 0
set_option maxRecDepth 100000 in
set_option maxHeartbeats 1000000 in
theorem s_wouldChange {M : Nat → Nat → Int32} {N : Nat → Nat → Int64} {n k : Nat} {P : Nat → Int32} (hok : OkP n k P) (hc0 : IsC M 14 n k P) {m o : Nat} (hm : m < n) (ho : o < n) : Run mX11_wouldChange 3 0 0 [.ref 0, .int (nI m), .int (nI o)] (SK, M, N) (fun r h' => h' = (SK, M, N) ∧ r = some (.int (b2I (wchP P m o)))) := by
  refine Run.of (by decide) (Nat.le_of_ble_eq_true rfl) ?_
  have hn6 := hok.1
  have hk6 := hok.2.1
  have hm5 := (hc0.2.2.2.2.2.1 m hm).2.2.2.2
  have ho5 := (hc0.2.2.2.2.2.1 o ho).2.2.2.2
  refine g_aload_n (j := 0) (pc' := 1) dX11_wouldChange_0 rfl rfl ?_
  refine g_getR (pc' := 4) dX11_wouldChange_1 fX11_28 rfl rfl rfl ?_
  refine g_getR (pc' := 7) dX11_wouldChange_4 fX11_110 rfl rfl rfl ?_
  refine g_iload_n (j := 1) (pc' := 8) dX11_wouldChange_7 rfl rfl ?_
  refine g_iald (n := m) (pc' := 9) dX11_wouldChange_8 rfl rfl (by omega) rfl ?_
  refine g_top (y := unN (P (28 + m))) (hm5) ?_
  refine g_istore_n (L' := [(0, .ref 0), (1, .int (nI m)), (2, .int (nI o)), (3, .int (unN (P (28 + m))))]) (pc' := 10) dX11_wouldChange_9 (by decide) rfl rfl ?_
  refine g_aload_n (j := 0) (pc' := 11) dX11_wouldChange_10 rfl rfl ?_
  refine g_getR (pc' := 14) dX11_wouldChange_11 fX11_28 rfl rfl rfl ?_
  refine g_getR (pc' := 17) dX11_wouldChange_14 fX11_110 rfl rfl rfl ?_
  refine g_iload_n (j := 2) (pc' := 18) dX11_wouldChange_17 rfl rfl ?_
  refine g_iald (n := o) (pc' := 19) dX11_wouldChange_18 rfl rfl (by omega) rfl ?_
  refine g_top (y := unN (P (28 + o))) (ho5) ?_
  refine g_istore (L' := [(0, .ref 0), (1, .int (nI m)), (2, .int (nI o)), (3, .int (unN (P (28 + m)))), (4, .int (unN (P (28 + o))))]) (pc' := 21) dX11_wouldChange_19 (by decide) rfl rfl ?_
  rcases clP_of hok hm with ⟨-, c1, c2⟩ | ⟨i, hi, -, c1, c2⟩
  · rw [c2]
    refine g_iload_n (j := 3) (pc' := 22) dX11_wouldChange_21 rfl rfl ?_
    refine g_iconst (v := (-1)) (pc' := 23) dX11_wouldChange_22 (by decide) rfl ?_
    refine g_icmp_eq (tgt := 32) (pc' := 26) dX11_wouldChange_23 (by decide) rfl (fun hc => ?_) (fun hc => ?_)
    · refine g_iconst (v := 0) (pc' := 33) dX11_wouldChange_32 (by decide) rfl ?_
      exact g_iret dX11_wouldChange_33 rfl (by decide) (⟨rfl, by unfold wchP; rw [c1]; rfl⟩)
    · exact absurd rfl hc
  · rw [c2]
    refine g_iload_n (j := 3) (pc' := 22) dX11_wouldChange_21 rfl rfl ?_
    refine g_iconst (v := (-1)) (pc' := 23) dX11_wouldChange_22 (by decide) rfl ?_
    refine g_icmp_eq (tgt := 32) (pc' := 26) dX11_wouldChange_23 (by decide) rfl (fun hc => ?_) (fun hc => ?_)
    · exact absurd hc (nI_ne_m1 (by omega))
    · rcases clP_of hok ho with ⟨-, d1, d2⟩ | ⟨j, hj, -, d1, d2⟩
      · rw [d2]
        refine g_iload (j := 4) (pc' := 28) dX11_wouldChange_26 rfl rfl ?_
        refine g_iconst (v := (-1)) (pc' := 29) dX11_wouldChange_28 (by decide) rfl ?_
        refine g_icmp_ne (tgt := 34) (pc' := 32) dX11_wouldChange_29 (by decide) rfl (fun hc2 => ?_) (fun hc2 => ?_)
        · exact absurd rfl hc2
        · refine g_iconst (v := 0) (pc' := 33) dX11_wouldChange_32 (by decide) rfl ?_
          exact g_iret dX11_wouldChange_33 rfl (by decide) (⟨rfl, by unfold wchP; rw [c1, d1]; rfl⟩)
      · rw [d2]
        refine g_iload (j := 4) (pc' := 28) dX11_wouldChange_26 rfl rfl ?_
        refine g_iconst (v := (-1)) (pc' := 29) dX11_wouldChange_28 (by decide) rfl ?_
        refine g_icmp_ne (tgt := 34) (pc' := 32) dX11_wouldChange_29 (by decide) rfl (fun hc2 => ?_) (fun hc2 => ?_)
        · refine g_aload_n (j := 0) (pc' := 35) dX11_wouldChange_34 rfl rfl ?_
          refine g_getR (pc' := 38) dX11_wouldChange_35 fX11_10 rfl rfl rfl ?_
          refine g_aload_n (j := 0) (pc' := 39) dX11_wouldChange_38 rfl rfl ?_
          refine g_getR (pc' := 42) dX11_wouldChange_39 fX11_28 rfl rfl rfl ?_
          refine g_iload_n (j := 1) (pc' := 43) dX11_wouldChange_42 rfl rfl ?_
          refine g_iload (j := 4) (pc' := 45) dX11_wouldChange_43 rfl rfl ?_
          refine g_callV (my := mX0_esteem) (k := 1) (st := []) (av := [.ref 14, .int (nI m), .int (nI j)]) (mcr := 0) (msr := 0) (mc := 0) (ms := 0) (pc' := 48) dX11_wouldChange_45 kX0_esteem wX11_140 rfl ⟨rfl, rfl⟩ rfl (Nat.le_of_ble_eq_true rfl) (by decide) (s_valP isPar14 hok hc0 hm hj) rfl ?_
          rintro _ _ ⟨rfl, rfl⟩
          show Go mX11_wouldChange _ _ _ 48 [(0, .ref 0), (1, .int (nI m)), (2, .int (nI o)), (3, .int (nI i)), (4, .int (nI j))] [.int (valP P m j)] (SK, M, N) _
          refine g_aload_n (j := 0) (pc' := 49) dX11_wouldChange_48 rfl rfl ?_
          refine g_getR (pc' := 52) dX11_wouldChange_49 fX11_10 rfl rfl rfl ?_
          refine g_aload_n (j := 0) (pc' := 53) dX11_wouldChange_52 rfl rfl ?_
          refine g_getR (pc' := 56) dX11_wouldChange_53 fX11_28 rfl rfl rfl ?_
          refine g_iload_n (j := 1) (pc' := 57) dX11_wouldChange_56 rfl rfl ?_
          refine g_iload_n (j := 3) (pc' := 58) dX11_wouldChange_57 rfl rfl ?_
          refine g_callV (my := mX0_esteem) (k := 1) (st := [.int (valP P m j)]) (av := [.ref 14, .int (nI m), .int (nI i)]) (mcr := 0) (msr := 0) (mc := 0) (ms := 0) (pc' := 61) dX11_wouldChange_58 kX0_esteem wX11_140 rfl ⟨rfl, rfl⟩ rfl (Nat.le_of_ble_eq_true rfl) (by decide) (s_valP isPar14 hok hc0 hm hi) rfl ?_
          rintro _ _ ⟨rfl, rfl⟩
          show Go mX11_wouldChange _ _ _ 61 [(0, .ref 0), (1, .int (nI m)), (2, .int (nI o)), (3, .int (nI i)), (4, .int (nI j))] [.int (valP P m i), .int (valP P m j)] (SK, M, N) _
          refine g_icmp_le (tgt := 68) (pc' := 64) dX11_wouldChange_61 (by decide) rfl (fun hc3 => ?_) (fun hc3 => ?_)
          · refine g_iconst (v := 0) (pc' := 69) dX11_wouldChange_68 (by decide) rfl ?_
            exact g_iret dX11_wouldChange_69 rfl (by decide) (⟨rfl, by unfold wchP; rw [c1, d1]; simp only; rw [decide_eq_false (Int32.not_lt.mpr hc3)]; rfl⟩)
          · refine g_iconst (v := 1) (pc' := 65) dX11_wouldChange_64 (by decide) rfl ?_
            refine g_goto (tgt := 69) dX11_wouldChange_65 (by decide) ?_
            exact g_iret dX11_wouldChange_69 rfl (by decide) (⟨rfl, by unfold wchP; rw [c1, d1]; simp only; rw [decide_eq_true (Int32.not_le.mp hc3)]; rfl⟩)
        · exact absurd hc2 (nI_ne_m1 (by omega))
def wrongI (mi la ln lane i n : Int32) : Int32 := if mi ≠ 0 then -11 else if la ≠ lane then -12 else if 0 ≤ i ∧ 0 ≤ n ∧ i ≤ ln - n then 0 else -13
theorem not_not {p : Prop} : ¬ ¬ p ↔ p := ⟨fun h => Classical.byContradiction h, fun h q => q h⟩
set_option maxRecDepth 100000 in
set_option maxHeartbeats 1000000 in
theorem s_wrongWith {M : Nat → Nat → Int32} {N : Nat → Nat → Int64} (sheet lane i n : Int32) : Run mX11_wrongWith 1 0 0 [.ref 0, .int sheet, .int lane, .int i, .int n] (SK, M, N) (fun r h' => h' = (SK, M, N) ∧ ((r = some (.int (-1)) ∧ ((∀ a, a < 4 → sheet ≠ nI a) ∨ ∀ b, b < 4 → lane ≠ nI b)) ∨ ∃ a b, a < 4 ∧ b < 4 ∧ sheet = nI a ∧ lane = nI b ∧ r = some (.int (wrongI (M (181 + 2 * a) 0) (M (181 + 2 * a) 1) (M (181 + 2 * a) 2) lane i n)))) := by
  refine Run.of (by decide) (Nat.le_of_ble_eq_true rfl) ?_
  refine g_iload_n (j := 1) (pc' := 1) dX11_wrongWith_0 rfl rfl ?_
  refine g_iconst (v := 0) (pc' := 2) dX11_wrongWith_1 (by decide) rfl ?_
  refine g_iconst (v := 3) (pc' := 3) dX11_wrongWith_2 (by decide) rfl ?_
  refine g_callS (my := mX11_outside) (st := []) (av := [.int sheet, .int 0, .int 3]) (mcr := 0) (msr := 0) (mc := 0) (ms := 0) (pc' := 6) dX11_wrongWith_3 kX11_outside wX11_71 rfl (Nat.le_of_ble_eq_true rfl) (by decide) (s_outside sheet 0 3 (SK, M, N)) rfl ?_
  rintro _ _ ⟨rfl, rfl⟩
  show Go mX11_wrongWith _ _ _ 6 [(0, .ref 0), (1, .int sheet), (2, .int lane), (3, .int i), (4, .int n)] [.int (if sheet < 0 ∨ 3 < sheet then 1 else 0)] (SK, M, N) _
  rcases out_rng (v := sheet) 3 (by omega) with ⟨hb, e⟩ | ⟨a, ha, rfl, e⟩
  · rw [show (if sheet < 0 ∨ (3 : Int32) < sheet then (1 : Int32) else 0) = 1 from e]
    refine g_if_ne (tgt := 18) (pc' := 9) dX11_wrongWith_6 (by decide) rfl (fun hc => ?_) (fun hc => ?_)
    · refine g_iconst (v := (-1)) (pc' := 19) dX11_wrongWith_18 (by decide) rfl ?_
      exact g_iret dX11_wrongWith_19 rfl rfl (⟨rfl, Or.inl ⟨rfl, Or.inl (fun a ha => hb a (by omega))⟩⟩)
    · exact absurd hc (by decide)
  · rw [show (if nI a < 0 ∨ (3 : Int32) < nI a then (1 : Int32) else 0) = 0 from e]
    refine g_if_ne (tgt := 18) (pc' := 9) dX11_wrongWith_6 (by decide) rfl (fun hc => ?_) (fun hc => ?_)
    · exact absurd rfl hc
    · refine g_iload_n (j := 2) (pc' := 10) dX11_wrongWith_9 rfl rfl ?_
      refine g_iconst (v := 0) (pc' := 11) dX11_wrongWith_10 (by decide) rfl ?_
      refine g_iconst (v := 3) (pc' := 12) dX11_wrongWith_11 (by decide) rfl ?_
      refine g_callS (my := mX11_outside) (st := []) (av := [.int lane, .int 0, .int 3]) (mcr := 0) (msr := 0) (mc := 0) (ms := 0) (pc' := 15) dX11_wrongWith_12 kX11_outside wX11_71 rfl (Nat.le_of_ble_eq_true rfl) (by decide) (s_outside lane 0 3 (SK, M, N)) rfl ?_
      rintro _ _ ⟨rfl, rfl⟩
      show Go mX11_wrongWith _ _ _ 15 [(0, .ref 0), (1, .int (nI a)), (2, .int lane), (3, .int i), (4, .int n)] [.int (if lane < 0 ∨ 3 < lane then 1 else 0)] (SK, M, N) _
      rcases out_rng (v := lane) 3 (by omega) with ⟨hb, e2⟩ | ⟨b, hb, rfl, e2⟩
      · rw [show (if lane < 0 ∨ (3 : Int32) < lane then (1 : Int32) else 0) = 1 from e2]
        refine g_if_eq (tgt := 20) (pc' := 18) dX11_wrongWith_15 (by decide) rfl (fun hc2 => ?_) (fun hc2 => ?_)
        · exact absurd hc2 (by decide)
        · refine g_iconst (v := (-1)) (pc' := 19) dX11_wrongWith_18 (by decide) rfl ?_
          exact g_iret dX11_wrongWith_19 rfl rfl (⟨rfl, Or.inl ⟨rfl, Or.inr (fun a ha => hb a (by omega))⟩⟩)
      · rw [show (if nI b < 0 ∨ (3 : Int32) < nI b then (1 : Int32) else 0) = 0 from e2]
        refine g_if_eq (tgt := 20) (pc' := 18) dX11_wrongWith_15 (by decide) rfl (fun hc2 => ?_) (fun hc2 => ?_)
        · refine g_aload_n (j := 0) (pc' := 21) dX11_wrongWith_20 rfl rfl ?_
          refine g_getR (pc' := 24) dX11_wrongWith_21 fX11_61 rfl rfl rfl ?_
          refine g_iload_n (j := 1) (pc' := 25) dX11_wrongWith_24 rfl rfl ?_
          refine g_aald (n := a) (pc' := 26) dX11_wrongWith_25 rfl ⟨rfl, rfl, by decide⟩ rfl (shRef (by omega)) rfl ?_
          refine g_getI (pc' := 29) dX11_wrongWith_26 fX11_250 (shAt (by omega)).1 rfl rfl ?_
          refine g_if_eq (tgt := 35) (pc' := 32) dX11_wrongWith_29 (by decide) rfl (fun hc3 => ?_) (fun hc3 => ?_)
          · refine g_aload_n (j := 0) (pc' := 36) dX11_wrongWith_35 rfl rfl ?_
            refine g_getR (pc' := 39) dX11_wrongWith_36 fX11_61 rfl rfl rfl ?_
            refine g_iload_n (j := 1) (pc' := 40) dX11_wrongWith_39 rfl rfl ?_
            refine g_aald (n := a) (pc' := 41) dX11_wrongWith_40 rfl ⟨rfl, rfl, by decide⟩ rfl (shRef (by omega)) rfl ?_
            refine g_getI (pc' := 44) dX11_wrongWith_41 fX11_254 (shAt (by omega)).1 rfl rfl ?_
            refine g_iload_n (j := 2) (pc' := 45) dX11_wrongWith_44 rfl rfl ?_
            refine g_icmp_eq (tgt := 51) (pc' := 48) dX11_wrongWith_45 (by decide) rfl (fun hc4 => ?_) (fun hc4 => ?_)
            · refine g_aload_n (j := 0) (pc' := 52) dX11_wrongWith_51 rfl rfl ?_
              refine g_getR (pc' := 55) dX11_wrongWith_52 fX11_61 rfl rfl rfl ?_
              refine g_iload_n (j := 1) (pc' := 56) dX11_wrongWith_55 rfl rfl ?_
              refine g_aald (n := a) (pc' := 57) dX11_wrongWith_56 rfl ⟨rfl, rfl, by decide⟩ rfl (shRef (by omega)) rfl ?_
              refine g_iload_n (j := 3) (pc' := 58) dX11_wrongWith_57 rfl rfl ?_
              refine g_iload (j := 4) (pc' := 60) dX11_wrongWith_58 rfl rfl ?_
              refine g_callV (my := mX9_has) (k := 181 + 2 * a) (st := []) (av := [.int i, .int n]) (mcr := 0) (msr := 0) (mc := 0) (ms := 0) (pc' := 63) dX11_wrongWith_60 kX9_has wX11_257 (shAt (by omega)).1 ⟨rfl, rfl⟩ rfl (Nat.le_of_ble_eq_true rfl) (by decide) (s_has i n (shAt (by omega))) rfl ?_
              rintro _ _ ⟨rfl, rfl⟩
              show Go mX11_wrongWith _ _ _ 63 [(0, .ref 0), (1, .int (nI a)), (2, .int (nI b)), (3, .int i), (4, .int n)] [.int (if 0 ≤ i ∧ 0 ≤ n ∧ i ≤ M (181 + 2 * a) 2 - n then 1 else 0)] (SK, M, N) _
              by_cases hh : 0 ≤ i ∧ 0 ≤ n ∧ i ≤ M (181 + 2 * a) 2 - n
              · rw [if_pos hh]
                refine g_if_eq (tgt := 70) (pc' := 66) dX11_wrongWith_63 (by decide) rfl (fun hc5 => ?_) (fun hc5 => ?_)
                · exact absurd hc5 (by decide)
                · refine g_iconst (v := 0) (pc' := 67) dX11_wrongWith_66 (by decide) rfl ?_
                  refine g_goto (tgt := 72) dX11_wrongWith_67 (by decide) ?_
                  exact g_iret dX11_wrongWith_72 rfl rfl (⟨rfl, Or.inr ⟨a, b, by omega, by omega, rfl, rfl, by unfold wrongI; rw [if_neg (not_not.mpr hc3), if_neg (not_not.mpr hc4), if_pos hh]⟩⟩)
              · rw [if_neg hh]
                refine g_if_eq (tgt := 70) (pc' := 66) dX11_wrongWith_63 (by decide) rfl (fun hc5 => ?_) (fun hc5 => ?_)
                · refine g_bipush (v := (-13)) (pc' := 72) dX11_wrongWith_70 (by decide) rfl ?_
                  exact g_iret dX11_wrongWith_72 rfl rfl (⟨rfl, Or.inr ⟨a, b, by omega, by omega, rfl, rfl, by unfold wrongI; rw [if_neg (not_not.mpr hc3), if_neg (not_not.mpr hc4), if_neg hh]⟩⟩)
                · exact absurd rfl hc5
            · refine g_bipush (v := (-12)) (pc' := 50) dX11_wrongWith_48 (by decide) rfl ?_
              exact g_iret dX11_wrongWith_50 rfl rfl (⟨rfl, Or.inr ⟨a, b, by omega, by omega, rfl, rfl, by unfold wrongI; rw [if_neg (not_not.mpr hc3), if_pos hc4]⟩⟩)
          · refine g_bipush (v := (-11)) (pc' := 34) dX11_wrongWith_32 (by decide) rfl ?_
            exact g_iret dX11_wrongWith_34 rfl rfl (⟨rfl, Or.inr ⟨a, b, by omega, by omega, rfl, rfl, by unfold wrongI; rw [if_pos hc3]⟩⟩)
        · exact absurd rfl hc2
