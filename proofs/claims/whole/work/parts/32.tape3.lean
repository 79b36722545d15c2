/-! ===== men and names of a text, purely; the class's trial parish (162) ===== -/
def pMan (tf : Nat → Nat) (len p : Nat) : Option (Nat × Nat × Nat) × Nat := match pOne tf len 2 p with
  | (none, q) => (none, q)
  | (some a, q) => match pOne tf len 0 q with
    | (none, q) => (none, q)
    | (some b, q) => match pOne tf len 3 q with
      | (none, q) => (none, q)
      | (some c, q) => (some (a, b, c), q)
/-- f more men may come behind this one -/
def pMenF (tf : Nat → Nat) (len : Nat) : Nat → Nat → (Nat → Int32) → Nat → Option (Nat × (Nat → Int32)) × Nat
  | 0, n, P, p => match pMan tf len p with
    | (none, q) => (none, q)
    | (some t, q) => match pOne tf len 1 q with
      | (none, q) => (none, q)
      | (some _, q) => (some (n + 1, manP P n (nI t.1) (nI t.2.1) (nI (t.2.2 + 1))), q)
  | f + 1, n, P, p => match pMan tf len p with
    | (none, q) => (none, q)
    | (some t, q) => match pOne tf len 4 q with
      | (none, q) => (none, q)
      | (some 0, q) => (some (n + 1, manP P n (nI t.1) (nI t.2.1) (nI (t.2.2 + 1))), q)
      | (some (_ + 1), q) => pMenF tf len f (n + 1) (manP P n (nI t.1) (nI t.2.1) (nI (t.2.2 + 1))) q
def pNam (tf : Nat → Nat) (len p : Nat) : Option (Nat × Nat) × Nat := match pNum tf len p with
  | (none, q) => (none, q)
  | (some a, q) => match pOne tf len 5 q with
    | (none, q) => (none, q)
    | (some _, q) => match pNum tf len q with
      | (none, q) => (none, q)
      | (some b, q) => (some (a, b), q)
def pNamF (tf : Nat → Nat) (len : Nat) : Nat → Nat → (Nat → Int32) → Nat → Option (Nat × (Nat → Int32)) × Nat
  | 0, k, P, p => match pNam tf len p with
    | (none, q) => (none, q)
    | (some t, q) => (if len ≤ skB tf len q then some (k + 1, nameP P k (nI t.1) (nI t.2)) else none, skB tf len q)
  | f + 1, k, P, p => match pNam tf len p with
    | (none, q) => (none, q)
    | (some t, q) => if len ≤ skB tf len q then (some (k + 1, nameP P k (nI t.1) (nI t.2)), skB tf len q) else match pOne tf len 6 (skB tf len q) with
      | (none, q) => (none, q)
      | (some _, q) => pNamF tf len f (k + 1) (nameP P k (nI t.1) (nI t.2)) q
/-- a parish of nobody -/
def emP (d s : Int32) : Nat → Int32 := fun j => if j = 2 then s else if 28 ≤ j ∧ j < 34 then -4 else if j = 46 then d else 0
def pRead (tf : Nat → Nat) (len : Nat) (d : Int32) : Option (Nat × Nat × (Nat → Int32)) × Nat := match pNum tf len 0 with
  | (none, q) => (none, q)
  | (some s, q) => match pOne tf len 1 q with
    | (none, q) => (none, q)
    | (some _, q) => match pMenF tf len 5 0 (emP d (nI s)) q with
      | (none, q) => (none, q)
      | (some t, q) => match pNamF tf len 5 0 t.2 q with
        | (none, q) => (none, q)
        | (some u, q) => (some (t.1, u), q)
/-- the trial holds P, its draw aside -/
def TrC (M : Nat → Nat → Int32) (n k : Nat) (P : Nat → Int32) : Prop :=
  M 162 0 = nI n ∧ M 162 1 = nI k ∧ M 162 2 = P 2 ∧ M 162 3 = P 3 ∧
  (∀ m, m < n → M (162 + 1) m = P (4 + m) ∧ M (162 + 2) m = P (10 + m) ∧ M (162 + 3) m = P (16 + m) ∧ M (162 + 4) m = P (22 + m) ∧ M (162 + 5) m = unN (P (28 + m))) ∧
  ∀ i, i < k → M (162 + 6) i = P (34 + i) ∧ M (162 + 7) i = P (40 + i)
theorem TrC.keep {M M' : Nat → Nat → Int32} {n k : Nat} {P : Nat → Int32} (h : TrC M n k P) (he : ∀ a, 162 ≤ a → a < 170 → M' a = M a) : TrC M' n k P := by
  obtain ⟨h0, h1, h2, h3, h5, h6⟩ := h
  refine ⟨by rw [he 162 (by omega) (by omega)]; exact h0, by rw [he 162 (by omega) (by omega)]; exact h1, by rw [he 162 (by omega) (by omega)]; exact h2, by rw [he 162 (by omega) (by omega)]; exact h3, fun m hm => ?_, fun i hi => ?_⟩
  · rw [he (162 + 1) (by omega) (by omega), he (162 + 2) (by omega) (by omega), he (162 + 3) (by omega) (by omega), he (162 + 4) (by omega) (by omega), he (162 + 5) (by omega) (by omega)]
    exact h5 m hm
  · rw [he (162 + 6) (by omega) (by omega), he (162 + 7) (by omega) (by omega)]
    exact h6 i hi
theorem TapeC.keep {M M' : Nat → Nat → Int32} {tf : Nat → Nat} {len p : Nat} (h : TapeC M tf len p) (h0 : M' 170 = M 170) (h1 : M' 171 = M 171) : TapeC M' tf len p := ⟨by rw [h0]; exact h.1, by rw [h0]; exact h.2.1, fun j hj => by rw [h1]; exact h.2.2 j hj⟩
theorem OkP.man {n k : Nat} {P : Nat → Int32} (h : OkP n k P) (h6 : n < 6) {a b c : Nat} (ha : a ≤ 4) (hb : b ≤ 9) (hc1 : 1 ≤ c) (hc : c ≤ 4) : OkP (n + 1) k (manP P n (nI a) (nI b) (nI c)) := by
  obtain ⟨h1, h2, h3, h4, h5, h6', h7, h8⟩ := h
  unfold manP
  refine ⟨h6, h2, by simp (disch := omega) only [upP_ne, upP_at], by simp (disch := omega) only [upP_ne]; exact h4, fun j hj => ?_, fun j a1 a2 => ?_, fun i hi => ?_, fun i a1 a2 => ?_⟩
  · by_cases e : j = n
    · subst e
      simp (disch := omega) only [upP_ne, upP_at]
      exact ⟨⟨a, ha, rfl⟩, ⟨b, hb, rfl⟩, ⟨c, hc1, hc, rfl⟩, Or.inl (h6' j (Nat.le_refl _) h6).2⟩
    · simp (disch := omega) only [upP_ne]
      exact h5 j (by omega)
  · simp (disch := omega) only [upP_ne]; exact h6' j (by omega) a2
  · simp (disch := omega) only [upP_ne]; exact h7 i hi
  · simp (disch := omega) only [upP_ne]; exact h8 i a1 a2
theorem OkP.name {n k : Nat} {P : Nat → Int32} (h : OkP n k P) (h6 : k < 6) {a b : Nat} (ha : a ≤ 20) (hb : b ≤ 20) : OkP n (k + 1) (nameP P k (nI a) (nI b)) := by
  obtain ⟨h1, h2, h3, h4, h5, h6', h7, h8⟩ := h
  unfold nameP
  refine ⟨h1, h6, by simp (disch := omega) only [upP_ne]; exact h3, by simp (disch := omega) only [upP_ne, upP_at], fun j hj => ?_, fun j a1 a2 => ?_, fun i hi => ?_, fun i a1 a2 => ?_⟩
  · simp (disch := omega) only [upP_ne]
    obtain ⟨q1, q2, q3, q4⟩ := h5 j hj
    exact ⟨q1, q2, q3, q4.imp id (fun ⟨i, hi, e⟩ => ⟨i, by omega, e⟩)⟩
  · simp (disch := omega) only [upP_ne]; exact h6' j a1 a2
  · by_cases e : i = k
    · subst e
      simp (disch := omega) only [upP_ne, upP_at]
      exact ⟨⟨a, ha, rfl⟩, ⟨b, hb, rfl⟩⟩
    · simp (disch := omega) only [upP_ne]
      exact h7 i (by omega)
  · simp (disch := omega) only [upP_ne]; exact h8 i (by omega) a2
theorem OkP.nobody (d s : Int32) : OkP 0 0 (emP d s) := by
  refine ⟨by omega, by omega, rfl, rfl, fun j hj => absurd hj (by omega), fun j a1 a2 => ?_, fun i hi => absurd hi (by omega), fun i a1 a2 => ?_⟩
  · unfold emP
    simp (disch := omega) only [if_neg, if_pos]
    exact ⟨trivial, trivial⟩
  · unfold emP
    simp (disch := omega) only [if_neg]
    exact ⟨trivial, trivial⟩
theorem pOne_b {tf : Nat → Nat} {len i p v q : Nat} (h : pOne tf len i p = (some v, q)) (b : Nat) (hb : slen.getD i 0 = b) : v < b := by
  have := (firstIx_lt (pOne_some h).2.1).2.1
  omega
theorem pNum_b {tf : Nat → Nat} {len p v q : Nat} (h : pNum tf len p = (some v, q)) : v ≤ 20 := by
  unfold pNum at h
  split at h
  · cases h
  · rename_i w q' hq
    have := pOne_b hq 10 (by decide)
    split at h
    · split at h
      · cases h; assumption
      · cases h
    · cases h; omega
theorem TrC.man {M M' : Nat → Nat → Int32} {n k : Nat} {P : Nat → Int32} {ki ha ox : Int32} (h : TrC M n k P) (hP : OkP n k P) (h6 : n < 6) (g0 : M' 162 0 = nI (n + 1) ∧ M' 162 1 = M 162 1 ∧ M' 162 2 = M 162 2 ∧ M' 162 3 = M 162 3 ∧ M' 162 4 = M 162 4) (g1 : M' (162 + 1) n = ki ∧ M' (162 + 2) n = ha ∧ M' (162 + 3) n = ox ∧ M' (162 + 4) n = 0 ∧ M' (162 + 5) n = -1) (g2 : ∀ i m, 1 ≤ i → i ≤ 5 → m ≠ n → M' (162 + i) m = M (162 + i) m) (g3 : ∀ a, (a < 162 ∨ 162 + 6 ≤ a) → M' a = M a) : TrC M' (n + 1) k (manP P n ki ha ox) := by
  obtain ⟨e0, e1, e2, e3, e5, e6⟩ := h
  unfold manP
  refine ⟨g0.1, by rw [g0.2.1]; exact e1, ?_, ?_, fun m hm => ?_, fun i hi => ?_⟩
  · rw [g0.2.2.1, e2]; simp (disch := omega) only [upP_ne]
  · rw [g0.2.2.2.1, e3]; simp (disch := omega) only [upP_ne]
  · by_cases e : m = n
    · subst e
      simp (disch := omega) only [upP_ne, upP_at]
      refine ⟨g1.1, g1.2.1, g1.2.2.1, ?_, ?_⟩
      · rw [(hP.2.2.2.2.2.1 m (Nat.le_refl _) h6).1]; exact g1.2.2.2.1
      · rw [(hP.2.2.2.2.2.1 m (Nat.le_refl _) h6).2]; exact g1.2.2.2.2
    · have h9 := e5 m (by omega)
      simp (disch := omega) only [upP_ne]
      rw [g2 1 m (by omega) (by omega) e, g2 2 m (by omega) (by omega) e, g2 3 m (by omega) (by omega) e, g2 4 m (by omega) (by omega) e, g2 5 m (by omega) (by omega) e]
      exact h9
  · simp (disch := omega) only [upP_ne]
    rw [g3 (162 + 6) (by omega), g3 (162 + 7) (by omega)]
    exact e6 i hi
theorem TrC.name {M M' : Nat → Nat → Int32} {n k : Nat} {P : Nat → Int32} {wo de : Int32} (h : TrC M n k P) (h6 : k < 6) (hn : n ≤ 6) (g0 : M' 162 0 = M 162 0 ∧ M' 162 1 = nI (k + 1) ∧ M' 162 2 = M 162 2 ∧ M' 162 3 = M 162 3 ∧ M' 162 4 = M 162 4) (g1 : M' (162 + 6) k = wo ∧ M' (162 + 7) k = de) (g2 : ∀ i m, 6 ≤ i → i ≤ 7 → m ≠ k → M' (162 + i) m = M (162 + i) m) (g3 : ∀ a, a ≠ 162 → a ≠ 162 + 6 → a ≠ 162 + 7 → M' a = M a) : TrC M' n (k + 1) (nameP P k wo de) := by
  obtain ⟨e0, e1, e2, e3, e5, e6⟩ := h
  unfold nameP
  refine ⟨by rw [g0.1]; exact e0, g0.2.1, ?_, ?_, fun m hm => ?_, fun i hi => ?_⟩
  · rw [g0.2.2.1, e2]; simp (disch := omega) only [upP_ne]
  · rw [g0.2.2.2.1, e3]; simp (disch := omega) only [upP_ne]
  · simp (disch := omega) only [upP_ne]
    rw [g3 (162 + 1) (by omega) (by omega) (by omega), g3 (162 + 2) (by omega) (by omega) (by omega), g3 (162 + 3) (by omega) (by omega) (by omega), g3 (162 + 4) (by omega) (by omega) (by omega), g3 (162 + 5) (by omega) (by omega) (by omega)]
    exact e5 m hm
  · by_cases e : i = k
    · subst e
      simp (disch := omega) only [upP_ne, upP_at]
      exact g1
    · simp (disch := omega) only [upP_ne]
      rw [g2 6 i (by omega) (by omega) e, g2 7 i (by omega) (by omega) e]
      exact e6 i (by omega)
/-- how the reading of men ends -/
def MenQ (M : Nat → Nat → Int32) (N : Nat → Nat → Int64) (tf : Nat → Nat) (len k : Nat) (e : Option (Nat × (Nat → Int32)) × Nat) : AQ := fun r h' => ∃ M', h' = (SK, M', N) ∧ TapeC M' tf len e.2 ∧ e.2 ≤ len ∧ (∀ a, a ≠ 170 → (a < 162 ∨ 170 ≤ a) → M' a = M a) ∧ match e.1 with
  | none => r = some (.int 0)
  | some t => r = some (.int 1) ∧ TrC M' t.1 k t.2 ∧ OkP t.1 k t.2
def NamQ (M : Nat → Nat → Int32) (N : Nat → Nat → Int64) (tf : Nat → Nat) (len n : Nat) (e : Option (Nat × (Nat → Int32)) × Nat) : AQ := fun r h' => ∃ M', h' = (SK, M', N) ∧ TapeC M' tf len e.2 ∧ e.2 ≤ len ∧ (∀ a, a ≠ 170 → (a < 162 ∨ 170 ≤ a) → M' a = M a) ∧ match e.1 with
  | none => r = some (.int 0)
  | some t => r = some (.int 1) ∧ TrC M' n t.1 t.2 ∧ OkP n t.1 t.2
set_option maxRecDepth 100000 in
set_option maxHeartbeats 1000000 in
theorem s_readsMen {M : Nat → Nat → Int32} {N : Nat → Nat → Int64} {tf : Nat → Nat} {len p : Nat} (hl : len ≤ 80) (hp : p ≤ len) (htf : ∀ j, j < len → tf j < 128) (hT : TapeC M tf len p) {k : Nat} {P : Nat → Int32} (hR : TrC M 0 k P) (hP : OkP 0 k P) : Run mX10_readsMen 20 0 0 [.ref 170, .ref 162] (SK, M, N) (MenQ M N tf len k (pMenF tf len 5 0 P p)) := by
  refine Run.of (by decide) (Nat.le_of_ble_eq_true rfl) ?_
  have loop : ∀ (f n : Nat) (P : Nat → Int32) (p : Nat) (M0 : Nat → Nat → Int32), n + f = 5 → p ≤ len → TapeC M0 tf len p → TrC M0 n k P → OkP n k P → (∀ a, a ≠ 170 → (a < 162 ∨ 170 ≤ a) → M0 a = M a) → Go mX10_readsMen 20 0 0 2 [(0, .ref 170), (1, .ref 162), (2, .int (nI (n + 1)))] [] (SK, M0, N) (MenQ M N tf len k (pMenF tf len f n P p)) := by
    intro f
    induction f with
    | zero =>
      intro n P p M0 hnf hp0 hT0 hR0 hok0 hf0
      refine g_iload_n (j := 2) (pc' := 3) dX10_readsMen_2 rfl rfl ?_
      refine g_bipush (v := 6) (pc' := 5) dX10_readsMen_3 (by decide) rfl ?_
      refine g_icmp_gt (tgt := 110) (pc' := 8) dX10_readsMen_5 (by decide) rfl (fun hc => (absurd hc (nI_nlt (a := 6) (b := n + 1) (by omega) (by omega)))) (fun hc => ?_)
      have hle1 := (pOne_le (tf := tf) (i := 2) hp0).1
      refine g_aload_n (j := 0) (pc' := 9) dX10_readsMen_8 rfl rfl ?_
      refine g_ldcS (i := 2) (pc' := 11) dX10_readsMen_9 (by decide) rfl rfl rfl ?_
      refine g_callV (my := mX10_oneOf) (k := 170) (st := []) (av := [.ref (2000000 + 2)]) (mcr := 0) (msr := 0) (mc := 0) (ms := 0) (pc' := 14) dX10_readsMen_11 kX10_oneOf wX10_36 rfl ⟨rfl, rfl⟩ rfl (Nat.le_of_ble_eq_true rfl) (by decide) (s_oneOf hl hp0 htf hT0 (i := 2) (by omega)) rfl ?_
      rintro _ _ ⟨M1, rfl, rfl, hT1, hf1⟩
      show Go mX10_readsMen _ _ _ 14 [(0, .ref 170), (1, .ref 162), (2, .int (nI (n + 1)))] [.int (optI (-1) (pOne tf len 2 p).1)] (SK, M1, N) _
      generalize hq1 : pOne tf len 2 p = q1 at hT1 hle1
      obtain ⟨o1, p1⟩ := q1
      dsimp only at hT1 hle1
      have hp1 : p1 ≤ len := hle1
      cases o1 with
      | none =>
        show Go mX10_readsMen _ _ _ 14 [(0, .ref 170), (1, .ref 162), (2, .int (nI (n + 1)))] [.int (-1)] (SK, M1, N) _
        refine g_istore_n (L' := [(0, .ref 170), (1, .ref 162), (2, .int (nI (n + 1))), (3, .int (-1))]) (pc' := 15) dX10_readsMen_14 (by decide) rfl rfl ?_
        refine g_iload_n (j := 3) (pc' := 16) dX10_readsMen_15 rfl rfl ?_
        refine g_iconst (v := (-1)) (pc' := 17) dX10_readsMen_16 (by decide) rfl ?_
        refine g_icmp_ne (tgt := 24) (pc' := 20) dX10_readsMen_17 (by decide) rfl (fun hc => (absurd rfl hc)) (fun hc => ?_)
        refine g_iconst (v := (-1)) (pc' := 21) dX10_readsMen_20 (by decide) rfl ?_
        refine g_goto (tgt := 30) dX10_readsMen_21 (by decide) ?_
        refine g_istore (L' := [(0, .ref 170), (1, .ref 162), (2, .int (nI (n + 1))), (3, .int (-1)), (4, .int (-1))]) (pc' := 32) dX10_readsMen_30 (by decide) rfl rfl ?_
        refine g_iload (j := 4) (pc' := 34) dX10_readsMen_32 rfl rfl ?_
        refine g_iconst (v := (-1)) (pc' := 35) dX10_readsMen_34 (by decide) rfl ?_
        refine g_icmp_ne (tgt := 42) (pc' := 38) dX10_readsMen_35 (by decide) rfl (fun hc => (absurd rfl hc)) (fun hc => ?_)
        refine g_iconst (v := (-1)) (pc' := 39) dX10_readsMen_38 (by decide) rfl ?_
        refine g_goto (tgt := 48) dX10_readsMen_39 (by decide) ?_
        refine g_istore (L' := [(0, .ref 170), (1, .ref 162), (2, .int (nI (n + 1))), (3, .int (-1)), (4, .int (-1)), (5, .int (-1))]) (pc' := 50) dX10_readsMen_48 (by decide) rfl rfl ?_
        refine g_iload (j := 5) (pc' := 52) dX10_readsMen_50 rfl rfl ?_
        refine g_iconst (v := (-1)) (pc' := 53) dX10_readsMen_52 (by decide) rfl ?_
        refine g_icmp_ne (tgt := 58) (pc' := 56) dX10_readsMen_53 (by decide) rfl (fun hc => (absurd rfl hc)) (fun hc => ?_)
        rw [show pMenF tf len (0) n P p = (none, p1) by simp only [pMenF, pMan, hq1]]
        refine g_iconst (v := 0) (pc' := 57) dX10_readsMen_56 (by decide) rfl ?_
        exact g_iret dX10_readsMen_57 rfl (by decide) (⟨M1, rfl, hT1, hp1, fun a a1 a2 => by rw [hf1 a a1]; exact hf0 a a1 a2, rfl⟩)
      | some x =>
        show Go mX10_readsMen _ _ _ 14 [(0, .ref 170), (1, .ref 162), (2, .int (nI (n + 1)))] [.int (nI x)] (SK, M1, N) _
        have ha := pOne_b hq1 5 (by decide)
        refine g_istore_n (L' := [(0, .ref 170), (1, .ref 162), (2, .int (nI (n + 1))), (3, .int (nI x))]) (pc' := 15) dX10_readsMen_14 (by decide) rfl rfl ?_
        refine g_iload_n (j := 3) (pc' := 16) dX10_readsMen_15 rfl rfl ?_
        refine g_iconst (v := (-1)) (pc' := 17) dX10_readsMen_16 (by decide) rfl ?_
        refine g_icmp_ne (tgt := 24) (pc' := 20) dX10_readsMen_17 (by decide) rfl (fun hc => ?_) (fun hc => (absurd hc (nI_ne_m1 (by omega))))
        have hle2 := (pOne_le (tf := tf) (i := 0) hp1).1
        refine g_aload_n (j := 0) (pc' := 25) dX10_readsMen_24 rfl rfl ?_
        refine g_ldcS (i := 0) (pc' := 27) dX10_readsMen_25 (by decide) rfl rfl rfl ?_
        refine g_callV (my := mX10_oneOf) (k := 170) (st := []) (av := [.ref (2000000 + 0)]) (mcr := 0) (msr := 0) (mc := 0) (ms := 0) (pc' := 30) dX10_readsMen_27 kX10_oneOf wX10_36 rfl ⟨rfl, rfl⟩ rfl (Nat.le_of_ble_eq_true rfl) (by decide) (s_oneOf hl hp1 htf hT1 (i := 0) (by omega)) rfl ?_
        rintro _ _ ⟨M2, rfl, rfl, hT2, hf2⟩
        show Go mX10_readsMen _ _ _ 30 [(0, .ref 170), (1, .ref 162), (2, .int (nI (n + 1))), (3, .int (nI x))] [.int (optI (-1) (pOne tf len 0 p1).1)] (SK, M2, N) _
        generalize hq2 : pOne tf len 0 p1 = q2 at hT2 hle2
        obtain ⟨o2, p2⟩ := q2
        dsimp only at hT2 hle2
        have hp2 : p2 ≤ len := hle2
        cases o2 with
        | none =>
          show Go mX10_readsMen _ _ _ 30 [(0, .ref 170), (1, .ref 162), (2, .int (nI (n + 1))), (3, .int (nI x))] [.int (-1)] (SK, M2, N) _
          refine g_istore (L' := [(0, .ref 170), (1, .ref 162), (2, .int (nI (n + 1))), (3, .int (nI x)), (4, .int (-1))]) (pc' := 32) dX10_readsMen_30 (by decide) rfl rfl ?_
          refine g_iload (j := 4) (pc' := 34) dX10_readsMen_32 rfl rfl ?_
          refine g_iconst (v := (-1)) (pc' := 35) dX10_readsMen_34 (by decide) rfl ?_
          refine g_icmp_ne (tgt := 42) (pc' := 38) dX10_readsMen_35 (by decide) rfl (fun hc => (absurd rfl hc)) (fun hc => ?_)
          refine g_iconst (v := (-1)) (pc' := 39) dX10_readsMen_38 (by decide) rfl ?_
          refine g_goto (tgt := 48) dX10_readsMen_39 (by decide) ?_
          refine g_istore (L' := [(0, .ref 170), (1, .ref 162), (2, .int (nI (n + 1))), (3, .int (nI x)), (4, .int (-1)), (5, .int (-1))]) (pc' := 50) dX10_readsMen_48 (by decide) rfl rfl ?_
          refine g_iload (j := 5) (pc' := 52) dX10_readsMen_50 rfl rfl ?_
          refine g_iconst (v := (-1)) (pc' := 53) dX10_readsMen_52 (by decide) rfl ?_
          refine g_icmp_ne (tgt := 58) (pc' := 56) dX10_readsMen_53 (by decide) rfl (fun hc => (absurd rfl hc)) (fun hc => ?_)
          rw [show pMenF tf len (0) n P p = (none, p2) by simp only [pMenF, pMan, hq1, hq2]]
          refine g_iconst (v := 0) (pc' := 57) dX10_readsMen_56 (by decide) rfl ?_
          exact g_iret dX10_readsMen_57 rfl (by decide) (⟨M2, rfl, hT2, hp2, fun a a1 a2 => by rw [hf2 a a1]; rw [hf1 a a1]; exact hf0 a a1 a2, rfl⟩)
        | some y =>
          show Go mX10_readsMen _ _ _ 30 [(0, .ref 170), (1, .ref 162), (2, .int (nI (n + 1))), (3, .int (nI x))] [.int (nI y)] (SK, M2, N) _
          have hb := pOne_b hq2 10 (by decide)
          refine g_istore (L' := [(0, .ref 170), (1, .ref 162), (2, .int (nI (n + 1))), (3, .int (nI x)), (4, .int (nI y))]) (pc' := 32) dX10_readsMen_30 (by decide) rfl rfl ?_
          refine g_iload (j := 4) (pc' := 34) dX10_readsMen_32 rfl rfl ?_
          refine g_iconst (v := (-1)) (pc' := 35) dX10_readsMen_34 (by decide) rfl ?_
          refine g_icmp_ne (tgt := 42) (pc' := 38) dX10_readsMen_35 (by decide) rfl (fun hc => ?_) (fun hc => (absurd hc (nI_ne_m1 (by omega))))
          have hle3 := (pOne_le (tf := tf) (i := 3) hp2).1
          refine g_aload_n (j := 0) (pc' := 43) dX10_readsMen_42 rfl rfl ?_
          refine g_ldcS (i := 3) (pc' := 45) dX10_readsMen_43 (by decide) rfl rfl rfl ?_
          refine g_callV (my := mX10_oneOf) (k := 170) (st := []) (av := [.ref (2000000 + 3)]) (mcr := 0) (msr := 0) (mc := 0) (ms := 0) (pc' := 48) dX10_readsMen_45 kX10_oneOf wX10_36 rfl ⟨rfl, rfl⟩ rfl (Nat.le_of_ble_eq_true rfl) (by decide) (s_oneOf hl hp2 htf hT2 (i := 3) (by omega)) rfl ?_
          rintro _ _ ⟨M3, rfl, rfl, hT3, hf3⟩
          show Go mX10_readsMen _ _ _ 48 [(0, .ref 170), (1, .ref 162), (2, .int (nI (n + 1))), (3, .int (nI x)), (4, .int (nI y))] [.int (optI (-1) (pOne tf len 3 p2).1)] (SK, M3, N) _
          generalize hq3 : pOne tf len 3 p2 = q3 at hT3 hle3
          obtain ⟨o3, p3⟩ := q3
          dsimp only at hT3 hle3
          have hp3 : p3 ≤ len := hle3
          cases o3 with
          | none =>
            show Go mX10_readsMen _ _ _ 48 [(0, .ref 170), (1, .ref 162), (2, .int (nI (n + 1))), (3, .int (nI x)), (4, .int (nI y))] [.int (-1)] (SK, M3, N) _
            refine g_istore (L' := [(0, .ref 170), (1, .ref 162), (2, .int (nI (n + 1))), (3, .int (nI x)), (4, .int (nI y)), (5, .int (-1))]) (pc' := 50) dX10_readsMen_48 (by decide) rfl rfl ?_
            refine g_iload (j := 5) (pc' := 52) dX10_readsMen_50 rfl rfl ?_
            refine g_iconst (v := (-1)) (pc' := 53) dX10_readsMen_52 (by decide) rfl ?_
            refine g_icmp_ne (tgt := 58) (pc' := 56) dX10_readsMen_53 (by decide) rfl (fun hc => (absurd rfl hc)) (fun hc => ?_)
            rw [show pMenF tf len (0) n P p = (none, p3) by simp only [pMenF, pMan, hq1, hq2, hq3]]
            refine g_iconst (v := 0) (pc' := 57) dX10_readsMen_56 (by decide) rfl ?_
            exact g_iret dX10_readsMen_57 rfl (by decide) (⟨M3, rfl, hT3, hp3, fun a a1 a2 => by rw [hf3 a a1]; rw [hf2 a a1]; rw [hf1 a a1]; exact hf0 a a1 a2, rfl⟩)
          | some z =>
            show Go mX10_readsMen _ _ _ 48 [(0, .ref 170), (1, .ref 162), (2, .int (nI (n + 1))), (3, .int (nI x)), (4, .int (nI y))] [.int (nI z)] (SK, M3, N) _
            have hc4 := pOne_b hq3 4 (by decide)
            refine g_istore (L' := [(0, .ref 170), (1, .ref 162), (2, .int (nI (n + 1))), (3, .int (nI x)), (4, .int (nI y)), (5, .int (nI z))]) (pc' := 50) dX10_readsMen_48 (by decide) rfl rfl ?_
            refine g_iload (j := 5) (pc' := 52) dX10_readsMen_50 rfl rfl ?_
            refine g_iconst (v := (-1)) (pc' := 53) dX10_readsMen_52 (by decide) rfl ?_
            refine g_icmp_ne (tgt := 58) (pc' := 56) dX10_readsMen_53 (by decide) rfl (fun hc => ?_) (fun hc => (absurd hc (nI_ne_m1 (by omega))))
            have e3 : ∀ a, a ≠ 170 → M3 a = M0 a := fun a ha => by rw [hf3 a ha, hf2 a ha, hf1 a ha]
            have hR3 := hR0.keep (fun a a1 a2 => e3 a (by omega))
            refine g_aload_n (j := 1) (pc' := 59) dX10_readsMen_58 rfl rfl ?_
            refine g_iload_n (j := 3) (pc' := 60) dX10_readsMen_59 rfl rfl ?_
            refine g_iload (j := 4) (pc' := 62) dX10_readsMen_60 rfl rfl ?_
            refine g_iload (j := 5) (pc' := 64) dX10_readsMen_62 rfl rfl ?_
            refine g_iconst (v := 1) (pc' := 65) dX10_readsMen_64 (by decide) rfl ?_
            refine g_iadd (pc' := 66) dX10_readsMen_65 rfl ?_
            refine g_top (y := nI (z + 1)) (nI_1 z) ?_
            refine g_callV (my := mX4_addMan) (k := 162) (st := []) (av := [.int (nI x), .int (nI y), .int (nI (z + 1))]) (mcr := 0) (msr := 0) (mc := 0) (ms := 0) (pc' := 69) dX10_readsMen_66 kX4_addMan wX10_53 rfl ⟨rfl, rfl⟩ rfl (Nat.le_of_ble_eq_true rfl) (by decide) (s_addMan (nI x) (nI y) (nI (z + 1)) par162 hR3.1 (by omega)) rfl ?_
            rintro _ _ ⟨M4, rfl, rfl, g0, g1, g2, g3⟩
            show Go mX10_readsMen _ _ _ 69 [(0, .ref 170), (1, .ref 162), (2, .int (nI (n + 1))), (3, .int (nI x)), (4, .int (nI y)), (5, .int (nI z))] [] (SK, M4, N) _
            have hT4 : TapeC M4 tf len p3 := hT3.keep (g3 170 (by omega)) (g3 171 (by omega))
            have hR4 := hR3.man hok0 (by omega) g0 g1 g2 g3
            have hok4 := hok0.man (show n < 6 by omega) (show x ≤ 4 by omega) (show y ≤ 9 by omega) (show 1 ≤ z + 1 by omega) (show z + 1 ≤ 4 by omega)
            have hf4 : ∀ a, a ≠ 170 → (a < 162 ∨ 170 ≤ a) → M4 a = M a := fun a a1 a2 => by rw [g3 a (by omega), e3 a a1]; exact hf0 a a1 a2
            have hp4 : p3 ≤ len := hp3
            refine g_aload_n (j := 0) (pc' := 70) dX10_readsMen_69 rfl rfl ?_
            refine g_iload_n (j := 2) (pc' := 71) dX10_readsMen_70 rfl rfl ?_
            refine g_bipush (v := 6) (pc' := 73) dX10_readsMen_71 (by decide) rfl ?_
            refine g_icmp_ge (tgt := 81) (pc' := 76) dX10_readsMen_73 (by decide) rfl (fun hc => ?_) (fun hc => (absurd (nI_le (a := 6) (b := n + 1) (by omega) (by omega)) hc))
            obtain ⟨p4, hp34⟩ : ∃ p4, p4 = p3 := ⟨_, rfl⟩
            rw [← hp34] at hT4 hp4
            refine g_ldcS (i := 1) (pc' := 83) dX10_readsMen_81 (by decide) rfl rfl rfl ?_
            have hle5 := (pOne_le (tf := tf) (i := 1) hp4).1
            refine g_callV (my := mX10_oneOf) (k := 170) (st := []) (av := [.ref (2000000 + 1)]) (mcr := 0) (msr := 0) (mc := 0) (ms := 0) (pc' := 86) dX10_readsMen_83 kX10_oneOf wX10_36 rfl ⟨rfl, rfl⟩ rfl (Nat.le_of_ble_eq_true rfl) (by decide) (s_oneOf hl hp4 htf hT4 (i := 1) (by omega)) rfl ?_
            rintro _ _ ⟨M5, rfl, rfl, hT5, hf5⟩
            show Go mX10_readsMen _ _ _ 86 [(0, .ref 170), (1, .ref 162), (2, .int (nI (n + 1))), (3, .int (nI x)), (4, .int (nI y)), (5, .int (nI z))] [.int (optI (-1) (pOne tf len 1 p4).1)] (SK, M5, N) _
            generalize hq5 : pOne tf len 1 p4 = q5 at hT5 hle5
            obtain ⟨o5, p5⟩ := q5
            dsimp only at hT5 hle5
            have hp5 : p5 ≤ len := hle5
            cases o5 with
            | none =>
              show Go mX10_readsMen _ _ _ 86 [(0, .ref 170), (1, .ref 162), (2, .int (nI (n + 1))), (3, .int (nI x)), (4, .int (nI y)), (5, .int (nI z))] [.int (-1)] (SK, M5, N) _
              refine g_istore (L' := [(0, .ref 170), (1, .ref 162), (2, .int (nI (n + 1))), (3, .int (nI x)), (4, .int (nI y)), (5, .int (nI z)), (6, .int (-1))]) (pc' := 88) dX10_readsMen_86 (by decide) rfl rfl ?_
              refine g_iload (j := 6) (pc' := 90) dX10_readsMen_88 rfl rfl ?_
              refine g_if_gt (tgt := 104) (pc' := 93) dX10_readsMen_90 (by decide) rfl (fun hc => (absurd hc (by decide))) (fun hc => ?_)
              refine g_iload (j := 6) (pc' := 95) dX10_readsMen_93 rfl rfl ?_
              refine g_if_ne (tgt := 102) (pc' := 98) dX10_readsMen_95 (by decide) rfl (fun hc => ?_) (fun hc => (absurd hc (by decide)))
              rw [show pMenF tf len (0) n P p = (none, p5) by simp only [pMenF, pMan, hq1, hq2, hq3, ← hp34, hq5]]
              refine g_iconst (v := 0) (pc' := 103) dX10_readsMen_102 (by decide) rfl ?_
              exact g_iret dX10_readsMen_103 rfl (by decide) (⟨M5, rfl, hT5, hp5, fun a a1 a2 => by rw [hf5 a a1]; exact hf4 a a1 a2, rfl⟩)
            | some u =>
              show Go mX10_readsMen _ _ _ 86 [(0, .ref 170), (1, .ref 162), (2, .int (nI (n + 1))), (3, .int (nI x)), (4, .int (nI y)), (5, .int (nI z))] [.int (nI u)] (SK, M5, N) _
              have hu := pOne_b hq5 1 (by decide)
              obtain rfl : u = 0 := by omega
              show Go mX10_readsMen _ _ _ 86 [(0, .ref 170), (1, .ref 162), (2, .int (nI (n + 1))), (3, .int (nI x)), (4, .int (nI y)), (5, .int (nI z))] [.int 0] (SK, M5, N) _
              refine g_istore (L' := [(0, .ref 170), (1, .ref 162), (2, .int (nI (n + 1))), (3, .int (nI x)), (4, .int (nI y)), (5, .int (nI z)), (6, .int 0)]) (pc' := 88) dX10_readsMen_86 (by decide) rfl rfl ?_
              refine g_iload (j := 6) (pc' := 90) dX10_readsMen_88 rfl rfl ?_
              refine g_if_gt (tgt := 104) (pc' := 93) dX10_readsMen_90 (by decide) rfl (fun hc => (absurd hc (by decide))) (fun hc => ?_)
              refine g_iload (j := 6) (pc' := 95) dX10_readsMen_93 rfl rfl ?_
              refine g_if_ne (tgt := 102) (pc' := 98) dX10_readsMen_95 (by decide) rfl (fun hc => (absurd rfl hc)) (fun hc => ?_)
              rw [show pMenF tf len (0) n P p = (some (n + 1, manP P n (nI x) (nI y) (nI (z + 1))), p5) by simp only [pMenF, pMan, hq1, hq2, hq3, ← hp34, hq5]]
              refine g_iconst (v := 1) (pc' := 99) dX10_readsMen_98 (by decide) rfl ?_
              refine g_goto (tgt := 103) dX10_readsMen_99 (by decide) ?_
              exact g_iret dX10_readsMen_103 rfl (by decide) (⟨M5, rfl, hT5, hp5, fun a a1 a2 => by rw [hf5 a a1]; exact hf4 a a1 a2, rfl, hR4.keep (fun a a1 a2 => hf5 a (by omega)), hok4⟩)
    | succ f ih =>
      intro n P p M0 hnf hp0 hT0 hR0 hok0 hf0
      refine g_iload_n (j := 2) (pc' := 3) dX10_readsMen_2 rfl rfl ?_
      refine g_bipush (v := 6) (pc' := 5) dX10_readsMen_3 (by decide) rfl ?_
      refine g_icmp_gt (tgt := 110) (pc' := 8) dX10_readsMen_5 (by decide) rfl (fun hc => (absurd hc (nI_nlt (a := 6) (b := n + 1) (by omega) (by omega)))) (fun hc => ?_)
      have hle1 := (pOne_le (tf := tf) (i := 2) hp0).1
      refine g_aload_n (j := 0) (pc' := 9) dX10_readsMen_8 rfl rfl ?_
      refine g_ldcS (i := 2) (pc' := 11) dX10_readsMen_9 (by decide) rfl rfl rfl ?_
      refine g_callV (my := mX10_oneOf) (k := 170) (st := []) (av := [.ref (2000000 + 2)]) (mcr := 0) (msr := 0) (mc := 0) (ms := 0) (pc' := 14) dX10_readsMen_11 kX10_oneOf wX10_36 rfl ⟨rfl, rfl⟩ rfl (Nat.le_of_ble_eq_true rfl) (by decide) (s_oneOf hl hp0 htf hT0 (i := 2) (by omega)) rfl ?_
      rintro _ _ ⟨M1, rfl, rfl, hT1, hf1⟩
      show Go mX10_readsMen _ _ _ 14 [(0, .ref 170), (1, .ref 162), (2, .int (nI (n + 1)))] [.int (optI (-1) (pOne tf len 2 p).1)] (SK, M1, N) _
      generalize hq1 : pOne tf len 2 p = q1 at hT1 hle1
      obtain ⟨o1, p1⟩ := q1
      dsimp only at hT1 hle1
      have hp1 : p1 ≤ len := hle1
      cases o1 with
      | none =>
        show Go mX10_readsMen _ _ _ 14 [(0, .ref 170), (1, .ref 162), (2, .int (nI (n + 1)))] [.int (-1)] (SK, M1, N) _
        refine g_istore_n (L' := [(0, .ref 170), (1, .ref 162), (2, .int (nI (n + 1))), (3, .int (-1))]) (pc' := 15) dX10_readsMen_14 (by decide) rfl rfl ?_
        refine g_iload_n (j := 3) (pc' := 16) dX10_readsMen_15 rfl rfl ?_
        refine g_iconst (v := (-1)) (pc' := 17) dX10_readsMen_16 (by decide) rfl ?_
        refine g_icmp_ne (tgt := 24) (pc' := 20) dX10_readsMen_17 (by decide) rfl (fun hc => (absurd rfl hc)) (fun hc => ?_)
        refine g_iconst (v := (-1)) (pc' := 21) dX10_readsMen_20 (by decide) rfl ?_
        refine g_goto (tgt := 30) dX10_readsMen_21 (by decide) ?_
        refine g_istore (L' := [(0, .ref 170), (1, .ref 162), (2, .int (nI (n + 1))), (3, .int (-1)), (4, .int (-1))]) (pc' := 32) dX10_readsMen_30 (by decide) rfl rfl ?_
        refine g_iload (j := 4) (pc' := 34) dX10_readsMen_32 rfl rfl ?_
        refine g_iconst (v := (-1)) (pc' := 35) dX10_readsMen_34 (by decide) rfl ?_
        refine g_icmp_ne (tgt := 42) (pc' := 38) dX10_readsMen_35 (by decide) rfl (fun hc => (absurd rfl hc)) (fun hc => ?_)
        refine g_iconst (v := (-1)) (pc' := 39) dX10_readsMen_38 (by decide) rfl ?_
        refine g_goto (tgt := 48) dX10_readsMen_39 (by decide) ?_
        refine g_istore (L' := [(0, .ref 170), (1, .ref 162), (2, .int (nI (n + 1))), (3, .int (-1)), (4, .int (-1)), (5, .int (-1))]) (pc' := 50) dX10_readsMen_48 (by decide) rfl rfl ?_
        refine g_iload (j := 5) (pc' := 52) dX10_readsMen_50 rfl rfl ?_
        refine g_iconst (v := (-1)) (pc' := 53) dX10_readsMen_52 (by decide) rfl ?_
        refine g_icmp_ne (tgt := 58) (pc' := 56) dX10_readsMen_53 (by decide) rfl (fun hc => (absurd rfl hc)) (fun hc => ?_)
        rw [show pMenF tf len (f + 1) n P p = (none, p1) by simp only [pMenF, pMan, hq1]]
        refine g_iconst (v := 0) (pc' := 57) dX10_readsMen_56 (by decide) rfl ?_
        exact g_iret dX10_readsMen_57 rfl (by decide) (⟨M1, rfl, hT1, hp1, fun a a1 a2 => by rw [hf1 a a1]; exact hf0 a a1 a2, rfl⟩)
      | some x =>
        show Go mX10_readsMen _ _ _ 14 [(0, .ref 170), (1, .ref 162), (2, .int (nI (n + 1)))] [.int (nI x)] (SK, M1, N) _
        have ha := pOne_b hq1 5 (by decide)
        refine g_istore_n (L' := [(0, .ref 170), (1, .ref 162), (2, .int (nI (n + 1))), (3, .int (nI x))]) (pc' := 15) dX10_readsMen_14 (by decide) rfl rfl ?_
        refine g_iload_n (j := 3) (pc' := 16) dX10_readsMen_15 rfl rfl ?_
        refine g_iconst (v := (-1)) (pc' := 17) dX10_readsMen_16 (by decide) rfl ?_
        refine g_icmp_ne (tgt := 24) (pc' := 20) dX10_readsMen_17 (by decide) rfl (fun hc => ?_) (fun hc => (absurd hc (nI_ne_m1 (by omega))))
        have hle2 := (pOne_le (tf := tf) (i := 0) hp1).1
        refine g_aload_n (j := 0) (pc' := 25) dX10_readsMen_24 rfl rfl ?_
        refine g_ldcS (i := 0) (pc' := 27) dX10_readsMen_25 (by decide) rfl rfl rfl ?_
        refine g_callV (my := mX10_oneOf) (k := 170) (st := []) (av := [.ref (2000000 + 0)]) (mcr := 0) (msr := 0) (mc := 0) (ms := 0) (pc' := 30) dX10_readsMen_27 kX10_oneOf wX10_36 rfl ⟨rfl, rfl⟩ rfl (Nat.le_of_ble_eq_true rfl) (by decide) (s_oneOf hl hp1 htf hT1 (i := 0) (by omega)) rfl ?_
        rintro _ _ ⟨M2, rfl, rfl, hT2, hf2⟩
        show Go mX10_readsMen _ _ _ 30 [(0, .ref 170), (1, .ref 162), (2, .int (nI (n + 1))), (3, .int (nI x))] [.int (optI (-1) (pOne tf len 0 p1).1)] (SK, M2, N) _
        generalize hq2 : pOne tf len 0 p1 = q2 at hT2 hle2
        obtain ⟨o2, p2⟩ := q2
        dsimp only at hT2 hle2
        have hp2 : p2 ≤ len := hle2
        cases o2 with
        | none =>
          show Go mX10_readsMen _ _ _ 30 [(0, .ref 170), (1, .ref 162), (2, .int (nI (n + 1))), (3, .int (nI x))] [.int (-1)] (SK, M2, N) _
          refine g_istore (L' := [(0, .ref 170), (1, .ref 162), (2, .int (nI (n + 1))), (3, .int (nI x)), (4, .int (-1))]) (pc' := 32) dX10_readsMen_30 (by decide) rfl rfl ?_
          refine g_iload (j := 4) (pc' := 34) dX10_readsMen_32 rfl rfl ?_
          refine g_iconst (v := (-1)) (pc' := 35) dX10_readsMen_34 (by decide) rfl ?_
          refine g_icmp_ne (tgt := 42) (pc' := 38) dX10_readsMen_35 (by decide) rfl (fun hc => (absurd rfl hc)) (fun hc => ?_)
          refine g_iconst (v := (-1)) (pc' := 39) dX10_readsMen_38 (by decide) rfl ?_
          refine g_goto (tgt := 48) dX10_readsMen_39 (by decide) ?_
          refine g_istore (L' := [(0, .ref 170), (1, .ref 162), (2, .int (nI (n + 1))), (3, .int (nI x)), (4, .int (-1)), (5, .int (-1))]) (pc' := 50) dX10_readsMen_48 (by decide) rfl rfl ?_
          refine g_iload (j := 5) (pc' := 52) dX10_readsMen_50 rfl rfl ?_
          refine g_iconst (v := (-1)) (pc' := 53) dX10_readsMen_52 (by decide) rfl ?_
          refine g_icmp_ne (tgt := 58) (pc' := 56) dX10_readsMen_53 (by decide) rfl (fun hc => (absurd rfl hc)) (fun hc => ?_)
          rw [show pMenF tf len (f + 1) n P p = (none, p2) by simp only [pMenF, pMan, hq1, hq2]]
          refine g_iconst (v := 0) (pc' := 57) dX10_readsMen_56 (by decide) rfl ?_
          exact g_iret dX10_readsMen_57 rfl (by decide) (⟨M2, rfl, hT2, hp2, fun a a1 a2 => by rw [hf2 a a1]; rw [hf1 a a1]; exact hf0 a a1 a2, rfl⟩)
        | some y =>
          show Go mX10_readsMen _ _ _ 30 [(0, .ref 170), (1, .ref 162), (2, .int (nI (n + 1))), (3, .int (nI x))] [.int (nI y)] (SK, M2, N) _
          have hb := pOne_b hq2 10 (by decide)
          refine g_istore (L' := [(0, .ref 170), (1, .ref 162), (2, .int (nI (n + 1))), (3, .int (nI x)), (4, .int (nI y))]) (pc' := 32) dX10_readsMen_30 (by decide) rfl rfl ?_
          refine g_iload (j := 4) (pc' := 34) dX10_readsMen_32 rfl rfl ?_
          refine g_iconst (v := (-1)) (pc' := 35) dX10_readsMen_34 (by decide) rfl ?_
          refine g_icmp_ne (tgt := 42) (pc' := 38) dX10_readsMen_35 (by decide) rfl (fun hc => ?_) (fun hc => (absurd hc (nI_ne_m1 (by omega))))
          have hle3 := (pOne_le (tf := tf) (i := 3) hp2).1
          refine g_aload_n (j := 0) (pc' := 43) dX10_readsMen_42 rfl rfl ?_
          refine g_ldcS (i := 3) (pc' := 45) dX10_readsMen_43 (by decide) rfl rfl rfl ?_
          refine g_callV (my := mX10_oneOf) (k := 170) (st := []) (av := [.ref (2000000 + 3)]) (mcr := 0) (msr := 0) (mc := 0) (ms := 0) (pc' := 48) dX10_readsMen_45 kX10_oneOf wX10_36 rfl ⟨rfl, rfl⟩ rfl (Nat.le_of_ble_eq_true rfl) (by decide) (s_oneOf hl hp2 htf hT2 (i := 3) (by omega)) rfl ?_
          rintro _ _ ⟨M3, rfl, rfl, hT3, hf3⟩
          show Go mX10_readsMen _ _ _ 48 [(0, .ref 170), (1, .ref 162), (2, .int (nI (n + 1))), (3, .int (nI x)), (4, .int (nI y))] [.int (optI (-1) (pOne tf len 3 p2).1)] (SK, M3, N) _
          generalize hq3 : pOne tf len 3 p2 = q3 at hT3 hle3
          obtain ⟨o3, p3⟩ := q3
          dsimp only at hT3 hle3
          have hp3 : p3 ≤ len := hle3
          cases o3 with
          | none =>
            show Go mX10_readsMen _ _ _ 48 [(0, .ref 170), (1, .ref 162), (2, .int (nI (n + 1))), (3, .int (nI x)), (4, .int (nI y))] [.int (-1)] (SK, M3, N) _
            refine g_istore (L' := [(0, .ref 170), (1, .ref 162), (2, .int (nI (n + 1))), (3, .int (nI x)), (4, .int (nI y)), (5, .int (-1))]) (pc' := 50) dX10_readsMen_48 (by decide) rfl rfl ?_
            refine g_iload (j := 5) (pc' := 52) dX10_readsMen_50 rfl rfl ?_
            refine g_iconst (v := (-1)) (pc' := 53) dX10_readsMen_52 (by decide) rfl ?_
            refine g_icmp_ne (tgt := 58) (pc' := 56) dX10_readsMen_53 (by decide) rfl (fun hc => (absurd rfl hc)) (fun hc => ?_)
            rw [show pMenF tf len (f + 1) n P p = (none, p3) by simp only [pMenF, pMan, hq1, hq2, hq3]]
            refine g_iconst (v := 0) (pc' := 57) dX10_readsMen_56 (by decide) rfl ?_
            exact g_iret dX10_readsMen_57 rfl (by decide) (⟨M3, rfl, hT3, hp3, fun a a1 a2 => by rw [hf3 a a1]; rw [hf2 a a1]; rw [hf1 a a1]; exact hf0 a a1 a2, rfl⟩)
          | some z =>
            show Go mX10_readsMen _ _ _ 48 [(0, .ref 170), (1, .ref 162), (2, .int (nI (n + 1))), (3, .int (nI x)), (4, .int (nI y))] [.int (nI z)] (SK, M3, N) _
            have hc4 := pOne_b hq3 4 (by decide)
            refine g_istore (L' := [(0, .ref 170), (1, .ref 162), (2, .int (nI (n + 1))), (3, .int (nI x)), (4, .int (nI y)), (5, .int (nI z))]) (pc' := 50) dX10_readsMen_48 (by decide) rfl rfl ?_
            refine g_iload (j := 5) (pc' := 52) dX10_readsMen_50 rfl rfl ?_
            refine g_iconst (v := (-1)) (pc' := 53) dX10_readsMen_52 (by decide) rfl ?_
            refine g_icmp_ne (tgt := 58) (pc' := 56) dX10_readsMen_53 (by decide) rfl (fun hc => ?_) (fun hc => (absurd hc (nI_ne_m1 (by omega))))
            have e3 : ∀ a, a ≠ 170 → M3 a = M0 a := fun a ha => by rw [hf3 a ha, hf2 a ha, hf1 a ha]
            have hR3 := hR0.keep (fun a a1 a2 => e3 a (by omega))
            refine g_aload_n (j := 1) (pc' := 59) dX10_readsMen_58 rfl rfl ?_
            refine g_iload_n (j := 3) (pc' := 60) dX10_readsMen_59 rfl rfl ?_
            refine g_iload (j := 4) (pc' := 62) dX10_readsMen_60 rfl rfl ?_
            refine g_iload (j := 5) (pc' := 64) dX10_readsMen_62 rfl rfl ?_
            refine g_iconst (v := 1) (pc' := 65) dX10_readsMen_64 (by decide) rfl ?_
            refine g_iadd (pc' := 66) dX10_readsMen_65 rfl ?_
            refine g_top (y := nI (z + 1)) (nI_1 z) ?_
            refine g_callV (my := mX4_addMan) (k := 162) (st := []) (av := [.int (nI x), .int (nI y), .int (nI (z + 1))]) (mcr := 0) (msr := 0) (mc := 0) (ms := 0) (pc' := 69) dX10_readsMen_66 kX4_addMan wX10_53 rfl ⟨rfl, rfl⟩ rfl (Nat.le_of_ble_eq_true rfl) (by decide) (s_addMan (nI x) (nI y) (nI (z + 1)) par162 hR3.1 (by omega)) rfl ?_
            rintro _ _ ⟨M4, rfl, rfl, g0, g1, g2, g3⟩
            show Go mX10_readsMen _ _ _ 69 [(0, .ref 170), (1, .ref 162), (2, .int (nI (n + 1))), (3, .int (nI x)), (4, .int (nI y)), (5, .int (nI z))] [] (SK, M4, N) _
            have hT4 : TapeC M4 tf len p3 := hT3.keep (g3 170 (by omega)) (g3 171 (by omega))
            have hR4 := hR3.man hok0 (by omega) g0 g1 g2 g3
            have hok4 := hok0.man (show n < 6 by omega) (show x ≤ 4 by omega) (show y ≤ 9 by omega) (show 1 ≤ z + 1 by omega) (show z + 1 ≤ 4 by omega)
            have hf4 : ∀ a, a ≠ 170 → (a < 162 ∨ 170 ≤ a) → M4 a = M a := fun a a1 a2 => by rw [g3 a (by omega), e3 a a1]; exact hf0 a a1 a2
            have hp4 : p3 ≤ len := hp3
            refine g_aload_n (j := 0) (pc' := 70) dX10_readsMen_69 rfl rfl ?_
            refine g_iload_n (j := 2) (pc' := 71) dX10_readsMen_70 rfl rfl ?_
            refine g_bipush (v := 6) (pc' := 73) dX10_readsMen_71 (by decide) rfl ?_
            refine g_icmp_ge (tgt := 81) (pc' := 76) dX10_readsMen_73 (by decide) rfl (fun hc => (absurd hc (nI_ge (a := n + 1) (b := 6) (by omega) (by omega)))) (fun hc => ?_)
            obtain ⟨p4, hp34⟩ : ∃ p4, p4 = p3 := ⟨_, rfl⟩
            rw [← hp34] at hT4 hp4
            refine g_ldcS (i := 4) (pc' := 78) dX10_readsMen_76 (by decide) rfl rfl rfl ?_
            refine g_goto (tgt := 83) dX10_readsMen_78 (by decide) ?_
            have hle5 := (pOne_le (tf := tf) (i := 4) hp4).1
            refine g_callV (my := mX10_oneOf) (k := 170) (st := []) (av := [.ref (2000000 + 4)]) (mcr := 0) (msr := 0) (mc := 0) (ms := 0) (pc' := 86) dX10_readsMen_83 kX10_oneOf wX10_36 rfl ⟨rfl, rfl⟩ rfl (Nat.le_of_ble_eq_true rfl) (by decide) (s_oneOf hl hp4 htf hT4 (i := 4) (by omega)) rfl ?_
            rintro _ _ ⟨M5, rfl, rfl, hT5, hf5⟩
            show Go mX10_readsMen _ _ _ 86 [(0, .ref 170), (1, .ref 162), (2, .int (nI (n + 1))), (3, .int (nI x)), (4, .int (nI y)), (5, .int (nI z))] [.int (optI (-1) (pOne tf len 4 p4).1)] (SK, M5, N) _
            generalize hq5 : pOne tf len 4 p4 = q5 at hT5 hle5
            obtain ⟨o5, p5⟩ := q5
            dsimp only at hT5 hle5
            have hp5 : p5 ≤ len := hle5
            cases o5 with
            | none =>
              show Go mX10_readsMen _ _ _ 86 [(0, .ref 170), (1, .ref 162), (2, .int (nI (n + 1))), (3, .int (nI x)), (4, .int (nI y)), (5, .int (nI z))] [.int (-1)] (SK, M5, N) _
              refine g_istore (L' := [(0, .ref 170), (1, .ref 162), (2, .int (nI (n + 1))), (3, .int (nI x)), (4, .int (nI y)), (5, .int (nI z)), (6, .int (-1))]) (pc' := 88) dX10_readsMen_86 (by decide) rfl rfl ?_
              refine g_iload (j := 6) (pc' := 90) dX10_readsMen_88 rfl rfl ?_
              refine g_if_gt (tgt := 104) (pc' := 93) dX10_readsMen_90 (by decide) rfl (fun hc => (absurd hc (by decide))) (fun hc => ?_)
              refine g_iload (j := 6) (pc' := 95) dX10_readsMen_93 rfl rfl ?_
              refine g_if_ne (tgt := 102) (pc' := 98) dX10_readsMen_95 (by decide) rfl (fun hc => ?_) (fun hc => (absurd hc (by decide)))
              rw [show pMenF tf len (f + 1) n P p = (none, p5) by simp only [pMenF, pMan, hq1, hq2, hq3, ← hp34, hq5]]
              refine g_iconst (v := 0) (pc' := 103) dX10_readsMen_102 (by decide) rfl ?_
              exact g_iret dX10_readsMen_103 rfl (by decide) (⟨M5, rfl, hT5, hp5, fun a a1 a2 => by rw [hf5 a a1]; exact hf4 a a1 a2, rfl⟩)
            | some u =>
              show Go mX10_readsMen _ _ _ 86 [(0, .ref 170), (1, .ref 162), (2, .int (nI (n + 1))), (3, .int (nI x)), (4, .int (nI y)), (5, .int (nI z))] [.int (nI u)] (SK, M5, N) _
              have hu := pOne_b hq5 2 (by decide)
              cases u with
              | zero =>
                show Go mX10_readsMen _ _ _ 86 [(0, .ref 170), (1, .ref 162), (2, .int (nI (n + 1))), (3, .int (nI x)), (4, .int (nI y)), (5, .int (nI z))] [.int 0] (SK, M5, N) _
                refine g_istore (L' := [(0, .ref 170), (1, .ref 162), (2, .int (nI (n + 1))), (3, .int (nI x)), (4, .int (nI y)), (5, .int (nI z)), (6, .int 0)]) (pc' := 88) dX10_readsMen_86 (by decide) rfl rfl ?_
                refine g_iload (j := 6) (pc' := 90) dX10_readsMen_88 rfl rfl ?_
                refine g_if_gt (tgt := 104) (pc' := 93) dX10_readsMen_90 (by decide) rfl (fun hc => (absurd hc (by decide))) (fun hc => ?_)
                refine g_iload (j := 6) (pc' := 95) dX10_readsMen_93 rfl rfl ?_
                refine g_if_ne (tgt := 102) (pc' := 98) dX10_readsMen_95 (by decide) rfl (fun hc => (absurd rfl hc)) (fun hc => ?_)
                rw [show pMenF tf len (f + 1) n P p = (some (n + 1, manP P n (nI x) (nI y) (nI (z + 1))), p5) by simp only [pMenF, pMan, hq1, hq2, hq3, ← hp34, hq5]]
                refine g_iconst (v := 1) (pc' := 99) dX10_readsMen_98 (by decide) rfl ?_
                refine g_goto (tgt := 103) dX10_readsMen_99 (by decide) ?_
                exact g_iret dX10_readsMen_103 rfl (by decide) (⟨M5, rfl, hT5, hp5, fun a a1 a2 => by rw [hf5 a a1]; exact hf4 a a1 a2, rfl, hR4.keep (fun a a1 a2 => hf5 a (by omega)), hok4⟩)
              | succ u =>
                obtain rfl : u = 0 := by omega
                show Go mX10_readsMen _ _ _ 86 [(0, .ref 170), (1, .ref 162), (2, .int (nI (n + 1))), (3, .int (nI x)), (4, .int (nI y)), (5, .int (nI z))] [.int 1] (SK, M5, N) _
                refine g_istore (L' := [(0, .ref 170), (1, .ref 162), (2, .int (nI (n + 1))), (3, .int (nI x)), (4, .int (nI y)), (5, .int (nI z)), (6, .int 1)]) (pc' := 88) dX10_readsMen_86 (by decide) rfl rfl ?_
                refine g_iload (j := 6) (pc' := 90) dX10_readsMen_88 rfl rfl ?_
                refine g_if_gt (tgt := 104) (pc' := 93) dX10_readsMen_90 (by decide) rfl (fun hc => ?_) (fun hc => (absurd (by decide) hc))
                refine g_iinc (j := 2) (v := nI (n + 1 + 1)) (L' := [(0, .ref 170), (1, .ref 162), (2, .int (nI (n + 1 + 1))), (3, .int (nI x)), (4, .int (nI y)), (5, .int (nI z)), (6, .int 1)]) (pc' := 107) dX10_readsMen_104 rfl (nI_1 (n + 1)) (by decide) rfl rfl ?_
                refine g_goto (tgt := 2) dX10_readsMen_107 (by decide) ?_
                refine g_less (L' := [(0, .ref 170), (1, .ref 162), (2, .int (nI (n + 1 + 1)))]) [0, 1, 2] rfl ?_
                rw [show pMenF tf len (f + 1) n P p = pMenF tf len f (n + 1) (manP P n (nI x) (nI y) (nI (z + 1))) p5 by simp only [pMenF, pMan, hq1, hq2, hq3, ← hp34, hq5]]
                exact ih (n + 1) _ p5 M5 (by omega) hp5 hT5 (hR4.keep (fun a a1 a2 => hf5 a (by omega))) hok4 (fun a a1 a2 => by rw [hf5 a a1]; exact hf4 a a1 a2)
  refine g_iconst (v := 1) (pc' := 1) dX10_readsMen_0 (by decide) rfl ?_
  refine g_istore_n (L' := [(0, .ref 170), (1, .ref 162), (2, .int 1)]) (pc' := 2) dX10_readsMen_1 (by decide) rfl rfl ?_
  exact loop 5 0 P p M rfl hp hT hR hP (fun _ _ _ => rfl)
set_option maxRecDepth 100000 in
set_option maxHeartbeats 1000000 in
theorem s_readsNames {M : Nat → Nat → Int32} {N : Nat → Nat → Int64} {tf : Nat → Nat} {len p : Nat} (hl : len ≤ 80) (hp : p ≤ len) (htf : ∀ j, j < len → tf j < 128) (hT : TapeC M tf len p) {n : Nat} {P : Nat → Int32} (hR : TrC M n 0 P) (hP : OkP n 0 P) : Run mX10_readsNames 20 0 0 [.ref 170, .ref 162] (SK, M, N) (NamQ M N tf len n (pNamF tf len 5 0 P p)) := by
  refine Run.of (by decide) (Nat.le_of_ble_eq_true rfl) ?_
  have loop : ∀ (f k : Nat) (P : Nat → Int32) (p : Nat) (M0 : Nat → Nat → Int32), k + f = 5 → p ≤ len → TapeC M0 tf len p → TrC M0 n k P → OkP n k P → (∀ a, a ≠ 170 → (a < 162 ∨ 170 ≤ a) → M0 a = M a) → Go mX10_readsNames 20 0 0 2 [(0, .ref 170), (1, .ref 162), (2, .int (nI (k + 1)))] [] (SK, M0, N) (NamQ M N tf len n (pNamF tf len f k P p)) := by
    intro f
    induction f with
    | zero =>
      intro k P p M0 hkf hp0 hT0 hR0 hok0 hf0
      refine g_iload_n (j := 2) (pc' := 3) dX10_readsNames_2 rfl rfl ?_
      refine g_bipush (v := 6) (pc' := 5) dX10_readsNames_3 (by decide) rfl ?_
      refine g_icmp_gt (tgt := 92) (pc' := 8) dX10_readsNames_5 (by decide) rfl (fun hc => (absurd hc (nI_nlt (a := 6) (b := k + 1) (by omega) (by omega)))) (fun hc => ?_)
      have hle1 := pNum_le (tf := tf) hp0
      refine g_aload_n (j := 0) (pc' := 9) dX10_readsNames_8 rfl rfl ?_
      refine g_callV (my := mX10_number) (k := 170) (st := []) (av := []) (mcr := 0) (msr := 0) (mc := 0) (ms := 0) (pc' := 12) dX10_readsNames_9 kX10_number wX10_27 rfl ⟨rfl, rfl⟩ rfl (Nat.le_of_ble_eq_true rfl) (by decide) (s_number hl hp0 htf hT0) rfl ?_
      rintro _ _ ⟨M1, rfl, rfl, hT1, hf1⟩
      show Go mX10_readsNames _ _ _ 12 [(0, .ref 170), (1, .ref 162), (2, .int (nI (k + 1)))] [.int (optI (-1) (pNum tf len p).1)] (SK, M1, N) _
      generalize hq1 : pNum tf len p = q1 at hT1 hle1
      obtain ⟨o1, p1⟩ := q1
      dsimp only at hT1 hle1
      have hp1 : p1 ≤ len := hle1
      cases o1 with
      | none =>
        show Go mX10_readsNames _ _ _ 12 [(0, .ref 170), (1, .ref 162), (2, .int (nI (k + 1)))] [.int (-1)] (SK, M1, N) _
        refine g_istore_n (L' := [(0, .ref 170), (1, .ref 162), (2, .int (nI (k + 1))), (3, .int (-1))]) (pc' := 13) dX10_readsNames_12 (by decide) rfl rfl ?_
        refine g_iload_n (j := 3) (pc' := 14) dX10_readsNames_13 rfl rfl ?_
        refine g_iconst (v := (-1)) (pc' := 15) dX10_readsNames_14 (by decide) rfl ?_
        refine g_icmp_eq (tgt := 28) (pc' := 18) dX10_readsNames_15 (by decide) rfl (fun hc => ?_) (fun hc => (absurd rfl hc))
        rw [show pNamF tf len (0) k P p = (none, p1) by simp only [pNamF, pNam, hq1]]
        refine g_iconst (v := 0) (pc' := 29) dX10_readsNames_28 (by decide) rfl ?_
        exact g_iret dX10_readsNames_29 rfl (by decide) (⟨M1, rfl, hT1, hp1, fun a a1 a2 => by rw [hf1 a a1]; exact hf0 a a1 a2, rfl⟩)
      | some x =>
        show Go mX10_readsNames _ _ _ 12 [(0, .ref 170), (1, .ref 162), (2, .int (nI (k + 1)))] [.int (nI x)] (SK, M1, N) _
        have ha := pNum_b hq1
        refine g_istore_n (L' := [(0, .ref 170), (1, .ref 162), (2, .int (nI (k + 1))), (3, .int (nI x))]) (pc' := 13) dX10_readsNames_12 (by decide) rfl rfl ?_
        refine g_iload_n (j := 3) (pc' := 14) dX10_readsNames_13 rfl rfl ?_
        refine g_iconst (v := (-1)) (pc' := 15) dX10_readsNames_14 (by decide) rfl ?_
        refine g_icmp_eq (tgt := 28) (pc' := 18) dX10_readsNames_15 (by decide) rfl (fun hc => (absurd hc (nI_ne_m1 (by omega)))) (fun hc => ?_)
        have hle2 := (pOne_le (tf := tf) (i := 5) hp1).1
        refine g_aload_n (j := 0) (pc' := 19) dX10_readsNames_18 rfl rfl ?_
        refine g_ldcS (i := 5) (pc' := 21) dX10_readsNames_19 (by decide) rfl rfl rfl ?_
        refine g_callV (my := mX10_oneOf) (k := 170) (st := []) (av := [.ref (2000000 + 5)]) (mcr := 0) (msr := 0) (mc := 0) (ms := 0) (pc' := 24) dX10_readsNames_21 kX10_oneOf wX10_36 rfl ⟨rfl, rfl⟩ rfl (Nat.le_of_ble_eq_true rfl) (by decide) (s_oneOf hl hp1 htf hT1 (i := 5) (by omega)) rfl ?_
        rintro _ _ ⟨M2, rfl, rfl, hT2, hf2⟩
        show Go mX10_readsNames _ _ _ 24 [(0, .ref 170), (1, .ref 162), (2, .int (nI (k + 1))), (3, .int (nI x))] [.int (optI (-1) (pOne tf len 5 p1).1)] (SK, M2, N) _
        generalize hq2 : pOne tf len 5 p1 = q2 at hT2 hle2
        obtain ⟨o2, p2⟩ := q2
        dsimp only at hT2 hle2
        have hp2 : p2 ≤ len := hle2
        cases o2 with
        | none =>
          show Go mX10_readsNames _ _ _ 24 [(0, .ref 170), (1, .ref 162), (2, .int (nI (k + 1))), (3, .int (nI x))] [.int (-1)] (SK, M2, N) _
          refine g_iconst (v := (-1)) (pc' := 25) dX10_readsNames_24 (by decide) rfl ?_
          refine g_icmp_ne (tgt := 30) (pc' := 28) dX10_readsNames_25 (by decide) rfl (fun hc => (absurd rfl hc)) (fun hc => ?_)
          rw [show pNamF tf len (0) k P p = (none, p2) by simp only [pNamF, pNam, hq1, hq2]]
          refine g_iconst (v := 0) (pc' := 29) dX10_readsNames_28 (by decide) rfl ?_
          exact g_iret dX10_readsNames_29 rfl (by decide) (⟨M2, rfl, hT2, hp2, fun a a1 a2 => by rw [hf2 a a1]; rw [hf1 a a1]; exact hf0 a a1 a2, rfl⟩)
        | some y =>
          show Go mX10_readsNames _ _ _ 24 [(0, .ref 170), (1, .ref 162), (2, .int (nI (k + 1))), (3, .int (nI x))] [.int (nI y)] (SK, M2, N) _
          have hb := pOne_b hq2 1 (by decide)
          refine g_iconst (v := (-1)) (pc' := 25) dX10_readsNames_24 (by decide) rfl ?_
          refine g_icmp_ne (tgt := 30) (pc' := 28) dX10_readsNames_25 (by decide) rfl (fun hc => ?_) (fun hc => (absurd hc (nI_ne_m1 (by omega))))
          have hle3 := pNum_le (tf := tf) hp2
          refine g_aload_n (j := 0) (pc' := 31) dX10_readsNames_30 rfl rfl ?_
          refine g_callV (my := mX10_number) (k := 170) (st := []) (av := []) (mcr := 0) (msr := 0) (mc := 0) (ms := 0) (pc' := 34) dX10_readsNames_31 kX10_number wX10_27 rfl ⟨rfl, rfl⟩ rfl (Nat.le_of_ble_eq_true rfl) (by decide) (s_number hl hp2 htf hT2) rfl ?_
          rintro _ _ ⟨M3, rfl, rfl, hT3, hf3⟩
          show Go mX10_readsNames _ _ _ 34 [(0, .ref 170), (1, .ref 162), (2, .int (nI (k + 1))), (3, .int (nI x))] [.int (optI (-1) (pNum tf len p2).1)] (SK, M3, N) _
          generalize hq3 : pNum tf len p2 = q3 at hT3 hle3
          obtain ⟨o3, p3⟩ := q3
          dsimp only at hT3 hle3
          have hp3 : p3 ≤ len := hle3
          cases o3 with
          | none =>
            show Go mX10_readsNames _ _ _ 34 [(0, .ref 170), (1, .ref 162), (2, .int (nI (k + 1))), (3, .int (nI x))] [.int (-1)] (SK, M3, N) _
            refine g_istore (L' := [(0, .ref 170), (1, .ref 162), (2, .int (nI (k + 1))), (3, .int (nI x)), (4, .int (-1))]) (pc' := 36) dX10_readsNames_34 (by decide) rfl rfl ?_
            refine g_iload (j := 4) (pc' := 38) dX10_readsNames_36 rfl rfl ?_
            refine g_iconst (v := (-1)) (pc' := 39) dX10_readsNames_38 (by decide) rfl ?_
            refine g_icmp_ne (tgt := 44) (pc' := 42) dX10_readsNames_39 (by decide) rfl (fun hc => (absurd rfl hc)) (fun hc => ?_)
            rw [show pNamF tf len (0) k P p = (none, p3) by simp only [pNamF, pNam, hq1, hq2, hq3]]
            refine g_iconst (v := 0) (pc' := 43) dX10_readsNames_42 (by decide) rfl ?_
            exact g_iret dX10_readsNames_43 rfl (by decide) (⟨M3, rfl, hT3, hp3, fun a a1 a2 => by rw [hf3 a a1]; rw [hf2 a a1]; rw [hf1 a a1]; exact hf0 a a1 a2, rfl⟩)
          | some z =>
            show Go mX10_readsNames _ _ _ 34 [(0, .ref 170), (1, .ref 162), (2, .int (nI (k + 1))), (3, .int (nI x))] [.int (nI z)] (SK, M3, N) _
            have hc20 := pNum_b hq3
            refine g_istore (L' := [(0, .ref 170), (1, .ref 162), (2, .int (nI (k + 1))), (3, .int (nI x)), (4, .int (nI z))]) (pc' := 36) dX10_readsNames_34 (by decide) rfl rfl ?_
            refine g_iload (j := 4) (pc' := 38) dX10_readsNames_36 rfl rfl ?_
            refine g_iconst (v := (-1)) (pc' := 39) dX10_readsNames_38 (by decide) rfl ?_
            refine g_icmp_ne (tgt := 44) (pc' := 42) dX10_readsNames_39 (by decide) rfl (fun hc => ?_) (fun hc => (absurd hc (nI_ne_m1 (by omega))))
            have e3 : ∀ a, a ≠ 170 → M3 a = M0 a := fun a ha => by rw [hf3 a ha, hf2 a ha, hf1 a ha]
            have hR3 := hR0.keep (fun a a1 a2 => e3 a (by omega))
            refine g_aload_n (j := 1) (pc' := 45) dX10_readsNames_44 rfl rfl ?_
            refine g_iload_n (j := 3) (pc' := 46) dX10_readsNames_45 rfl rfl ?_
            refine g_iload (j := 4) (pc' := 48) dX10_readsNames_46 rfl rfl ?_
            refine g_callV (my := mX4_addName) (k := 162) (st := []) (av := [.int (nI x), .int (nI z)]) (mcr := 0) (msr := 0) (mc := 0) (ms := 0) (pc' := 51) dX10_readsNames_48 kX4_addName wX10_61 rfl ⟨rfl, rfl⟩ rfl (Nat.le_of_ble_eq_true rfl) (by decide) (s_addName (nI x) (nI z) par162 hR3.2.1 (by omega)) rfl ?_
            rintro _ _ ⟨M4, rfl, rfl, g0, g1, g2, g3⟩
            show Go mX10_readsNames _ _ _ 51 [(0, .ref 170), (1, .ref 162), (2, .int (nI (k + 1))), (3, .int (nI x)), (4, .int (nI z))] [] (SK, M4, N) _
            have hT4 : TapeC M4 tf len p3 := hT3.keep (g3 170 (by omega) (by omega) (by omega)) (g3 171 (by omega) (by omega) (by omega))
            have hR4 := hR3.name (by omega) hok0.1 g0 g1 g2 g3
            have hok4 := hok0.name (show k < 6 by omega) ha hc20
            have hf4 : ∀ a, a ≠ 170 → (a < 162 ∨ 170 ≤ a) → M4 a = M a := fun a a1 a2 => by rw [g3 a (by omega) (by omega) (by omega), e3 a a1]; exact hf0 a a1 a2
            have hsk := skB_le (tf := tf) hp3
            refine g_aload_n (j := 0) (pc' := 52) dX10_readsNames_51 rfl rfl ?_
            refine g_callV (my := mX10_skipBlanks) (k := 170) (st := []) (av := []) (mcr := 0) (msr := 0) (mc := 0) (ms := 0) (pc' := 55) dX10_readsNames_52 kX10_skipBlanks wX10_65 rfl ⟨rfl, rfl⟩ rfl (Nat.le_of_ble_eq_true rfl) (by decide) (s_skip hl hp3 htf hT4) rfl ?_
            rintro _ _ ⟨M5, rfl, rfl, hT5, hf5⟩
            show Go mX10_readsNames _ _ _ 55 [(0, .ref 170), (1, .ref 162), (2, .int (nI (k + 1))), (3, .int (nI x)), (4, .int (nI z))] [] (SK, M5, N) _
            generalize hs : skB tf len p3 = p5 at hT5 hsk
            have hp5 : p5 ≤ len := hsk.2
            have hR5 := hR4.keep (fun a a1 a2 => hf5 a (by omega))
            refine g_aload_n (j := 0) (pc' := 56) dX10_readsNames_55 rfl rfl ?_
            refine g_getI (pc' := 59) dX10_readsNames_56 fX10_19 rfl rfl rfl ?_
            refine g_top (y := nI p5) (hT5.2.1) ?_
            refine g_aload_n (j := 0) (pc' := 60) dX10_readsNames_59 rfl rfl ?_
            refine g_getI (pc' := 63) dX10_readsNames_60 fX10_15 rfl rfl rfl ?_
            refine g_top (y := nI len) (hT5.1) ?_
            refine g_icmp_lt (tgt := 68) (pc' := 66) dX10_readsNames_63 (by decide) rfl (fun hc => ?_) (fun hc => ?_)
            · have hlt : ¬ len ≤ p5 := Nat.not_le_of_lt ((nI_ltI (by omega) (by omega)).mp hc)
              refine g_iload_n (j := 2) (pc' := 69) dX10_readsNames_68 rfl rfl ?_
              refine g_bipush (v := 6) (pc' := 71) dX10_readsNames_69 (by decide) rfl ?_
              obtain rfl : k = 5 := by omega
              refine g_icmp_eq (tgt := 84) (pc' := 74) dX10_readsNames_71 (by decide) rfl (fun hc => ?_) (fun hc => (absurd rfl hc))
              rw [show pNamF tf len (0) 5 P p = (none, p5) by simp only [pNamF, pNam, hq1, hq2, hq3, hs]; rw [if_neg hlt]]
              refine g_iconst (v := 0) (pc' := 85) dX10_readsNames_84 (by decide) rfl ?_
              exact g_iret dX10_readsNames_85 rfl (by decide) (⟨M5, rfl, hT5, hp5, fun a a1 a2 => by rw [hf5 a a1]; exact hf4 a a1 a2, rfl⟩)
            · have hge : len ≤ p5 := Nat.le_of_not_lt (fun q => hc (nI_lt q (by omega)))
              rw [show pNamF tf len (0) k P p = (some (k + 1, nameP P k (nI x) (nI z)), p5) by simp only [pNamF, pNam, hq1, hq2, hq3, hs]; rw [if_pos hge]]
              refine g_iconst (v := 1) (pc' := 67) dX10_readsNames_66 (by decide) rfl ?_
              exact g_iret dX10_readsNames_67 rfl (by decide) (⟨M5, rfl, hT5, hp5, fun a a1 a2 => by rw [hf5 a a1]; exact hf4 a a1 a2, rfl, hR5, hok4⟩)
    | succ f ih =>
      intro k P p M0 hkf hp0 hT0 hR0 hok0 hf0
      refine g_iload_n (j := 2) (pc' := 3) dX10_readsNames_2 rfl rfl ?_
      refine g_bipush (v := 6) (pc' := 5) dX10_readsNames_3 (by decide) rfl ?_
      refine g_icmp_gt (tgt := 92) (pc' := 8) dX10_readsNames_5 (by decide) rfl (fun hc => (absurd hc (nI_nlt (a := 6) (b := k + 1) (by omega) (by omega)))) (fun hc => ?_)
      have hle1 := pNum_le (tf := tf) hp0
      refine g_aload_n (j := 0) (pc' := 9) dX10_readsNames_8 rfl rfl ?_
      refine g_callV (my := mX10_number) (k := 170) (st := []) (av := []) (mcr := 0) (msr := 0) (mc := 0) (ms := 0) (pc' := 12) dX10_readsNames_9 kX10_number wX10_27 rfl ⟨rfl, rfl⟩ rfl (Nat.le_of_ble_eq_true rfl) (by decide) (s_number hl hp0 htf hT0) rfl ?_
      rintro _ _ ⟨M1, rfl, rfl, hT1, hf1⟩
      show Go mX10_readsNames _ _ _ 12 [(0, .ref 170), (1, .ref 162), (2, .int (nI (k + 1)))] [.int (optI (-1) (pNum tf len p).1)] (SK, M1, N) _
      generalize hq1 : pNum tf len p = q1 at hT1 hle1
      obtain ⟨o1, p1⟩ := q1
      dsimp only at hT1 hle1
      have hp1 : p1 ≤ len := hle1
      cases o1 with
      | none =>
        show Go mX10_readsNames _ _ _ 12 [(0, .ref 170), (1, .ref 162), (2, .int (nI (k + 1)))] [.int (-1)] (SK, M1, N) _
        refine g_istore_n (L' := [(0, .ref 170), (1, .ref 162), (2, .int (nI (k + 1))), (3, .int (-1))]) (pc' := 13) dX10_readsNames_12 (by decide) rfl rfl ?_
        refine g_iload_n (j := 3) (pc' := 14) dX10_readsNames_13 rfl rfl ?_
        refine g_iconst (v := (-1)) (pc' := 15) dX10_readsNames_14 (by decide) rfl ?_
        refine g_icmp_eq (tgt := 28) (pc' := 18) dX10_readsNames_15 (by decide) rfl (fun hc => ?_) (fun hc => (absurd rfl hc))
        rw [show pNamF tf len (f + 1) k P p = (none, p1) by simp only [pNamF, pNam, hq1]]
        refine g_iconst (v := 0) (pc' := 29) dX10_readsNames_28 (by decide) rfl ?_
        exact g_iret dX10_readsNames_29 rfl (by decide) (⟨M1, rfl, hT1, hp1, fun a a1 a2 => by rw [hf1 a a1]; exact hf0 a a1 a2, rfl⟩)
      | some x =>
        show Go mX10_readsNames _ _ _ 12 [(0, .ref 170), (1, .ref 162), (2, .int (nI (k + 1)))] [.int (nI x)] (SK, M1, N) _
        have ha := pNum_b hq1
        refine g_istore_n (L' := [(0, .ref 170), (1, .ref 162), (2, .int (nI (k + 1))), (3, .int (nI x))]) (pc' := 13) dX10_readsNames_12 (by decide) rfl rfl ?_
        refine g_iload_n (j := 3) (pc' := 14) dX10_readsNames_13 rfl rfl ?_
        refine g_iconst (v := (-1)) (pc' := 15) dX10_readsNames_14 (by decide) rfl ?_
        refine g_icmp_eq (tgt := 28) (pc' := 18) dX10_readsNames_15 (by decide) rfl (fun hc => (absurd hc (nI_ne_m1 (by omega)))) (fun hc => ?_)
        have hle2 := (pOne_le (tf := tf) (i := 5) hp1).1
        refine g_aload_n (j := 0) (pc' := 19) dX10_readsNames_18 rfl rfl ?_
        refine g_ldcS (i := 5) (pc' := 21) dX10_readsNames_19 (by decide) rfl rfl rfl ?_
        refine g_callV (my := mX10_oneOf) (k := 170) (st := []) (av := [.ref (2000000 + 5)]) (mcr := 0) (msr := 0) (mc := 0) (ms := 0) (pc' := 24) dX10_readsNames_21 kX10_oneOf wX10_36 rfl ⟨rfl, rfl⟩ rfl (Nat.le_of_ble_eq_true rfl) (by decide) (s_oneOf hl hp1 htf hT1 (i := 5) (by omega)) rfl ?_
        rintro _ _ ⟨M2, rfl, rfl, hT2, hf2⟩
        show Go mX10_readsNames _ _ _ 24 [(0, .ref 170), (1, .ref 162), (2, .int (nI (k + 1))), (3, .int (nI x))] [.int (optI (-1) (pOne tf len 5 p1).1)] (SK, M2, N) _
        generalize hq2 : pOne tf len 5 p1 = q2 at hT2 hle2
        obtain ⟨o2, p2⟩ := q2
        dsimp only at hT2 hle2
        have hp2 : p2 ≤ len := hle2
        cases o2 with
        | none =>
          show Go mX10_readsNames _ _ _ 24 [(0, .ref 170), (1, .ref 162), (2, .int (nI (k + 1))), (3, .int (nI x))] [.int (-1)] (SK, M2, N) _
          refine g_iconst (v := (-1)) (pc' := 25) dX10_readsNames_24 (by decide) rfl ?_
          refine g_icmp_ne (tgt := 30) (pc' := 28) dX10_readsNames_25 (by decide) rfl (fun hc => (absurd rfl hc)) (fun hc => ?_)
          rw [show pNamF tf len (f + 1) k P p = (none, p2) by simp only [pNamF, pNam, hq1, hq2]]
          refine g_iconst (v := 0) (pc' := 29) dX10_readsNames_28 (by decide) rfl ?_
          exact g_iret dX10_readsNames_29 rfl (by decide) (⟨M2, rfl, hT2, hp2, fun a a1 a2 => by rw [hf2 a a1]; rw [hf1 a a1]; exact hf0 a a1 a2, rfl⟩)
        | some y =>
          show Go mX10_readsNames _ _ _ 24 [(0, .ref 170), (1, .ref 162), (2, .int (nI (k + 1))), (3, .int (nI x))] [.int (nI y)] (SK, M2, N) _
          have hb := pOne_b hq2 1 (by decide)
          refine g_iconst (v := (-1)) (pc' := 25) dX10_readsNames_24 (by decide) rfl ?_
          refine g_icmp_ne (tgt := 30) (pc' := 28) dX10_readsNames_25 (by decide) rfl (fun hc => ?_) (fun hc => (absurd hc (nI_ne_m1 (by omega))))
          have hle3 := pNum_le (tf := tf) hp2
          refine g_aload_n (j := 0) (pc' := 31) dX10_readsNames_30 rfl rfl ?_
          refine g_callV (my := mX10_number) (k := 170) (st := []) (av := []) (mcr := 0) (msr := 0) (mc := 0) (ms := 0) (pc' := 34) dX10_readsNames_31 kX10_number wX10_27 rfl ⟨rfl, rfl⟩ rfl (Nat.le_of_ble_eq_true rfl) (by decide) (s_number hl hp2 htf hT2) rfl ?_
          rintro _ _ ⟨M3, rfl, rfl, hT3, hf3⟩
          show Go mX10_readsNames _ _ _ 34 [(0, .ref 170), (1, .ref 162), (2, .int (nI (k + 1))), (3, .int (nI x))] [.int (optI (-1) (pNum tf len p2).1)] (SK, M3, N) _
          generalize hq3 : pNum tf len p2 = q3 at hT3 hle3
          obtain ⟨o3, p3⟩ := q3
          dsimp only at hT3 hle3
          have hp3 : p3 ≤ len := hle3
          cases o3 with
          | none =>
            show Go mX10_readsNames _ _ _ 34 [(0, .ref 170), (1, .ref 162), (2, .int (nI (k + 1))), (3, .int (nI x))] [.int (-1)] (SK, M3, N) _
            refine g_istore (L' := [(0, .ref 170), (1, .ref 162), (2, .int (nI (k + 1))), (3, .int (nI x)), (4, .int (-1))]) (pc' := 36) dX10_readsNames_34 (by decide) rfl rfl ?_
            refine g_iload (j := 4) (pc' := 38) dX10_readsNames_36 rfl rfl ?_
            refine g_iconst (v := (-1)) (pc' := 39) dX10_readsNames_38 (by decide) rfl ?_
            refine g_icmp_ne (tgt := 44) (pc' := 42) dX10_readsNames_39 (by decide) rfl (fun hc => (absurd rfl hc)) (fun hc => ?_)
            rw [show pNamF tf len (f + 1) k P p = (none, p3) by simp only [pNamF, pNam, hq1, hq2, hq3]]
            refine g_iconst (v := 0) (pc' := 43) dX10_readsNames_42 (by decide) rfl ?_
            exact g_iret dX10_readsNames_43 rfl (by decide) (⟨M3, rfl, hT3, hp3, fun a a1 a2 => by rw [hf3 a a1]; rw [hf2 a a1]; rw [hf1 a a1]; exact hf0 a a1 a2, rfl⟩)
          | some z =>
            show Go mX10_readsNames _ _ _ 34 [(0, .ref 170), (1, .ref 162), (2, .int (nI (k + 1))), (3, .int (nI x))] [.int (nI z)] (SK, M3, N) _
            have hc20 := pNum_b hq3
            refine g_istore (L' := [(0, .ref 170), (1, .ref 162), (2, .int (nI (k + 1))), (3, .int (nI x)), (4, .int (nI z))]) (pc' := 36) dX10_readsNames_34 (by decide) rfl rfl ?_
            refine g_iload (j := 4) (pc' := 38) dX10_readsNames_36 rfl rfl ?_
            refine g_iconst (v := (-1)) (pc' := 39) dX10_readsNames_38 (by decide) rfl ?_
            refine g_icmp_ne (tgt := 44) (pc' := 42) dX10_readsNames_39 (by decide) rfl (fun hc => ?_) (fun hc => (absurd hc (nI_ne_m1 (by omega))))
            have e3 : ∀ a, a ≠ 170 → M3 a = M0 a := fun a ha => by rw [hf3 a ha, hf2 a ha, hf1 a ha]
            have hR3 := hR0.keep (fun a a1 a2 => e3 a (by omega))
            refine g_aload_n (j := 1) (pc' := 45) dX10_readsNames_44 rfl rfl ?_
            refine g_iload_n (j := 3) (pc' := 46) dX10_readsNames_45 rfl rfl ?_
            refine g_iload (j := 4) (pc' := 48) dX10_readsNames_46 rfl rfl ?_
            refine g_callV (my := mX4_addName) (k := 162) (st := []) (av := [.int (nI x), .int (nI z)]) (mcr := 0) (msr := 0) (mc := 0) (ms := 0) (pc' := 51) dX10_readsNames_48 kX4_addName wX10_61 rfl ⟨rfl, rfl⟩ rfl (Nat.le_of_ble_eq_true rfl) (by decide) (s_addName (nI x) (nI z) par162 hR3.2.1 (by omega)) rfl ?_
            rintro _ _ ⟨M4, rfl, rfl, g0, g1, g2, g3⟩
            show Go mX10_readsNames _ _ _ 51 [(0, .ref 170), (1, .ref 162), (2, .int (nI (k + 1))), (3, .int (nI x)), (4, .int (nI z))] [] (SK, M4, N) _
            have hT4 : TapeC M4 tf len p3 := hT3.keep (g3 170 (by omega) (by omega) (by omega)) (g3 171 (by omega) (by omega) (by omega))
            have hR4 := hR3.name (by omega) hok0.1 g0 g1 g2 g3
            have hok4 := hok0.name (show k < 6 by omega) ha hc20
            have hf4 : ∀ a, a ≠ 170 → (a < 162 ∨ 170 ≤ a) → M4 a = M a := fun a a1 a2 => by rw [g3 a (by omega) (by omega) (by omega), e3 a a1]; exact hf0 a a1 a2
            have hsk := skB_le (tf := tf) hp3
            refine g_aload_n (j := 0) (pc' := 52) dX10_readsNames_51 rfl rfl ?_
            refine g_callV (my := mX10_skipBlanks) (k := 170) (st := []) (av := []) (mcr := 0) (msr := 0) (mc := 0) (ms := 0) (pc' := 55) dX10_readsNames_52 kX10_skipBlanks wX10_65 rfl ⟨rfl, rfl⟩ rfl (Nat.le_of_ble_eq_true rfl) (by decide) (s_skip hl hp3 htf hT4) rfl ?_
            rintro _ _ ⟨M5, rfl, rfl, hT5, hf5⟩
            show Go mX10_readsNames _ _ _ 55 [(0, .ref 170), (1, .ref 162), (2, .int (nI (k + 1))), (3, .int (nI x)), (4, .int (nI z))] [] (SK, M5, N) _
            generalize hs : skB tf len p3 = p5 at hT5 hsk
            have hp5 : p5 ≤ len := hsk.2
            have hR5 := hR4.keep (fun a a1 a2 => hf5 a (by omega))
            refine g_aload_n (j := 0) (pc' := 56) dX10_readsNames_55 rfl rfl ?_
            refine g_getI (pc' := 59) dX10_readsNames_56 fX10_19 rfl rfl rfl ?_
            refine g_top (y := nI p5) (hT5.2.1) ?_
            refine g_aload_n (j := 0) (pc' := 60) dX10_readsNames_59 rfl rfl ?_
            refine g_getI (pc' := 63) dX10_readsNames_60 fX10_15 rfl rfl rfl ?_
            refine g_top (y := nI len) (hT5.1) ?_
            refine g_icmp_lt (tgt := 68) (pc' := 66) dX10_readsNames_63 (by decide) rfl (fun hc => ?_) (fun hc => ?_)
            · have hlt : ¬ len ≤ p5 := Nat.not_le_of_lt ((nI_ltI (by omega) (by omega)).mp hc)
              refine g_iload_n (j := 2) (pc' := 69) dX10_readsNames_68 rfl rfl ?_
              refine g_bipush (v := 6) (pc' := 71) dX10_readsNames_69 (by decide) rfl ?_
              refine g_icmp_eq (tgt := 84) (pc' := 74) dX10_readsNames_71 (by decide) rfl (fun hc => (absurd hc (fun q => absurd ((nI_eq (a := k + 1) (b := 6) (by omega) (by omega)).mp q) (by omega)))) (fun hc => ?_)
              have hle6 := (pOne_le (tf := tf) (i := 6) hp5).1
              refine g_aload_n (j := 0) (pc' := 75) dX10_readsNames_74 rfl rfl ?_
              refine g_ldcS (i := 6) (pc' := 77) dX10_readsNames_75 (by decide) rfl rfl rfl ?_
              refine g_callV (my := mX10_oneOf) (k := 170) (st := []) (av := [.ref (2000000 + 6)]) (mcr := 0) (msr := 0) (mc := 0) (ms := 0) (pc' := 80) dX10_readsNames_77 kX10_oneOf wX10_36 rfl ⟨rfl, rfl⟩ rfl (Nat.le_of_ble_eq_true rfl) (by decide) (s_oneOf hl hp5 htf hT5 (i := 6) (by omega)) rfl ?_
              rintro _ _ ⟨M6, rfl, rfl, hT6, hf6⟩
              show Go mX10_readsNames _ _ _ 80 [(0, .ref 170), (1, .ref 162), (2, .int (nI (k + 1))), (3, .int (nI x)), (4, .int (nI z))] [.int (optI (-1) (pOne tf len 6 p5).1)] (SK, M6, N) _
              generalize hq6 : pOne tf len 6 p5 = q6 at hT6 hle6
              obtain ⟨o6, p6⟩ := q6
              dsimp only at hT6 hle6
              have hp6 : p6 ≤ len := hle6
              cases o6 with
              | none =>
                show Go mX10_readsNames _ _ _ 80 [(0, .ref 170), (1, .ref 162), (2, .int (nI (k + 1))), (3, .int (nI x)), (4, .int (nI z))] [.int (-1)] (SK, M6, N) _
                refine g_iconst (v := (-1)) (pc' := 81) dX10_readsNames_80 (by decide) rfl ?_
                refine g_icmp_ne (tgt := 86) (pc' := 84) dX10_readsNames_81 (by decide) rfl (fun hc => (absurd rfl hc)) (fun hc => ?_)
                rw [show pNamF tf len (f + 1) k P p = (none, p6) by simp only [pNamF, pNam, hq1, hq2, hq3, hs]; rw [if_neg hlt, hq6]]
                refine g_iconst (v := 0) (pc' := 85) dX10_readsNames_84 (by decide) rfl ?_
                exact g_iret dX10_readsNames_85 rfl (by decide) (⟨M6, rfl, hT6, hp6, fun a a1 a2 => by rw [hf6 a a1, hf5 a a1]; exact hf4 a a1 a2, rfl⟩)
              | some u =>
                show Go mX10_readsNames _ _ _ 80 [(0, .ref 170), (1, .ref 162), (2, .int (nI (k + 1))), (3, .int (nI x)), (4, .int (nI z))] [.int (nI u)] (SK, M6, N) _
                have hu := pOne_b hq6 1 (by decide)
                refine g_iconst (v := (-1)) (pc' := 81) dX10_readsNames_80 (by decide) rfl ?_
                refine g_icmp_ne (tgt := 86) (pc' := 84) dX10_readsNames_81 (by decide) rfl (fun hc => ?_) (fun hc => (absurd hc (nI_ne_m1 (by omega))))
                refine g_iinc (j := 2) (v := nI (k + 1 + 1)) (L' := [(0, .ref 170), (1, .ref 162), (2, .int (nI (k + 1 + 1))), (3, .int (nI x)), (4, .int (nI z))]) (pc' := 89) dX10_readsNames_86 rfl (nI_1 (k + 1)) (by decide) rfl rfl ?_
                refine g_goto (tgt := 2) dX10_readsNames_89 (by decide) ?_
                refine g_less (L' := [(0, .ref 170), (1, .ref 162), (2, .int (nI (k + 1 + 1)))]) [0, 1, 2] rfl ?_
                rw [show pNamF tf len (f + 1) k P p = pNamF tf len f (k + 1) (nameP P k (nI x) (nI z)) p6 by simp only [pNamF, pNam, hq1, hq2, hq3, hs]; rw [if_neg hlt, hq6]]
                exact ih (k + 1) _ p6 M6 (by omega) hp6 hT6 (hR5.keep (fun a a1 a2 => hf6 a (by omega))) hok4 (fun a a1 a2 => by rw [hf6 a a1, hf5 a a1]; exact hf4 a a1 a2)
            · have hge : len ≤ p5 := Nat.le_of_not_lt (fun q => hc (nI_lt q (by omega)))
              rw [show pNamF tf len (f + 1) k P p = (some (k + 1, nameP P k (nI x) (nI z)), p5) by simp only [pNamF, pNam, hq1, hq2, hq3, hs]; rw [if_pos hge]]
              refine g_iconst (v := 1) (pc' := 67) dX10_readsNames_66 (by decide) rfl ?_
              exact g_iret dX10_readsNames_67 rfl (by decide) (⟨M5, rfl, hT5, hp5, fun a a1 a2 => by rw [hf5 a a1]; exact hf4 a a1 a2, rfl, hR5, hok4⟩)
  refine g_iconst (v := 1) (pc' := 1) dX10_readsNames_0 (by decide) rfl ?_
  refine g_istore_n (L' := [(0, .ref 170), (1, .ref 162), (2, .int 1)]) (pc' := 2) dX10_readsNames_1 (by decide) rfl rfl ?_
  exact loop 5 0 P p M rfl hp hT hR hP (fun _ _ _ => rfl)
/-- how the reading of a parish ends -/
def RdQ (M : Nat → Nat → Int32) (N : Nat → Nat → Int64) (tf : Nat → Nat) (len : Nat) (e : Option (Nat × Nat × (Nat → Int32)) × Nat) : AQ := fun r h' => ∃ M', h' = (SK, M', N) ∧ TapeC M' tf len e.2 ∧ e.2 ≤ len ∧ (∀ a, a ≠ 170 → (a < 162 ∨ 170 ≤ a) → M' a = M a) ∧ match e.1 with
  | none => r = some (.int 0)
  | some t => r = some (.int 1) ∧ TrC M' t.1 t.2.1 t.2.2 ∧ OkP t.1 t.2.1 t.2.2
set_option maxRecDepth 100000 in
set_option maxHeartbeats 1000000 in
theorem s_reads {M : Nat → Nat → Int32} {N : Nat → Nat → Int64} {tf : Nat → Nat} {len : Nat} (hl : len ≤ 80) (htf : ∀ j, j < len → tf j < 128) (h1 : M 170 1 = nI len) (h2 : ∀ j, j < len → M 171 j = nI (tf j)) (d : Int32) : Run mX10_reads 25 0 0 [.ref 170, .ref 162] (SK, M, N) (RdQ M N tf len (pRead tf len d)) := by
  refine Run.of (by decide) (Nat.le_of_ble_eq_true rfl) ?_
  refine g_aload_n (j := 0) (pc' := 1) dX10_reads_0 rfl rfl ?_
  refine g_iconst (v := 0) (pc' := 2) dX10_reads_1 (by decide) rfl ?_
  refine g_putI (pc' := 5) dX10_reads_2 fX10_19 rfl rfl ⟨rfl, rfl⟩ rfl ?_
  refine g_aload_n (j := 1) (pc' := 6) dX10_reads_5 rfl rfl ?_
  generalize hM1 : (um M 170 2 0) = M1
  have hT1 : TapeC M1 tf len 0 := ⟨by rw [← hM1, um_at2 (by omega)]; exact h1, by rw [← hM1]; exact um_at, fun j hj => by rw [← hM1, um_ne (by omega)]; exact h2 j hj⟩
  have hf1 : ∀ a, a ≠ 170 → M1 a = M a := fun a ha => by rw [← hM1, um_ne ha]
  refine g_callV (my := mX4_empty) (k := 162) (st := []) (av := []) (mcr := 0) (msr := 0) (mc := 0) (ms := 0) (pc' := 9) dX10_reads_6 kX4_empty wX10_22 rfl ⟨rfl, rfl⟩ rfl (Nat.le_of_ble_eq_true rfl) (by decide) (s_empty par162) rfl ?_
  rintro _ _ ⟨M2, rfl, rfl, e0, ef⟩
  show Go mX10_reads _ _ _ 9 [(0, .ref 170), (1, .ref 162)] [] (SK, M2, N) _
  have hT2 : TapeC M2 tf len 0 := hT1.keep (ef 170 (by omega)) (ef 171 (by omega))
  have hp2 : 0 ≤ len := by omega
  obtain ⟨p2, hp20⟩ : ∃ p2, p2 = 0 := ⟨_, rfl⟩
  rw [← hp20] at hT2 hp2
  have hle3 := pNum_le (tf := tf) hp2
  refine g_aload_n (j := 1) (pc' := 10) dX10_reads_9 rfl rfl ?_
  refine g_aload_n (j := 0) (pc' := 11) dX10_reads_10 rfl rfl ?_
  refine g_callV (my := mX10_number) (k := 170) (st := [.ref 162]) (av := []) (mcr := 0) (msr := 0) (mc := 0) (ms := 0) (pc' := 14) dX10_reads_11 kX10_number wX10_27 rfl ⟨rfl, rfl⟩ rfl (Nat.le_of_ble_eq_true rfl) (by decide) (s_number hl hp2 htf hT2) rfl ?_
  rintro _ _ ⟨M3, rfl, rfl, hT3, hf3⟩
  show Go mX10_reads _ _ _ 14 [(0, .ref 170), (1, .ref 162)] [.int (optI (-1) (pNum tf len p2).1), .ref 162] (SK, M3, N) _
  generalize hq3 : pNum tf len p2 = q3 at hT3 hle3
  obtain ⟨o3, p3⟩ := q3
  dsimp only at hT3 hle3
  have hp3 : p3 ≤ len := hle3
  refine g_putI (pc' := 17) dX10_reads_14 fX10_31 rfl rfl ⟨rfl, rfl⟩ rfl ?_
  generalize hM4 : (um M3 162 2 (optI (-1) o3)) = M4
  have hT4 : TapeC M4 tf len p3 := hT3.keep (by rw [← hM4, um_ne (by omega)]) (by rw [← hM4, um_ne (by omega)])
  have hf4 : ∀ a, a ≠ 170 → (a < 162 ∨ 170 ≤ a) → M4 a = M a := fun a a1 a2 => by rw [← hM4, um_ne (by omega), hf3 a a1, ef a (by omega), hf1 a a1]
  have h42 : M4 162 2 = optI (-1) o3 := by rw [← hM4]; exact um_at
  refine g_aload_n (j := 1) (pc' := 18) dX10_reads_17 rfl rfl ?_
  refine g_getI (pc' := 21) dX10_reads_18 fX10_31 rfl rfl rfl ?_
  refine g_top (y := optI (-1) o3) (h42) ?_
  cases o3 with
  | none =>
    show Go mX10_reads _ _ _ 21 [(0, .ref 170), (1, .ref 162)] [.int (-1)] (SK, M4, N) _
    refine g_iconst (v := (-1)) (pc' := 22) dX10_reads_21 (by decide) rfl ?_
    refine g_icmp_eq (tgt := 55) (pc' := 25) dX10_reads_22 (by decide) rfl (fun hc => ?_) (fun hc => (absurd rfl hc))
    rw [show pRead tf len d = (none, p3) by simp only [pRead, ← hp20, hq3]]
    refine g_iconst (v := 0) (pc' := 56) dX10_reads_55 (by decide) rfl ?_
    exact g_iret dX10_reads_56 rfl (by decide) (⟨M4, rfl, hT4, hp3, hf4, rfl⟩)
  | some x =>
    show Go mX10_reads _ _ _ 21 [(0, .ref 170), (1, .ref 162)] [.int (nI x)] (SK, M4, N) _
    have hs20 := pNum_b hq3
    refine g_iconst (v := (-1)) (pc' := 22) dX10_reads_21 (by decide) rfl ?_
    refine g_icmp_eq (tgt := 55) (pc' := 25) dX10_reads_22 (by decide) rfl (fun hc => (absurd hc (nI_ne_m1 (by omega)))) (fun hc => ?_)
    have hR4 : TrC M4 0 0 (emP d (nI x)) := by
      refine ⟨?_, ?_, h42, ?_, fun m hm => absurd hm (by omega), fun m hm => absurd hm (by omega)⟩
      · rw [← hM4, um_at2 (by omega), hf3 162 (by omega)]; exact e0.1
      · rw [← hM4, um_at2 (by omega), hf3 162 (by omega)]; exact e0.2.1
      · rw [← hM4, um_at2 (by omega), hf3 162 (by omega)]; exact e0.2.2.2.1
    obtain ⟨p4, hp34⟩ : ∃ p4, p4 = p3 := ⟨_, rfl⟩
    have hp4 : p4 ≤ len := by rw [hp34]; exact hp3
    rw [← hp34] at hT4
    have hle5 := (pOne_le (tf := tf) (i := 1) hp4).1
    refine g_aload_n (j := 0) (pc' := 26) dX10_reads_25 rfl rfl ?_
    refine g_ldcS (i := 1) (pc' := 28) dX10_reads_26 (by decide) rfl rfl rfl ?_
    refine g_callV (my := mX10_oneOf) (k := 170) (st := []) (av := [.ref (2000000 + 1)]) (mcr := 0) (msr := 0) (mc := 0) (ms := 0) (pc' := 31) dX10_reads_28 kX10_oneOf wX10_36 rfl ⟨rfl, rfl⟩ rfl (Nat.le_of_ble_eq_true rfl) (by decide) (s_oneOf hl hp4 htf hT4 (i := 1) (by omega)) rfl ?_
    rintro _ _ ⟨M5, rfl, rfl, hT5, hf5⟩
    show Go mX10_reads _ _ _ 31 [(0, .ref 170), (1, .ref 162)] [.int (optI (-1) (pOne tf len 1 p4).1)] (SK, M5, N) _
    generalize hq5 : pOne tf len 1 p4 = q5 at hT5 hle5
    obtain ⟨o5, p5⟩ := q5
    dsimp only at hT5 hle5
    have hp5 : p5 ≤ len := hle5
    cases o5 with
    | none =>
      show Go mX10_reads _ _ _ 31 [(0, .ref 170), (1, .ref 162)] [.int (-1)] (SK, M5, N) _
      refine g_iconst (v := (-1)) (pc' := 32) dX10_reads_31 (by decide) rfl ?_
      refine g_icmp_eq (tgt := 55) (pc' := 35) dX10_reads_32 (by decide) rfl (fun hc => ?_) (fun hc => (absurd rfl hc))
      rw [show pRead tf len d = (none, p5) by simp only [pRead, ← hp20, hq3, ← hp34, hq5]]
      refine g_iconst (v := 0) (pc' := 56) dX10_reads_55 (by decide) rfl ?_
      exact g_iret dX10_reads_56 rfl (by decide) (⟨M5, rfl, hT5, hp5, fun a a1 a2 => by rw [hf5 a a1]; exact hf4 a a1 a2, rfl⟩)
    | some u =>
      show Go mX10_reads _ _ _ 31 [(0, .ref 170), (1, .ref 162)] [.int (nI u)] (SK, M5, N) _
      have hu := pOne_b hq5 1 (by decide)
      refine g_iconst (v := (-1)) (pc' := 32) dX10_reads_31 (by decide) rfl ?_
      refine g_icmp_eq (tgt := 55) (pc' := 35) dX10_reads_32 (by decide) rfl (fun hc => (absurd hc (nI_ne_m1 (by omega)))) (fun hc => ?_)
      unfold pRead
      rw [hp20] at hq3
      rw [hp34] at hq5
      simp only [hq3, hq5]
      generalize hq6 : pMenF tf len 5 0 (emP d (nI x)) p5 = q6
      obtain ⟨o6, p6⟩ := q6
      have hrun := s_readsMen (N := N) hl hp5 htf hT5 (hR4.keep (fun a a1 a2 => hf5 a (by omega))) (OkP.nobody d (nI x))
      rw [hq6] at hrun
      cases o6 with
      | none =>
        refine g_aload_n (j := 0) (pc' := 36) dX10_reads_35 rfl rfl ?_
        refine g_aload_n (j := 1) (pc' := 37) dX10_reads_36 rfl rfl ?_
        refine g_callV (my := mX10_readsMen) (k := 170) (st := []) (av := [.ref 162]) (mcr := 0) (msr := 0) (mc := 0) (ms := 0) (pc' := 40) dX10_reads_37 kX10_readsMen wX10_40 rfl ⟨rfl, rfl⟩ rfl (Nat.le_of_ble_eq_true rfl) (by decide) (hrun) rfl ?_
        rintro _ _ ⟨M6, rfl, hT6, hp6, hf6, rfl⟩
        show Go mX10_reads _ _ _ 40 [(0, .ref 170), (1, .ref 162)] [.int 0] (SK, M6, N) _
        refine g_if_eq (tgt := 55) (pc' := 43) dX10_reads_40 (by decide) rfl (fun _ => ?_) (fun hc => absurd rfl hc)
        refine g_iconst (v := 0) (pc' := 56) dX10_reads_55 (by decide) rfl ?_
        exact g_iret dX10_reads_56 rfl (by decide) (⟨M6, rfl, hT6, hp6, fun a a1 a2 => by rw [hf6 a a1 a2, hf5 a a1]; exact hf4 a a1 a2, rfl⟩)
      | some t =>
        refine g_aload_n (j := 0) (pc' := 36) dX10_reads_35 rfl rfl ?_
        refine g_aload_n (j := 1) (pc' := 37) dX10_reads_36 rfl rfl ?_
        refine g_callV (my := mX10_readsMen) (k := 170) (st := []) (av := [.ref 162]) (mcr := 0) (msr := 0) (mc := 0) (ms := 0) (pc' := 40) dX10_reads_37 kX10_readsMen wX10_40 rfl ⟨rfl, rfl⟩ rfl (Nat.le_of_ble_eq_true rfl) (by decide) (hrun) rfl ?_
        rintro _ _ ⟨M6, rfl, hT6, hp6, hf6, rfl, hR6, hok6⟩
        show Go mX10_reads _ _ _ 40 [(0, .ref 170), (1, .ref 162)] [.int 1] (SK, M6, N) _
        refine g_if_eq (tgt := 55) (pc' := 43) dX10_reads_40 (by decide) rfl (fun hc => absurd hc (by decide)) (fun _ => ?_)
        obtain ⟨n, P⟩ := t
        dsimp only at hT6 hp6 hR6 hok6
        generalize hq7 : pNamF tf len 5 0 P p6 = q7
        obtain ⟨o7, p7⟩ := q7
        have hrun2 := s_readsNames (N := N) hl hp6 htf hT6 hR6 hok6
        rw [hq7] at hrun2
        dsimp only
        simp only [hq7]
        cases o7 with
        | none =>
          refine g_aload_n (j := 0) (pc' := 44) dX10_reads_43 rfl rfl ?_
          refine g_aload_n (j := 1) (pc' := 45) dX10_reads_44 rfl rfl ?_
          refine g_callV (my := mX10_readsNames) (k := 170) (st := []) (av := [.ref 162]) (mcr := 0) (msr := 0) (mc := 0) (ms := 0) (pc' := 48) dX10_reads_45 kX10_readsNames wX10_44 rfl ⟨rfl, rfl⟩ rfl (Nat.le_of_ble_eq_true rfl) (by decide) (hrun2) rfl ?_
          rintro _ _ ⟨M7, rfl, hT7, hp7, hf7, rfl⟩
          show Go mX10_reads _ _ _ 48 [(0, .ref 170), (1, .ref 162)] [.int 0] (SK, M7, N) _
          refine g_if_eq (tgt := 55) (pc' := 51) dX10_reads_48 (by decide) rfl (fun _ => ?_) (fun hc => absurd rfl hc)
          refine g_iconst (v := 0) (pc' := 56) dX10_reads_55 (by decide) rfl ?_
          exact g_iret dX10_reads_56 rfl (by decide) (⟨M7, rfl, hT7, hp7, fun a a1 a2 => by rw [hf7 a a1 a2, hf6 a a1 a2, hf5 a a1]; exact hf4 a a1 a2, rfl⟩)
        | some u =>
          refine g_aload_n (j := 0) (pc' := 44) dX10_reads_43 rfl rfl ?_
          refine g_aload_n (j := 1) (pc' := 45) dX10_reads_44 rfl rfl ?_
          refine g_callV (my := mX10_readsNames) (k := 170) (st := []) (av := [.ref 162]) (mcr := 0) (msr := 0) (mc := 0) (ms := 0) (pc' := 48) dX10_reads_45 kX10_readsNames wX10_44 rfl ⟨rfl, rfl⟩ rfl (Nat.le_of_ble_eq_true rfl) (by decide) (hrun2) rfl ?_
          rintro _ _ ⟨M7, rfl, hT7, hp7, hf7, rfl, hR7, hok7⟩
          show Go mX10_reads _ _ _ 48 [(0, .ref 170), (1, .ref 162)] [.int 1] (SK, M7, N) _
          refine g_if_eq (tgt := 55) (pc' := 51) dX10_reads_48 (by decide) rfl (fun hc => absurd hc (by decide)) (fun _ => ?_)
          refine g_iconst (v := 1) (pc' := 52) dX10_reads_51 (by decide) rfl ?_
          refine g_goto (tgt := 56) dX10_reads_52 (by decide) ?_
          exact g_iret dX10_reads_56 rfl (by decide) (⟨M7, rfl, hT7, hp7, fun a a1 a2 => by rw [hf7 a a1 a2, hf6 a a1 a2, hf5 a a1]; exact hf4 a a1 a2, rfl, hR7, hok7⟩)
