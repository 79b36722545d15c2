/-! ===== the tape: purely, then the class's Tape. tf j: the number of letter j ===== -/
def skp (tf : Nat → Nat) (len : Nat) : Nat → Nat → Nat
  | 0, p => p
  | f + 1, p => if p < len ∧ tf p = 32 then skp tf len f (p + 1) else p
/-- behind blanks -/
def skB (tf : Nat → Nat) (len p : Nat) : Nat := skp tf len (len - p) p
theorem skp_le {tf : Nat → Nat} {len : Nat} : ∀ {f p : Nat}, p ≤ len → f ≤ len - p → p ≤ skp tf len f p ∧ skp tf len f p ≤ len
  | 0, p, h, _ => ⟨Nat.le_refl _, h⟩
  | f + 1, p, h, hf => by
    unfold skp
    split
    · rename_i q
      have := skp_le (tf := tf) (len := len) (f := f) (p := p + 1) (by omega) (by omega)
      omega
    · exact ⟨Nat.le_refl _, h⟩
theorem skB_le {tf : Nat → Nat} {len p : Nat} (h : p ≤ len) : p ≤ skB tf len p ∧ skB tf len p ≤ len := skp_le h (Nat.le_refl _)
theorem skB_step {tf : Nat → Nat} {len p : Nat} (h : p < len) (h2 : tf p = 32) : skB tf len p = skB tf len (p + 1) := by
  unfold skB
  rw [show len - p = (len - (p + 1)) + 1 by omega]
  conv => lhs; unfold skp
  rw [if_pos ⟨h, h2⟩]
theorem skB_stop {tf : Nat → Nat} {len p : Nat} (h : ¬ (p < len ∧ tf p = 32)) : skB tf len p = p := by
  unfold skB
  cases len - p with
  | zero => rfl
  | succ f => unfold skp; rw [if_neg h]
/-- which sign of constant i comes, and where the reading stands then -/
def pOne (tf : Nat → Nat) (len i p : Nat) : Option Nat × Nat :=
  if skB tf len p < len then (match ixO i (tf (skB tf len p)) with
    | none => (none, skB tf len p)
    | some j => (some j, skB tf len p + 1)) else (none, skB tf len p)
def pNum (tf : Nat → Nat) (len p : Nat) : Option Nat × Nat := match pOne tf len 0 p with
  | (none, q) => (none, q)
  | (some v, q) => if q < len ∧ 48 ≤ tf q ∧ tf q ≤ 57 then (if v * 10 + (tf q - 48) ≤ 20 then (some (v * 10 + (tf q - 48)), q + 1) else (none, q - 1)) else (some v, q)
/-- the class's tape holds the letters -/
def TapeC (M : Nat → Nat → Int32) (tf : Nat → Nat) (len p : Nat) : Prop := M 170 1 = nI len ∧ M 170 2 = nI p ∧ ∀ j, j < len → M 171 j = nI (tf j)
theorem pOne_le {tf : Nat → Nat} {len i p : Nat} (h : p ≤ len) : (pOne tf len i p).2 ≤ len ∧ ((pOne tf len i p).1 ≠ none → 0 < (pOne tf len i p).2) := by
  have h1 := skB_le (tf := tf) h
  unfold pOne
  split
  · split
    · exact ⟨h1.2, fun q => absurd rfl q⟩
    · exact ⟨by show _ + 1 ≤ _; omega, fun _ => by show 0 < _ + 1; omega⟩
  · exact ⟨h1.2, fun q => absurd rfl q⟩
set_option maxRecDepth 100000 in
set_option maxHeartbeats 1000000 in
theorem s_skip {M : Nat → Nat → Int32} {N : Nat → Nat → Int64} {tf : Nat → Nat} {len p : Nat} (hl : len ≤ 80) (hp : p ≤ len) (htf : ∀ j, j < len → tf j < 128) (hT : TapeC M tf len p) : Run mX10_skipBlanks 0 0 0 [.ref 170] (SK, M, N) (fun r h' => ∃ M', h' = (SK, M', N) ∧ r = none ∧ TapeC M' tf len (skB tf len p) ∧ ∀ a, a ≠ 170 → M' a = M a) := by
  refine Run.of (by decide) (Nat.le_of_ble_eq_true rfl) ?_
  have loop : ∀ (t p : Nat) (M1 : Nat → Nat → Int32), p + t = len → TapeC M1 tf len p → (∀ a, a ≠ 170 → M1 a = M a) → Go mX10_skipBlanks 0 0 0 0 [(0, .ref 170)] [] (SK, M1, N) (fun r h' => ∃ M', h' = (SK, M', N) ∧ r = none ∧ TapeC M' tf len (skB tf len p) ∧ ∀ a, a ≠ 170 → M' a = M a) := by
    intro t
    induction t with
    | zero =>
      intro p M1 hpt hT hf
      refine g_aload_n (j := 0) (pc' := 1) dX10_skipBlanks_0 rfl rfl ?_
      refine g_getI (pc' := 4) dX10_skipBlanks_1 fX10_19 rfl rfl rfl ?_
      refine g_top (y := nI p) (hT.2.1) ?_
      refine g_aload_n (j := 0) (pc' := 5) dX10_skipBlanks_4 rfl rfl ?_
      refine g_getI (pc' := 8) dX10_skipBlanks_5 fX10_15 rfl rfl rfl ?_
      refine g_top (y := nI len) (hT.1) ?_
      refine g_icmp_ge (tgt := 38) (pc' := 11) dX10_skipBlanks_8 (by decide) rfl (fun hc => ?_) (fun hc => (absurd (nI_le (by omega) (by omega)) hc))
      rw [skB_stop (by omega)]
      exact g_vret dX10_skipBlanks_38 rfl (⟨M1, rfl, rfl, hT, hf⟩)
    | succ t ih =>
      intro p M1 hpt hT hf
      refine g_aload_n (j := 0) (pc' := 1) dX10_skipBlanks_0 rfl rfl ?_
      refine g_getI (pc' := 4) dX10_skipBlanks_1 fX10_19 rfl rfl rfl ?_
      refine g_top (y := nI p) (hT.2.1) ?_
      refine g_aload_n (j := 0) (pc' := 5) dX10_skipBlanks_4 rfl rfl ?_
      refine g_getI (pc' := 8) dX10_skipBlanks_5 fX10_15 rfl rfl rfl ?_
      refine g_top (y := nI len) (hT.1) ?_
      refine g_icmp_ge (tgt := 38) (pc' := 11) dX10_skipBlanks_8 (by decide) rfl (fun hc => (absurd hc (nI_ge (by omega) (by omega)))) (fun hc => ?_)
      have ht := htf p (by omega)
      refine g_aload_n (j := 0) (pc' := 12) dX10_skipBlanks_11 rfl rfl ?_
      refine g_getR (pc' := 15) dX10_skipBlanks_12 fX10_11 rfl rfl rfl ?_
      refine g_aload_n (j := 0) (pc' := 16) dX10_skipBlanks_15 rfl rfl ?_
      refine g_getI (pc' := 19) dX10_skipBlanks_16 fX10_19 rfl rfl rfl ?_
      refine g_top (y := nI p) (hT.2.1) ?_
      refine g_cald (n := p) (pc' := 20) dX10_skipBlanks_19 rfl rfl (by omega) rfl ?_
      refine g_top (y := nI (tf p)) (hT.2.2 p (by omega)) ?_
      refine g_bipush (v := 32) (pc' := 22) dX10_skipBlanks_20 (by decide) rfl ?_
      refine g_icmp_ne (tgt := 38) (pc' := 25) dX10_skipBlanks_22 (by decide) rfl (fun hc2 => ?_) (fun hc2 => ?_)
      · rw [skB_stop (fun q => hc2 (by rw [q.2]; rfl))]
        exact g_vret dX10_skipBlanks_38 rfl (⟨M1, rfl, rfl, hT, hf⟩)
      · have h32 : tf p = 32 := (nI_eq (b := 32) (by omega) (by omega)).mp hc2
        rw [skB_step (by omega) h32]
        refine g_aload_n (j := 0) (pc' := 26) dX10_skipBlanks_25 rfl rfl ?_
        refine g_dup (pc' := 27) dX10_skipBlanks_26 rfl rfl ?_
        refine g_getI (pc' := 30) dX10_skipBlanks_27 fX10_19 rfl rfl rfl ?_
        refine g_top (y := nI p) (hT.2.1) ?_
        refine g_iconst (v := 1) (pc' := 31) dX10_skipBlanks_30 (by decide) rfl ?_
        refine g_iadd (pc' := 32) dX10_skipBlanks_31 rfl ?_
        refine g_top (y := nI (p + 1)) (nI_1 p) ?_
        refine g_putI (pc' := 35) dX10_skipBlanks_32 fX10_19 rfl rfl ⟨rfl, rfl⟩ rfl ?_
        refine g_goto (tgt := 0) dX10_skipBlanks_35 (by decide) ?_
        refine ih (p + 1) _ (by omega) ⟨?_, um_at, fun j hj => ?_⟩ (fun a ha => ?_)
        · rw [um_at2 (by omega)]; exact hT.1
        · rw [um_ne (by omega)]; exact hT.2.2 j hj
        · rw [um_ne ha]; exact hf a ha
  exact loop (len - p) p M (by omega) hT (fun a _ => rfl)
theorem ixO_lt {i q j : Nat} (hi : i < 7) (h : ixO i q = some j) : j < 1000 := by
  have h1 := (firstIx_lt h).2.1
  have h2 := slen_lt hi
  omega
set_option maxRecDepth 100000 in
set_option maxHeartbeats 1000000 in
theorem s_oneOf {M : Nat → Nat → Int32} {N : Nat → Nat → Int64} {tf : Nat → Nat} {len p : Nat} (hl : len ≤ 80) (hp : p ≤ len) (htf : ∀ j, j < len → tf j < 128) (hT : TapeC M tf len p) {i : Nat} (hi : i < 7) : Run mX10_oneOf 4 0 0 [.ref 170, .ref (2000000 + i)] (SK, M, N) (fun r h' => ∃ M', h' = (SK, M', N) ∧ r = some (.int (optI (-1) (pOne tf len i p).1)) ∧ TapeC M' tf len (pOne tf len i p).2 ∧ ∀ a, a ≠ 170 → M' a = M a) := by
  refine Run.of (by decide) (Nat.le_of_ble_eq_true rfl) ?_
  have hsk := skB_le (tf := tf) hp
  refine g_aload_n (j := 0) (pc' := 1) dX10_oneOf_0 rfl rfl ?_
  refine g_callV (my := mX10_skipBlanks) (k := 170) (st := []) (av := []) (mcr := 0) (msr := 0) (mc := 0) (ms := 0) (pc' := 4) dX10_oneOf_1 kX10_skipBlanks wX10_65 rfl ⟨rfl, rfl⟩ rfl (Nat.le_of_ble_eq_true rfl) (by decide) (s_skip hl hp htf hT) rfl ?_
  rintro _ _ ⟨M1, rfl, rfl, hT1, hf1⟩
  show Go mX10_oneOf _ _ _ 4 [(0, .ref 170), (1, .ref (2000000 + i))] [] (SK, M1, N) _
  unfold pOne
  generalize hs : skB tf len p = s at hT1 hsk
  refine g_aload_n (j := 0) (pc' := 5) dX10_oneOf_4 rfl rfl ?_
  refine g_getI (pc' := 8) dX10_oneOf_5 fX10_19 rfl rfl rfl ?_
  refine g_top (y := nI s) (hT1.2.1) ?_
  refine g_aload_n (j := 0) (pc' := 9) dX10_oneOf_8 rfl rfl ?_
  refine g_getI (pc' := 12) dX10_oneOf_9 fX10_15 rfl rfl rfl ?_
  refine g_top (y := nI len) (hT1.1) ?_
  refine g_icmp_lt (tgt := 17) (pc' := 15) dX10_oneOf_12 (by decide) rfl (fun hc => ?_) (fun hc => ?_)
  · have hsl : s < len := (nI_ltI (by omega) (by omega)).mp hc
    have ht := htf s hsl
    refine g_aload_n (j := 1) (pc' := 18) dX10_oneOf_17 rfl rfl ?_
    refine g_aload_n (j := 0) (pc' := 19) dX10_oneOf_18 rfl rfl ?_
    refine g_getR (pc' := 22) dX10_oneOf_19 fX10_11 rfl rfl rfl ?_
    refine g_aload_n (j := 0) (pc' := 23) dX10_oneOf_22 rfl rfl ?_
    refine g_getI (pc' := 26) dX10_oneOf_23 fX10_19 rfl rfl rfl ?_
    refine g_top (y := nI s) (hT1.2.1) ?_
    refine g_cald (n := s) (pc' := 27) dX10_oneOf_26 rfl rfl (by omega) rfl ?_
    refine g_top (y := nI (tf s)) (hT1.2.2 s hsl) ?_
    refine g_callVS (my := mJ0_indexOf_0f7a4) (i := i) (st := []) (av := [.int (nI (tf s))]) (mcr := 0) (msr := 0) (mc := 0) (ms := 0) (pc' := 30) dX10_oneOf_27 kJ0_indexOf_0f7a4 wX10_70 hi rfl rfl (Nat.le_of_ble_eq_true rfl) (by decide) (s_indexOf _ hi ht) rfl ?_
    rintro _ _ ⟨rfl, rfl⟩
    show Go mX10_oneOf _ _ _ 30 [(0, .ref 170), (1, .ref (2000000 + i))] [.int (optI (-1) (ixO i (tf s)))] (SK, M1, N) _
    rw [if_pos hsl]
    cases hx : ixO i (tf s) with
    | none =>
      show Go mX10_oneOf _ _ _ 30 [(0, .ref 170), (1, .ref (2000000 + i))] [.int (-1)] (SK, M1, N) _
      refine g_istore_n (L' := [(0, .ref 170), (1, .ref (2000000 + i)), (2, .int (-1))]) (pc' := 31) dX10_oneOf_30 (by decide) rfl rfl ?_
      refine g_iload_n (j := 2) (pc' := 32) dX10_oneOf_31 rfl rfl ?_
      refine g_if_ge (tgt := 37) (pc' := 35) dX10_oneOf_32 (by decide) rfl (fun hc => (absurd hc (by decide))) (fun hc => ?_)
      refine g_iconst (v := (-1)) (pc' := 36) dX10_oneOf_35 (by decide) rfl ?_
      exact g_iret dX10_oneOf_36 rfl rfl (⟨M1, rfl, rfl, hT1, hf1⟩)
    | some j =>
      have hj := ixO_lt hi hx
      show Go mX10_oneOf _ _ _ 30 [(0, .ref 170), (1, .ref (2000000 + i))] [.int (nI j)] (SK, M1, N) _
      refine g_istore_n (L' := [(0, .ref 170), (1, .ref (2000000 + i)), (2, .int (nI j))]) (pc' := 31) dX10_oneOf_30 (by decide) rfl rfl ?_
      refine g_iload_n (j := 2) (pc' := 32) dX10_oneOf_31 rfl rfl ?_
      refine g_if_ge (tgt := 37) (pc' := 35) dX10_oneOf_32 (by decide) rfl (fun hc => ?_) (fun hc => (absurd (nI_pos' (n := j) (by omega)) hc))
      refine g_aload_n (j := 0) (pc' := 38) dX10_oneOf_37 rfl rfl ?_
      refine g_dup (pc' := 39) dX10_oneOf_38 rfl rfl ?_
      refine g_getI (pc' := 42) dX10_oneOf_39 fX10_19 rfl rfl rfl ?_
      refine g_top (y := nI s) (hT1.2.1) ?_
      refine g_iconst (v := 1) (pc' := 43) dX10_oneOf_42 (by decide) rfl ?_
      refine g_iadd (pc' := 44) dX10_oneOf_43 rfl ?_
      refine g_top (y := nI (s + 1)) (nI_1 s) ?_
      refine g_putI (pc' := 47) dX10_oneOf_44 fX10_19 rfl rfl ⟨rfl, rfl⟩ rfl ?_
      refine g_iload_n (j := 2) (pc' := 48) dX10_oneOf_47 rfl rfl ?_
      exact g_iret dX10_oneOf_48 rfl rfl (⟨um M1 170 2 (nI (s + 1)), rfl, rfl, ⟨by rw [um_at2 (by omega)]; exact hT1.1, um_at, fun j hj => by rw [um_ne (by omega)]; exact hT1.2.2 j hj⟩, fun a ha => by rw [um_ne ha]; exact hf1 a ha⟩)
  · have hsl : ¬ s < len := fun q => hc (nI_lt q (by omega))
    rw [if_neg hsl]
    refine g_iconst (v := (-1)) (pc' := 16) dX10_oneOf_15 (by decide) rfl ?_
    exact g_iret dX10_oneOf_16 rfl rfl (⟨M1, rfl, rfl, hT1, hf1⟩)
