/-! ===== leaf methods of the class ===== -/
def offK (kind hand oxen st march : Int32) : Int32 := if kind = 4 then 10 - hand + st / oxen + (if march - march / 2 * 2 = 0 then 5 else 3) else 10 - hand + st / oxen
def valK (kind worth debt : Int32) (own : Bool) : Int32 := if kind = 1 then 2 * worth - debt else if kind = 3 then 2 * worth - debt + (if own then 9 else 0) else if kind = 2 ∨ kind = 4 then worth - 2 * debt else worth - debt
set_option maxRecDepth 100000 in
set_option maxHeartbeats 1000000 in
theorem s_outside (v lo hi : Int32) (h : AH) : Run mX11_outside 0 0 0 [.int v, .int lo, .int hi] h (fun r h' => h' = h ∧ r = some (.int (if v < lo ∨ hi < v then 1 else 0))) := by
  refine Run.of (by decide) (Nat.le_of_ble_eq_true rfl) ?_
  refine g_iload_n (j := 0) (pc' := 1) dX11_outside_0 rfl rfl ?_
  refine g_iload_n (j := 1) (pc' := 2) dX11_outside_1 rfl rfl ?_
  refine g_icmp_lt (tgt := 10) (pc' := 5) dX11_outside_2 (by decide) rfl (fun hc => ?_) (fun hc => ?_)
  · have h9 : v < lo ∨ hi < v := Or.inl hc
    refine g_iconst (v := 1) (pc' := 11) dX11_outside_10 (by decide) rfl ?_
    refine g_goto (tgt := 15) dX11_outside_11 (by decide) ?_
    exact g_iret dX11_outside_15 rfl (by decide) (⟨rfl, by rw [if_pos h9]⟩)
  · refine g_iload_n (j := 0) (pc' := 6) dX11_outside_5 rfl rfl ?_
    refine g_iload_n (j := 2) (pc' := 7) dX11_outside_6 rfl rfl ?_
    refine g_icmp_le (tgt := 14) (pc' := 10) dX11_outside_7 (by decide) rfl (fun hc2 => ?_) (fun hc2 => ?_)
    · have h9 : ¬ (v < lo ∨ hi < v) := fun q => q.elim hc (fun z => absurd z (Int32.not_lt.mpr hc2))
      refine g_iconst (v := 0) (pc' := 15) dX11_outside_14 (by decide) rfl ?_
      exact g_iret dX11_outside_15 rfl (by decide) (⟨rfl, by rw [if_neg h9]⟩)
    · have h9 : v < lo ∨ hi < v := Or.inr (Int32.not_le.mp hc2)
      refine g_iconst (v := 1) (pc' := 11) dX11_outside_10 (by decide) rfl ?_
      refine g_goto (tgt := 15) dX11_outside_11 (by decide) ?_
      exact g_iret dX11_outside_15 rfl (by decide) (⟨rfl, by rw [if_pos h9]⟩)
theorem in_range {v : Int32} {n : Nat} (hn : n < 2147483648) : (v < 0 ∨ nI n - 1 < v) ∨ ∃ m, m < n ∧ v = nI m := by
  by_cases h0 : v < 0
  · exact Or.inl (Or.inl h0)
  · by_cases h1 : nI n - 1 < v
    · exact Or.inl (Or.inr h1)
    · right
      obtain ⟨j, hj, rfl⟩ := nI_of h0
      refine ⟨j, ?_, rfl⟩
      have h2 : nI j ≤ nI n - 1 := Int32.not_lt.mp h1
      rw [Int32.le_iff_toInt_le, nI_toInt hj] at h2
      cases n with
      | zero =>
        exfalso
        have : (nI 0 - 1).toInt = -1 := by decide
        omega
      | succ n =>
        rw [nI_pred, nI_toInt (by omega)] at h2
        omega
theorem not_range {m n : Nat} (hn : n < 2147483648) (h : m < n) : ¬ (nI m < 0 ∨ nI n - 1 < nI m) := by
  rintro (h0 | h0)
  · exact nI_pos (by omega) h0
  · cases n with
    | zero => omega
    | succ n =>
      rw [nI_pred] at h0
      exact nI_nlt (by omega) (by omega) h0
set_option maxRecDepth 100000 in
set_option maxHeartbeats 1000000 in
theorem s_noMan {M : Nat → Nat → Int32} {N : Nat → Nat → Int64} {n : Nat} (v : Int32) (hn : M 14 0 = nI n) (h6 : n ≤ 6) : Run mX11_noMan 1 0 0 [.ref 0, .int v] (SK, M, N) (fun r h' => h' = (SK, M, N) ∧ ((∃ m, m < n ∧ v = nI m ∧ r = some (.int 0)) ∨ ((∀ m, m < n → v ≠ nI m) ∧ r = some (.int 1)))) := by
  refine Run.of (by decide) (Nat.le_of_ble_eq_true rfl) ?_
  refine g_iload_n (j := 1) (pc' := 1) dX11_noMan_0 rfl rfl ?_
  refine g_iconst (v := 0) (pc' := 2) dX11_noMan_1 (by decide) rfl ?_
  refine g_aload_n (j := 0) (pc' := 3) dX11_noMan_2 rfl rfl ?_
  refine g_getR (pc' := 6) dX11_noMan_3 fX11_28 rfl rfl rfl ?_
  refine g_getI (pc' := 9) dX11_noMan_6 fX11_75 rfl rfl rfl ?_
  refine g_iconst (v := 1) (pc' := 10) dX11_noMan_9 (by decide) rfl ?_
  refine g_isub (pc' := 11) dX11_noMan_10 rfl ?_
  refine g_callS (my := mX11_outside) (st := []) (av := [.int v, .int 0, .int ((M 14 0) - 1)]) (mcr := 0) (msr := 0) (mc := 0) (ms := 0) (pc' := 14) dX11_noMan_11 kX11_outside wX11_71 rfl (Nat.le_of_ble_eq_true rfl) (by decide) (s_outside v 0 (M 14 0 - 1) (SK, M, N)) rfl ?_
  rintro _ _ ⟨rfl, rfl⟩
  show Go mX11_noMan _ _ _ 14 [(0, .ref 0), (1, .int v)] [.int (if v < 0 ∨ M 14 0 - 1 < v then 1 else 0)] (SK, M, N) _
  rw [hn]
  rcases in_range (v := v) (n := n) (by omega) with h9 | ⟨m, hm, rfl⟩
  · rw [if_pos h9]
    exact g_iret dX11_noMan_14 rfl (by decide) (⟨rfl, Or.inr ⟨fun m hm e => not_range (by omega) hm (e ▸ h9), rfl⟩⟩)
  · rw [if_neg (not_range (by omega) hm)]
    exact g_iret dX11_noMan_14 rfl (by decide) (⟨rfl, Or.inl ⟨m, hm, rfl, rfl⟩⟩)
set_option maxRecDepth 100000 in
set_option maxHeartbeats 1000000 in
theorem s_noName {M : Nat → Nat → Int32} {N : Nat → Nat → Int64} {n : Nat} (v : Int32) (hn : M 14 1 = nI n) (h6 : n ≤ 6) : Run mX11_noName 1 0 0 [.ref 0, .int v] (SK, M, N) (fun r h' => h' = (SK, M, N) ∧ ((∃ m, m < n ∧ v = nI m ∧ r = some (.int 0)) ∨ ((∀ m, m < n → v ≠ nI m) ∧ r = some (.int 1)))) := by
  refine Run.of (by decide) (Nat.le_of_ble_eq_true rfl) ?_
  refine g_iload_n (j := 1) (pc' := 1) dX11_noName_0 rfl rfl ?_
  refine g_iconst (v := 0) (pc' := 2) dX11_noName_1 (by decide) rfl ?_
  refine g_aload_n (j := 0) (pc' := 3) dX11_noName_2 rfl rfl ?_
  refine g_getR (pc' := 6) dX11_noName_3 fX11_28 rfl rfl rfl ?_
  refine g_getI (pc' := 9) dX11_noName_6 fX11_86 rfl rfl rfl ?_
  refine g_iconst (v := 1) (pc' := 10) dX11_noName_9 (by decide) rfl ?_
  refine g_isub (pc' := 11) dX11_noName_10 rfl ?_
  refine g_callS (my := mX11_outside) (st := []) (av := [.int v, .int 0, .int ((M 14 1) - 1)]) (mcr := 0) (msr := 0) (mc := 0) (ms := 0) (pc' := 14) dX11_noName_11 kX11_outside wX11_71 rfl (Nat.le_of_ble_eq_true rfl) (by decide) (s_outside v 0 (M 14 1 - 1) (SK, M, N)) rfl ?_
  rintro _ _ ⟨rfl, rfl⟩
  show Go mX11_noName _ _ _ 14 [(0, .ref 0), (1, .int v)] [.int (if v < 0 ∨ M 14 1 - 1 < v then 1 else 0)] (SK, M, N) _
  rw [hn]
  rcases in_range (v := v) (n := n) (by omega) with h9 | ⟨m, hm, rfl⟩
  · rw [if_pos h9]
    exact g_iret dX11_noName_14 rfl (by decide) (⟨rfl, Or.inr ⟨fun m hm e => not_range (by omega) hm (e ▸ h9), rfl⟩⟩)
  · rw [if_neg (not_range (by omega) hm)]
    exact g_iret dX11_noName_14 rfl (by decide) (⟨rfl, Or.inl ⟨m, hm, rfl, rfl⟩⟩)
set_option maxRecDepth 100000 in
set_option maxHeartbeats 1000000 in
theorem s_orNone (v : Int32) (h : AH) : Run mX11_orNone 0 0 0 [.int v] h (fun r h' => h' = h ∧ r = some (.int (if v = -1 then -4 else v))) := by
  refine Run.of (by decide) (Nat.le_of_ble_eq_true rfl) ?_
  refine g_iload_n (j := 0) (pc' := 1) dX11_orNone_0 rfl rfl ?_
  refine g_iconst (v := (-1)) (pc' := 2) dX11_orNone_1 (by decide) rfl ?_
  refine g_icmp_ne (tgt := 10) (pc' := 5) dX11_orNone_2 (by decide) rfl (fun hc => ?_) (fun hc => ?_)
  · have h9 : ¬ v = -1 := hc
    refine g_iload_n (j := 0) (pc' := 11) dX11_orNone_10 rfl rfl ?_
    exact g_iret dX11_orNone_11 rfl rfl (⟨rfl, by rw [if_neg h9]⟩)
  · have h9 : v = -1 := hc
    refine g_bipush (v := (-4)) (pc' := 7) dX11_orNone_5 (by decide) rfl ?_
    refine g_goto (tgt := 11) dX11_orNone_7 (by decide) ?_
    exact g_iret dX11_orNone_11 rfl rfl (⟨rfl, by rw [if_pos h9]⟩)
set_option maxRecDepth 100000 in
set_option maxHeartbeats 1000000 in
theorem s_furrow (k : Nat) (ha ox st mr : Int32) (h : AH) (hox : 1 ≤ ox) : Run mX6_furrow 0 0 0 [.ref k, .int ha, .int ox, .int st, .int mr] h (fun r h' => h' = h ∧ r = some (.int (10 - ha + st / ox))) := by
  refine Run.of (by decide) (Nat.le_of_ble_eq_true rfl) ?_
  refine g_bipush (v := 10) (pc' := 2) dX6_furrow_0 (by decide) rfl ?_
  refine g_iload_n (j := 1) (pc' := 3) dX6_furrow_2 rfl rfl ?_
  refine g_isub (pc' := 4) dX6_furrow_3 rfl ?_
  refine g_iload_n (j := 2) (pc' := 5) dX6_furrow_4 rfl rfl ?_
  refine g_iconst (v := 1) (pc' := 6) dX6_furrow_5 (by decide) rfl ?_
  refine g_icmp_ge (tgt := 13) (pc' := 9) dX6_furrow_6 (by decide) rfl (fun hc => ?_) (fun hc => ?_)
  · refine g_iload_n (j := 3) (pc' := 14) dX6_furrow_13 rfl rfl ?_
    refine g_iload_n (j := 2) (pc' := 15) dX6_furrow_14 rfl rfl ?_
    refine g_idiv (pc' := 16) dX6_furrow_15 (by rintro rfl; revert hox; decide) rfl ?_
    refine g_iadd (pc' := 17) dX6_furrow_16 rfl ?_
    exact g_iret dX6_furrow_17 rfl rfl (⟨rfl, rfl⟩)
  · exact absurd hox hc
set_option maxRecDepth 100000 in
set_option maxHeartbeats 1000000 in
theorem s_worth6 (k : Nat) (wo de z : Int32) (h : AH) : Run mX6_worthOf 0 0 0 [.ref k, .int wo, .int de, .int z] h (fun r h' => h' = h ∧ r = some (.int (wo - de))) := by
  refine Run.of (by decide) (Nat.le_of_ble_eq_true rfl) ?_
  refine g_iload_n (j := 1) (pc' := 1) dX6_worthOf_0 rfl rfl ?_
  refine g_iload_n (j := 2) (pc' := 2) dX6_worthOf_1 rfl rfl ?_
  refine g_isub (pc' := 3) dX6_worthOf_2 rfl ?_
  exact g_iret dX6_worthOf_3 rfl rfl (⟨rfl, rfl⟩)
set_option maxRecDepth 100000 in
set_option maxHeartbeats 1000000 in
theorem s_worth8 (k : Nat) (wo de z : Int32) (h : AH) : Run mX8_worthOf 0 0 0 [.ref k, .int wo, .int de, .int z] h (fun r h' => h' = h ∧ r = some (.int (2 * wo - de))) := by
  refine Run.of (by decide) (Nat.le_of_ble_eq_true rfl) ?_
  refine g_iconst (v := 2) (pc' := 1) dX8_worthOf_0 (by decide) rfl ?_
  refine g_iload_n (j := 1) (pc' := 2) dX8_worthOf_1 rfl rfl ?_
  refine g_imul (pc' := 3) dX8_worthOf_2 rfl ?_
  refine g_iload_n (j := 2) (pc' := 4) dX8_worthOf_3 rfl rfl ?_
  refine g_isub (pc' := 5) dX8_worthOf_4 rfl ?_
  exact g_iret dX8_worthOf_5 rfl rfl (⟨rfl, rfl⟩)
set_option maxRecDepth 100000 in
set_option maxHeartbeats 1000000 in
theorem s_worth7 (k : Nat) (wo de z : Int32) (h : AH) : Run mX7_worthOf 0 0 0 [.ref k, .int wo, .int de, .int z] h (fun r h' => h' = h ∧ r = some (.int (wo - 2 * de))) := by
  refine Run.of (by decide) (Nat.le_of_ble_eq_true rfl) ?_
  refine g_iload_n (j := 1) (pc' := 1) dX7_worthOf_0 rfl rfl ?_
  refine g_iconst (v := 2) (pc' := 2) dX7_worthOf_1 (by decide) rfl ?_
  refine g_iload_n (j := 2) (pc' := 3) dX7_worthOf_2 rfl rfl ?_
  refine g_imul (pc' := 4) dX7_worthOf_3 rfl ?_
  refine g_isub (pc' := 5) dX7_worthOf_4 rfl ?_
  exact g_iret dX7_worthOf_5 rfl rfl (⟨rfl, rfl⟩)
theorem wX2_7 : Cond.methodLink RX2 7 yX8_worthOf ∈ gtbl ∧ Cond.sameMethod yX8_worthOf.cls yX8_worthOf.cls yX8_worthOf.name yX8_worthOf.desc ∈ gtbl ∧ Cond.superclass RX2 yX8_worthOf.cls ∈ gtbl ∧ Cond.instanceMethod yX8_worthOf ∈ gtbl ∧ yX8_worthOf.name ≠ "<init>" ∧ yX8_worthOf = ⟨yX8_worthOf.cls, yX8_worthOf.name, yX8_worthOf.desc⟩ ∧ (yX8_worthOf.cls = yX8_worthOf.cls ∨ Cond.superclass yX8_worthOf.cls yX8_worthOf.cls ∈ gtbl) :=
  ⟨tb_of 367 (by decide +kernel) (by decide +kernel), tb_of 1068 (by decide +kernel) (by decide +kernel), tb_of 65 (by decide +kernel) (by decide +kernel), tb_of 368 (by decide +kernel) (by decide +kernel), by decide, rfl, Or.inl rfl⟩
def xPoorF : MethodName := ⟨"FurrowNames$Poor", "furrow", "(IIII)I"⟩
theorem wX1_7 : Cond.methodLink RX1 7 xPoorF ∈ gtbl ∧ Cond.sameMethod xPoorF.cls yX6_furrow.cls xPoorF.name xPoorF.desc ∈ gtbl ∧ Cond.superclass RX1 xPoorF.cls ∈ gtbl ∧ Cond.instanceMethod yX6_furrow ∈ gtbl ∧ xPoorF.name ≠ "<init>" ∧ yX6_furrow = ⟨yX6_furrow.cls, xPoorF.name, xPoorF.desc⟩ ∧ (xPoorF.cls = yX6_furrow.cls ∨ Cond.superclass xPoorF.cls yX6_furrow.cls ∈ gtbl) :=
  ⟨tb_of 321 (by decide +kernel) (by decide +kernel), tb_of 322 (by decide +kernel) (by decide +kernel), tb_of 72 (by decide +kernel) (by decide +kernel), tb_of 315 (by decide +kernel) (by decide +kernel), by decide, rfl, Or.inr (tb_of 58 (by decide +kernel) (by decide +kernel))⟩
set_option maxRecDepth 100000 in
set_option maxHeartbeats 1000000 in
theorem s_worth2 (wo de z : Int32) (h : AH) (hs : h.1[6]? = some (2, [])) : Run mX2_worthOf 1 0 0 [.ref 6, .int wo, .int de, .int z] h (fun r h' => h' = h ∧ r = some (.int (if z = 0 then 2 * wo - de + 0 else 2 * wo - de + 9))) := by
  refine Run.of (by decide) (Nat.le_of_ble_eq_true rfl) ?_
  refine g_aload_n (j := 0) (pc' := 1) dX2_worthOf_0 rfl rfl ?_
  refine g_iload_n (j := 1) (pc' := 2) dX2_worthOf_1 rfl rfl ?_
  refine g_iload_n (j := 2) (pc' := 3) dX2_worthOf_2 rfl rfl ?_
  refine g_iload_n (j := 3) (pc' := 4) dX2_worthOf_3 rfl rfl ?_
  refine g_callSU (x := yX8_worthOf) (q := (RX2, TX2, 0)) (my := mX8_worthOf) (k := 6) (st := []) (av := [.int wo, .int de, .int z]) (mcr := 0) (msr := 0) (mc := 0) (ms := 0) (pc' := 7) dX2_worthOf_4 kX8_worthOf wX2_7 hs rfl rfl (Nat.le_of_ble_eq_true rfl) (by decide) (s_worth8 6 wo de z h) rfl ?_
  rintro _ _ ⟨h9, rfl⟩
  rw [h9]
  show Go mX2_worthOf _ _ _ 7 [(0, .ref 6), (1, .int wo), (2, .int de), (3, .int z)] [.int (2 * wo - de)] h _
  refine g_iload_n (j := 3) (pc' := 8) dX2_worthOf_7 rfl rfl ?_
  refine g_if_eq (tgt := 16) (pc' := 11) dX2_worthOf_8 (by decide) rfl (fun hc => ?_) (fun hc => ?_)
  · refine g_iconst (v := 0) (pc' := 17) dX2_worthOf_16 (by decide) rfl ?_
    refine g_iadd (pc' := 18) dX2_worthOf_17 rfl ?_
    exact g_iret dX2_worthOf_18 rfl rfl (⟨rfl, by rw [if_pos hc]⟩)
  · refine g_bipush (v := 9) (pc' := 13) dX2_worthOf_11 (by decide) rfl ?_
    refine g_goto (tgt := 17) dX2_worthOf_13 (by decide) ?_
    refine g_iadd (pc' := 18) dX2_worthOf_17 rfl ?_
    exact g_iret dX2_worthOf_18 rfl rfl (⟨rfl, by rw [if_neg hc]⟩)
set_option maxRecDepth 100000 in
set_option maxHeartbeats 1000000 in
theorem s_furrow1 (ha ox st mr : Int32) (h : AH) (hs : h.1[7]? = some (1, [])) (hox : 1 ≤ ox) : Run mX1_furrow 1 0 0 [.ref 7, .int ha, .int ox, .int st, .int mr] h (fun r h' => h' = h ∧ r = some (.int (10 - ha + st / ox + (if mr - mr / 2 * 2 = 0 then 5 else 3)))) := by
  refine Run.of (by decide) (Nat.le_of_ble_eq_true rfl) ?_
  refine g_aload_n (j := 0) (pc' := 1) dX1_furrow_0 rfl rfl ?_
  refine g_iload_n (j := 1) (pc' := 2) dX1_furrow_1 rfl rfl ?_
  refine g_iload_n (j := 2) (pc' := 3) dX1_furrow_2 rfl rfl ?_
  refine g_iload_n (j := 3) (pc' := 4) dX1_furrow_3 rfl rfl ?_
  refine g_iload (j := 4) (pc' := 6) dX1_furrow_4 rfl rfl ?_
  refine g_callSU (x := xPoorF) (q := (RX1, TX1, 0)) (my := mX6_furrow) (k := 7) (st := []) (av := [.int ha, .int ox, .int st, .int mr]) (mcr := 0) (msr := 0) (mc := 0) (ms := 0) (pc' := 9) dX1_furrow_6 kX6_furrow wX1_7 hs rfl rfl (Nat.le_of_ble_eq_true rfl) (by decide) (s_furrow 7 ha ox st mr h hox) rfl ?_
  rintro _ _ ⟨h9, rfl⟩
  rw [h9]
  show Go mX1_furrow _ _ _ 9 [(0, .ref 7), (1, .int ha), (2, .int ox), (3, .int st), (4, .int mr)] [.int (10 - ha + st / ox)] h _
  refine g_iload (j := 4) (pc' := 11) dX1_furrow_9 rfl rfl ?_
  refine g_iconst (v := 2) (pc' := 12) dX1_furrow_11 (by decide) rfl ?_
  refine g_irem (pc' := 13) dX1_furrow_12 (by decide) rfl ?_
  refine g_if_ne (tgt := 20) (pc' := 16) dX1_furrow_13 (by decide) rfl (fun hc => ?_) (fun hc => ?_)
  · refine g_iconst (v := 3) (pc' := 21) dX1_furrow_20 (by decide) rfl ?_
    refine g_iadd (pc' := 22) dX1_furrow_21 rfl ?_
    exact g_iret dX1_furrow_22 rfl rfl (⟨rfl, by rw [if_neg hc]⟩)
  · refine g_iconst (v := 5) (pc' := 17) dX1_furrow_16 (by decide) rfl ?_
    refine g_goto (tgt := 21) dX1_furrow_17 (by decide) ?_
    refine g_iadd (pc' := 22) dX1_furrow_21 rfl ?_
    exact g_iret dX1_furrow_22 rfl rfl (⟨rfl, by rw [if_pos hc]⟩)
def xPlainF : MethodName := ⟨"FurrowNames$Plain", "furrow", "(IIII)I"⟩
theorem wX0_55_0 : Cond.methodLink RX0 55 xPlainF ∈ gtbl ∧ Cond.sameMethod xPlainF.cls xPlainF.cls xPlainF.name xPlainF.desc ∈ gtbl ∧ Cond.instanceMethod ⟨xPlainF.cls, xPlainF.name, xPlainF.desc⟩ ∈ gtbl ∧ Cond.selects RX6 xPlainF yX6_furrow ∈ gtbl ∧ Cond.instanceMethod yX6_furrow ∈ gtbl := ⟨tb_of 314 (by decide +kernel) (by decide +kernel), tb_of 317 (by decide +kernel) (by decide +kernel), tb_of 315 (by decide +kernel) (by decide +kernel), tb_of 316 (by decide +kernel) (by decide +kernel), tb_of 315 (by decide +kernel) (by decide +kernel)⟩
theorem wX0_55_1 : Cond.methodLink RX0 55 xPlainF ∈ gtbl ∧ Cond.sameMethod xPlainF.cls xPlainF.cls xPlainF.name xPlainF.desc ∈ gtbl ∧ Cond.instanceMethod ⟨xPlainF.cls, xPlainF.name, xPlainF.desc⟩ ∈ gtbl ∧ Cond.selects RX8 xPlainF yX6_furrow ∈ gtbl ∧ Cond.instanceMethod yX6_furrow ∈ gtbl := ⟨tb_of 314 (by decide +kernel) (by decide +kernel), tb_of 317 (by decide +kernel) (by decide +kernel), tb_of 315 (by decide +kernel) (by decide +kernel), tb_of 326 (by decide +kernel) (by decide +kernel), tb_of 315 (by decide +kernel) (by decide +kernel)⟩
theorem wX0_55_2 : Cond.methodLink RX0 55 xPlainF ∈ gtbl ∧ Cond.sameMethod xPlainF.cls xPlainF.cls xPlainF.name xPlainF.desc ∈ gtbl ∧ Cond.instanceMethod ⟨xPlainF.cls, xPlainF.name, xPlainF.desc⟩ ∈ gtbl ∧ Cond.selects RX7 xPlainF yX6_furrow ∈ gtbl ∧ Cond.instanceMethod yX6_furrow ∈ gtbl := ⟨tb_of 314 (by decide +kernel) (by decide +kernel), tb_of 317 (by decide +kernel) (by decide +kernel), tb_of 315 (by decide +kernel) (by decide +kernel), tb_of 325 (by decide +kernel) (by decide +kernel), tb_of 315 (by decide +kernel) (by decide +kernel)⟩
theorem wX0_55_3 : Cond.methodLink RX0 55 xPlainF ∈ gtbl ∧ Cond.sameMethod xPlainF.cls xPlainF.cls xPlainF.name xPlainF.desc ∈ gtbl ∧ Cond.instanceMethod ⟨xPlainF.cls, xPlainF.name, xPlainF.desc⟩ ∈ gtbl ∧ Cond.selects RX2 xPlainF yX6_furrow ∈ gtbl ∧ Cond.instanceMethod yX6_furrow ∈ gtbl := ⟨tb_of 314 (by decide +kernel) (by decide +kernel), tb_of 317 (by decide +kernel) (by decide +kernel), tb_of 315 (by decide +kernel) (by decide +kernel), tb_of 324 (by decide +kernel) (by decide +kernel), tb_of 315 (by decide +kernel) (by decide +kernel)⟩
theorem wX0_55_4 : Cond.methodLink RX0 55 xPlainF ∈ gtbl ∧ Cond.sameMethod xPlainF.cls xPlainF.cls xPlainF.name xPlainF.desc ∈ gtbl ∧ Cond.instanceMethod ⟨xPlainF.cls, xPlainF.name, xPlainF.desc⟩ ∈ gtbl ∧ Cond.selects RX1 xPlainF yX1_furrow ∈ gtbl ∧ Cond.instanceMethod yX1_furrow ∈ gtbl := ⟨tb_of 314 (by decide +kernel) (by decide +kernel), tb_of 317 (by decide +kernel) (by decide +kernel), tb_of 315 (by decide +kernel) (by decide +kernel), tb_of 318 (by decide +kernel) (by decide +kernel), tb_of 319 (by decide +kernel) (by decide +kernel)⟩
theorem hX0_55 : Cond.code ⟨xPlainF.cls, xPlainF.name, xPlainF.desc⟩ cX6_furrow 5 (some .int) ∈ gtbl := tb_of 327 (by decide +kernel) (by decide +kernel)
theorem nX0_55 : xPlainF.cls ≠ "java/lang/invoke/MethodHandle" ∧ xPlainF.cls ≠ "java/lang/invoke/VarHandle" ∧ (parseMethodDescriptor xPlainF.desc).map (fun d => d.parameters.length) = some 4 := ⟨by decide +kernel, by decide +kernel, by decide +kernel⟩
def xPlainW : MethodName := ⟨"FurrowNames$Plain", "worthOf", "(IIZ)I"⟩
theorem wX0_65_0 : Cond.methodLink RX0 65 xPlainW ∈ gtbl ∧ Cond.sameMethod xPlainW.cls xPlainW.cls xPlainW.name xPlainW.desc ∈ gtbl ∧ Cond.instanceMethod ⟨xPlainW.cls, xPlainW.name, xPlainW.desc⟩ ∈ gtbl ∧ Cond.selects RX6 xPlainW yX6_worthOf ∈ gtbl ∧ Cond.instanceMethod yX6_worthOf ∈ gtbl := ⟨tb_of 357 (by decide +kernel) (by decide +kernel), tb_of 360 (by decide +kernel) (by decide +kernel), tb_of 358 (by decide +kernel) (by decide +kernel), tb_of 359 (by decide +kernel) (by decide +kernel), tb_of 358 (by decide +kernel) (by decide +kernel)⟩
theorem wX0_65_1 : Cond.methodLink RX0 65 xPlainW ∈ gtbl ∧ Cond.sameMethod xPlainW.cls xPlainW.cls xPlainW.name xPlainW.desc ∈ gtbl ∧ Cond.instanceMethod ⟨xPlainW.cls, xPlainW.name, xPlainW.desc⟩ ∈ gtbl ∧ Cond.selects RX8 xPlainW yX8_worthOf ∈ gtbl ∧ Cond.instanceMethod yX8_worthOf ∈ gtbl := ⟨tb_of 357 (by decide +kernel) (by decide +kernel), tb_of 360 (by decide +kernel) (by decide +kernel), tb_of 358 (by decide +kernel) (by decide +kernel), tb_of 371 (by decide +kernel) (by decide +kernel), tb_of 368 (by decide +kernel) (by decide +kernel)⟩
theorem wX0_65_2 : Cond.methodLink RX0 65 xPlainW ∈ gtbl ∧ Cond.sameMethod xPlainW.cls xPlainW.cls xPlainW.name xPlainW.desc ∈ gtbl ∧ Cond.instanceMethod ⟨xPlainW.cls, xPlainW.name, xPlainW.desc⟩ ∈ gtbl ∧ Cond.selects RX7 xPlainW yX7_worthOf ∈ gtbl ∧ Cond.instanceMethod yX7_worthOf ∈ gtbl := ⟨tb_of 357 (by decide +kernel) (by decide +kernel), tb_of 360 (by decide +kernel) (by decide +kernel), tb_of 358 (by decide +kernel) (by decide +kernel), tb_of 370 (by decide +kernel) (by decide +kernel), tb_of 362 (by decide +kernel) (by decide +kernel)⟩
theorem wX0_65_3 : Cond.methodLink RX0 65 xPlainW ∈ gtbl ∧ Cond.sameMethod xPlainW.cls xPlainW.cls xPlainW.name xPlainW.desc ∈ gtbl ∧ Cond.instanceMethod ⟨xPlainW.cls, xPlainW.name, xPlainW.desc⟩ ∈ gtbl ∧ Cond.selects RX2 xPlainW yX2_worthOf ∈ gtbl ∧ Cond.instanceMethod yX2_worthOf ∈ gtbl := ⟨tb_of 357 (by decide +kernel) (by decide +kernel), tb_of 360 (by decide +kernel) (by decide +kernel), tb_of 358 (by decide +kernel) (by decide +kernel), tb_of 364 (by decide +kernel) (by decide +kernel), tb_of 365 (by decide +kernel) (by decide +kernel)⟩
theorem wX0_65_4 : Cond.methodLink RX0 65 xPlainW ∈ gtbl ∧ Cond.sameMethod xPlainW.cls xPlainW.cls xPlainW.name xPlainW.desc ∈ gtbl ∧ Cond.instanceMethod ⟨xPlainW.cls, xPlainW.name, xPlainW.desc⟩ ∈ gtbl ∧ Cond.selects RX1 xPlainW yX7_worthOf ∈ gtbl ∧ Cond.instanceMethod yX7_worthOf ∈ gtbl := ⟨tb_of 357 (by decide +kernel) (by decide +kernel), tb_of 360 (by decide +kernel) (by decide +kernel), tb_of 358 (by decide +kernel) (by decide +kernel), tb_of 361 (by decide +kernel) (by decide +kernel), tb_of 362 (by decide +kernel) (by decide +kernel)⟩
theorem hX0_65 : Cond.code ⟨xPlainW.cls, xPlainW.name, xPlainW.desc⟩ cX6_worthOf 4 (some .int) ∈ gtbl := tb_of 372 (by decide +kernel) (by decide +kernel)
theorem nX0_65 : xPlainW.cls ≠ "java/lang/invoke/MethodHandle" ∧ xPlainW.cls ≠ "java/lang/invoke/VarHandle" ∧ (parseMethodDescriptor xPlainW.desc).map (fun d => d.parameters.length) = some 3 := ⟨by decide +kernel, by decide +kernel, by decide +kernel⟩
set_option maxRecDepth 100000 in
set_option maxHeartbeats 1000000 in
theorem s_offOf {M : Nat → Nat → Int32} {N : Nat → Nat → Int64} {p m k : Nat} (st : Int32) (hp : ParAt p) (hm : m < 6) (hk : M (p + 1) m = nI k) (hk4 : k ≤ 4) (hox : 1 ≤ M (p + 3) m) : Run mX0_offOf 2 0 0 [.ref 1, .ref p, .int (nI m), .int st] (SK, M, N) (fun r h' => h' = (SK, M, N) ∧ r = some (.int (offK (M (p + 1) m) (M (p + 2) m) (M (p + 3) m) st (M p 3)))) := by
  refine Run.of (by decide) (Nat.le_of_ble_eq_true rfl) ?_
  rcases (show k = 0 ∨ k = 1 ∨ k = 2 ∨ k = 3 ∨ k = 4 by omega) with rfl | rfl | rfl | rfl | rfl
  · refine g_aload_n (j := 0) (pc' := 1) dX0_offOf_0 rfl rfl ?_
    refine g_getR (pc' := 4) dX0_offOf_1 fX0_24 rfl rfl rfl ?_
    refine g_aload_n (j := 1) (pc' := 5) dX0_offOf_4 rfl rfl ?_
    refine g_getR (pc' := 8) dX0_offOf_5 fX0_40 hp.c0 rfl rfl ?_
    refine g_iload_n (j := 2) (pc' := 9) dX0_offOf_8 rfl rfl ?_
    refine g_iald (n := m) (pc' := 10) dX0_offOf_9 hp.c1 rfl (by omega) rfl ?_
    refine g_aald (n := 0) (pc' := 11) dX0_offOf_10 rfl ⟨rfl, rfl, by decide⟩ hk rfl rfl ?_
    refine g_aload_n (j := 1) (pc' := 12) dX0_offOf_11 rfl rfl ?_
    refine g_getR (pc' := 15) dX0_offOf_12 fX0_45 hp.c0 rfl rfl ?_
    refine g_iload_n (j := 2) (pc' := 16) dX0_offOf_15 rfl rfl ?_
    refine g_iald (n := m) (pc' := 17) dX0_offOf_16 hp.c2 rfl (by omega) rfl ?_
    refine g_aload_n (j := 1) (pc' := 18) dX0_offOf_17 rfl rfl ?_
    refine g_getR (pc' := 21) dX0_offOf_18 fX0_48 hp.c0 rfl rfl ?_
    refine g_iload_n (j := 2) (pc' := 22) dX0_offOf_21 rfl rfl ?_
    refine g_iald (n := m) (pc' := 23) dX0_offOf_22 hp.c3 rfl (by omega) rfl ?_
    refine g_iload_n (j := 3) (pc' := 24) dX0_offOf_23 rfl rfl ?_
    refine g_aload_n (j := 1) (pc' := 25) dX0_offOf_24 rfl rfl ?_
    refine g_getI (pc' := 28) dX0_offOf_25 fX0_51 hp.c0 rfl rfl ?_
    refine g_callO (x := xPlainF) (q := (RX6, TX6, 0)) (my := mX6_furrow) (k := 3) (st := []) (av := [.int (M (p + 2) m), .int (M (p + 3) m), .int st, .int (M p 3)]) (mcr := 0) (msr := 0) (mc := 0) (ms := 0) (pc' := 31) dX0_offOf_28 kX6_furrow wX0_55_0 hX0_55 nX0_55 rfl rfl rfl (Nat.le_of_ble_eq_true rfl) (by decide) (s_furrow 3 _ _ _ _ _ hox) rfl ?_
    rintro _ _ ⟨rfl, rfl⟩
    show Go mX0_offOf _ _ _ 31 [(0, .ref 1), (1, .ref p), (2, .int (nI m)), (3, .int st)] [.int (10 - M (p + 2) m + st / M (p + 3) m)] (SK, M, N) _
    exact g_iret dX0_offOf_31 rfl rfl (⟨rfl, by rw [hk]; rfl⟩)
  · refine g_aload_n (j := 0) (pc' := 1) dX0_offOf_0 rfl rfl ?_
    refine g_getR (pc' := 4) dX0_offOf_1 fX0_24 rfl rfl rfl ?_
    refine g_aload_n (j := 1) (pc' := 5) dX0_offOf_4 rfl rfl ?_
    refine g_getR (pc' := 8) dX0_offOf_5 fX0_40 hp.c0 rfl rfl ?_
    refine g_iload_n (j := 2) (pc' := 9) dX0_offOf_8 rfl rfl ?_
    refine g_iald (n := m) (pc' := 10) dX0_offOf_9 hp.c1 rfl (by omega) rfl ?_
    refine g_aald (n := 1) (pc' := 11) dX0_offOf_10 rfl ⟨rfl, rfl, by decide⟩ hk rfl rfl ?_
    refine g_aload_n (j := 1) (pc' := 12) dX0_offOf_11 rfl rfl ?_
    refine g_getR (pc' := 15) dX0_offOf_12 fX0_45 hp.c0 rfl rfl ?_
    refine g_iload_n (j := 2) (pc' := 16) dX0_offOf_15 rfl rfl ?_
    refine g_iald (n := m) (pc' := 17) dX0_offOf_16 hp.c2 rfl (by omega) rfl ?_
    refine g_aload_n (j := 1) (pc' := 18) dX0_offOf_17 rfl rfl ?_
    refine g_getR (pc' := 21) dX0_offOf_18 fX0_48 hp.c0 rfl rfl ?_
    refine g_iload_n (j := 2) (pc' := 22) dX0_offOf_21 rfl rfl ?_
    refine g_iald (n := m) (pc' := 23) dX0_offOf_22 hp.c3 rfl (by omega) rfl ?_
    refine g_iload_n (j := 3) (pc' := 24) dX0_offOf_23 rfl rfl ?_
    refine g_aload_n (j := 1) (pc' := 25) dX0_offOf_24 rfl rfl ?_
    refine g_getI (pc' := 28) dX0_offOf_25 fX0_51 hp.c0 rfl rfl ?_
    refine g_callO (x := xPlainF) (q := (RX8, TX8, 0)) (my := mX6_furrow) (k := 4) (st := []) (av := [.int (M (p + 2) m), .int (M (p + 3) m), .int st, .int (M p 3)]) (mcr := 0) (msr := 0) (mc := 0) (ms := 0) (pc' := 31) dX0_offOf_28 kX6_furrow wX0_55_1 hX0_55 nX0_55 rfl rfl rfl (Nat.le_of_ble_eq_true rfl) (by decide) (s_furrow 4 _ _ _ _ _ hox) rfl ?_
    rintro _ _ ⟨rfl, rfl⟩
    show Go mX0_offOf _ _ _ 31 [(0, .ref 1), (1, .ref p), (2, .int (nI m)), (3, .int st)] [.int (10 - M (p + 2) m + st / M (p + 3) m)] (SK, M, N) _
    exact g_iret dX0_offOf_31 rfl rfl (⟨rfl, by rw [hk]; rfl⟩)
  · refine g_aload_n (j := 0) (pc' := 1) dX0_offOf_0 rfl rfl ?_
    refine g_getR (pc' := 4) dX0_offOf_1 fX0_24 rfl rfl rfl ?_
    refine g_aload_n (j := 1) (pc' := 5) dX0_offOf_4 rfl rfl ?_
    refine g_getR (pc' := 8) dX0_offOf_5 fX0_40 hp.c0 rfl rfl ?_
    refine g_iload_n (j := 2) (pc' := 9) dX0_offOf_8 rfl rfl ?_
    refine g_iald (n := m) (pc' := 10) dX0_offOf_9 hp.c1 rfl (by omega) rfl ?_
    refine g_aald (n := 2) (pc' := 11) dX0_offOf_10 rfl ⟨rfl, rfl, by decide⟩ hk rfl rfl ?_
    refine g_aload_n (j := 1) (pc' := 12) dX0_offOf_11 rfl rfl ?_
    refine g_getR (pc' := 15) dX0_offOf_12 fX0_45 hp.c0 rfl rfl ?_
    refine g_iload_n (j := 2) (pc' := 16) dX0_offOf_15 rfl rfl ?_
    refine g_iald (n := m) (pc' := 17) dX0_offOf_16 hp.c2 rfl (by omega) rfl ?_
    refine g_aload_n (j := 1) (pc' := 18) dX0_offOf_17 rfl rfl ?_
    refine g_getR (pc' := 21) dX0_offOf_18 fX0_48 hp.c0 rfl rfl ?_
    refine g_iload_n (j := 2) (pc' := 22) dX0_offOf_21 rfl rfl ?_
    refine g_iald (n := m) (pc' := 23) dX0_offOf_22 hp.c3 rfl (by omega) rfl ?_
    refine g_iload_n (j := 3) (pc' := 24) dX0_offOf_23 rfl rfl ?_
    refine g_aload_n (j := 1) (pc' := 25) dX0_offOf_24 rfl rfl ?_
    refine g_getI (pc' := 28) dX0_offOf_25 fX0_51 hp.c0 rfl rfl ?_
    refine g_callO (x := xPlainF) (q := (RX7, TX7, 0)) (my := mX6_furrow) (k := 5) (st := []) (av := [.int (M (p + 2) m), .int (M (p + 3) m), .int st, .int (M p 3)]) (mcr := 0) (msr := 0) (mc := 0) (ms := 0) (pc' := 31) dX0_offOf_28 kX6_furrow wX0_55_2 hX0_55 nX0_55 rfl rfl rfl (Nat.le_of_ble_eq_true rfl) (by decide) (s_furrow 5 _ _ _ _ _ hox) rfl ?_
    rintro _ _ ⟨rfl, rfl⟩
    show Go mX0_offOf _ _ _ 31 [(0, .ref 1), (1, .ref p), (2, .int (nI m)), (3, .int st)] [.int (10 - M (p + 2) m + st / M (p + 3) m)] (SK, M, N) _
    exact g_iret dX0_offOf_31 rfl rfl (⟨rfl, by rw [hk]; rfl⟩)
  · refine g_aload_n (j := 0) (pc' := 1) dX0_offOf_0 rfl rfl ?_
    refine g_getR (pc' := 4) dX0_offOf_1 fX0_24 rfl rfl rfl ?_
    refine g_aload_n (j := 1) (pc' := 5) dX0_offOf_4 rfl rfl ?_
    refine g_getR (pc' := 8) dX0_offOf_5 fX0_40 hp.c0 rfl rfl ?_
    refine g_iload_n (j := 2) (pc' := 9) dX0_offOf_8 rfl rfl ?_
    refine g_iald (n := m) (pc' := 10) dX0_offOf_9 hp.c1 rfl (by omega) rfl ?_
    refine g_aald (n := 3) (pc' := 11) dX0_offOf_10 rfl ⟨rfl, rfl, by decide⟩ hk rfl rfl ?_
    refine g_aload_n (j := 1) (pc' := 12) dX0_offOf_11 rfl rfl ?_
    refine g_getR (pc' := 15) dX0_offOf_12 fX0_45 hp.c0 rfl rfl ?_
    refine g_iload_n (j := 2) (pc' := 16) dX0_offOf_15 rfl rfl ?_
    refine g_iald (n := m) (pc' := 17) dX0_offOf_16 hp.c2 rfl (by omega) rfl ?_
    refine g_aload_n (j := 1) (pc' := 18) dX0_offOf_17 rfl rfl ?_
    refine g_getR (pc' := 21) dX0_offOf_18 fX0_48 hp.c0 rfl rfl ?_
    refine g_iload_n (j := 2) (pc' := 22) dX0_offOf_21 rfl rfl ?_
    refine g_iald (n := m) (pc' := 23) dX0_offOf_22 hp.c3 rfl (by omega) rfl ?_
    refine g_iload_n (j := 3) (pc' := 24) dX0_offOf_23 rfl rfl ?_
    refine g_aload_n (j := 1) (pc' := 25) dX0_offOf_24 rfl rfl ?_
    refine g_getI (pc' := 28) dX0_offOf_25 fX0_51 hp.c0 rfl rfl ?_
    refine g_callO (x := xPlainF) (q := (RX2, TX2, 0)) (my := mX6_furrow) (k := 6) (st := []) (av := [.int (M (p + 2) m), .int (M (p + 3) m), .int st, .int (M p 3)]) (mcr := 0) (msr := 0) (mc := 0) (ms := 0) (pc' := 31) dX0_offOf_28 kX6_furrow wX0_55_3 hX0_55 nX0_55 rfl rfl rfl (Nat.le_of_ble_eq_true rfl) (by decide) (s_furrow 6 _ _ _ _ _ hox) rfl ?_
    rintro _ _ ⟨rfl, rfl⟩
    show Go mX0_offOf _ _ _ 31 [(0, .ref 1), (1, .ref p), (2, .int (nI m)), (3, .int st)] [.int (10 - M (p + 2) m + st / M (p + 3) m)] (SK, M, N) _
    exact g_iret dX0_offOf_31 rfl rfl (⟨rfl, by rw [hk]; rfl⟩)
  · refine g_aload_n (j := 0) (pc' := 1) dX0_offOf_0 rfl rfl ?_
    refine g_getR (pc' := 4) dX0_offOf_1 fX0_24 rfl rfl rfl ?_
    refine g_aload_n (j := 1) (pc' := 5) dX0_offOf_4 rfl rfl ?_
    refine g_getR (pc' := 8) dX0_offOf_5 fX0_40 hp.c0 rfl rfl ?_
    refine g_iload_n (j := 2) (pc' := 9) dX0_offOf_8 rfl rfl ?_
    refine g_iald (n := m) (pc' := 10) dX0_offOf_9 hp.c1 rfl (by omega) rfl ?_
    refine g_aald (n := 4) (pc' := 11) dX0_offOf_10 rfl ⟨rfl, rfl, by decide⟩ hk rfl rfl ?_
    refine g_aload_n (j := 1) (pc' := 12) dX0_offOf_11 rfl rfl ?_
    refine g_getR (pc' := 15) dX0_offOf_12 fX0_45 hp.c0 rfl rfl ?_
    refine g_iload_n (j := 2) (pc' := 16) dX0_offOf_15 rfl rfl ?_
    refine g_iald (n := m) (pc' := 17) dX0_offOf_16 hp.c2 rfl (by omega) rfl ?_
    refine g_aload_n (j := 1) (pc' := 18) dX0_offOf_17 rfl rfl ?_
    refine g_getR (pc' := 21) dX0_offOf_18 fX0_48 hp.c0 rfl rfl ?_
    refine g_iload_n (j := 2) (pc' := 22) dX0_offOf_21 rfl rfl ?_
    refine g_iald (n := m) (pc' := 23) dX0_offOf_22 hp.c3 rfl (by omega) rfl ?_
    refine g_iload_n (j := 3) (pc' := 24) dX0_offOf_23 rfl rfl ?_
    refine g_aload_n (j := 1) (pc' := 25) dX0_offOf_24 rfl rfl ?_
    refine g_getI (pc' := 28) dX0_offOf_25 fX0_51 hp.c0 rfl rfl ?_
    refine g_callO (x := xPlainF) (q := (RX1, TX1, 0)) (my := mX1_furrow) (k := 7) (st := []) (av := [.int (M (p + 2) m), .int (M (p + 3) m), .int st, .int (M p 3)]) (mcr := 0) (msr := 0) (mc := 0) (ms := 0) (pc' := 31) dX0_offOf_28 kX1_furrow wX0_55_4 hX0_55 nX0_55 rfl rfl rfl (Nat.le_of_ble_eq_true rfl) (by decide) (s_furrow1 _ _ _ _ _ rfl hox) rfl ?_
    rintro _ _ ⟨rfl, rfl⟩
    show Go mX0_offOf _ _ _ 31 [(0, .ref 1), (1, .ref p), (2, .int (nI m)), (3, .int st)] [.int (10 - M (p + 2) m + st / M (p + 3) m + (if M p 3 - M p 3 / 2 * 2 = 0 then 5 else 3))] (SK, M, N) _
    exact g_iret dX0_offOf_31 rfl rfl (⟨rfl, by rw [hk]; rfl⟩)
set_option maxRecDepth 100000 in
set_option maxHeartbeats 1000000 in
theorem s_esteem {M : Nat → Nat → Int32} {N : Nat → Nat → Int64} {p m n k : Nat} (hp : ParAt p) (hm : m < 6) (hn : n < 6) (hk : M (p + 1) m = nI k) (hk4 : k ≤ 4) : Run mX0_esteem 2 0 0 [.ref 1, .ref p, .int (nI m), .int (nI n)] (SK, M, N) (fun r h' => h' = (SK, M, N) ∧ r = some (.int (valK (M (p + 1) m) (M (p + 6) n) (M (p + 7) n) (decide (m = n))))) := by
  refine Run.of (by decide) (Nat.le_of_ble_eq_true rfl) ?_
  rcases (show k = 0 ∨ k = 1 ∨ k = 2 ∨ k = 3 ∨ k = 4 by omega) with rfl | rfl | rfl | rfl | rfl
  · refine g_aload_n (j := 0) (pc' := 1) dX0_esteem_0 rfl rfl ?_
    refine g_getR (pc' := 4) dX0_esteem_1 fX0_24 rfl rfl rfl ?_
    refine g_aload_n (j := 1) (pc' := 5) dX0_esteem_4 rfl rfl ?_
    refine g_getR (pc' := 8) dX0_esteem_5 fX0_40 hp.c0 rfl rfl ?_
    refine g_iload_n (j := 2) (pc' := 9) dX0_esteem_8 rfl rfl ?_
    refine g_iald (n := m) (pc' := 10) dX0_esteem_9 hp.c1 rfl (by omega) rfl ?_
    refine g_aald (n := 0) (pc' := 11) dX0_esteem_10 rfl ⟨rfl, rfl, by decide⟩ hk rfl rfl ?_
    refine g_aload_n (j := 1) (pc' := 12) dX0_esteem_11 rfl rfl ?_
    refine g_getR (pc' := 15) dX0_esteem_12 fX0_59 hp.c0 rfl rfl ?_
    refine g_iload_n (j := 3) (pc' := 16) dX0_esteem_15 rfl rfl ?_
    refine g_iald (n := n) (pc' := 17) dX0_esteem_16 hp.c6 rfl (by omega) rfl ?_
    refine g_aload_n (j := 1) (pc' := 18) dX0_esteem_17 rfl rfl ?_
    refine g_getR (pc' := 21) dX0_esteem_18 fX0_62 hp.c0 rfl rfl ?_
    refine g_iload_n (j := 3) (pc' := 22) dX0_esteem_21 rfl rfl ?_
    refine g_iald (n := n) (pc' := 23) dX0_esteem_22 hp.c7 rfl (by omega) rfl ?_
    refine g_iload_n (j := 2) (pc' := 24) dX0_esteem_23 rfl rfl ?_
    refine g_iload_n (j := 3) (pc' := 25) dX0_esteem_24 rfl rfl ?_
    refine g_icmp_ne (tgt := 32) (pc' := 28) dX0_esteem_25 (by decide) rfl (fun hc => ?_) (fun hc => ?_)
    · refine g_iconst (v := 0) (pc' := 33) dX0_esteem_32 (by decide) rfl ?_
      refine g_callO (x := xPlainW) (q := (RX6, TX6, 0)) (my := mX6_worthOf) (k := 3) (st := []) (av := [.int (M (p + 6) n), .int (M (p + 7) n), .int 0]) (mcr := 0) (msr := 0) (mc := 0) (ms := 0) (pc' := 36) dX0_esteem_33 kX6_worthOf wX0_65_0 hX0_65 nX0_65 rfl rfl rfl (Nat.le_of_ble_eq_true rfl) (by decide) (s_worth6 3 _ _ _ _) rfl ?_
      rintro _ _ ⟨rfl, rfl⟩
      show Go mX0_esteem _ _ _ 36 [(0, .ref 1), (1, .ref p), (2, .int (nI m)), (3, .int (nI n))] [.int (M (p + 6) n - M (p + 7) n)] (SK, M, N) _
      have h9 : decide (m = n) = false := by simp; intro q; exact hc (by rw [q])
      exact g_iret dX0_esteem_36 rfl rfl (⟨rfl, by rw [hk, h9]; rfl⟩)
    · refine g_iconst (v := 1) (pc' := 29) dX0_esteem_28 (by decide) rfl ?_
      refine g_goto (tgt := 33) dX0_esteem_29 (by decide) ?_
      refine g_callO (x := xPlainW) (q := (RX6, TX6, 0)) (my := mX6_worthOf) (k := 3) (st := []) (av := [.int (M (p + 6) n), .int (M (p + 7) n), .int 1]) (mcr := 0) (msr := 0) (mc := 0) (ms := 0) (pc' := 36) dX0_esteem_33 kX6_worthOf wX0_65_0 hX0_65 nX0_65 rfl rfl rfl (Nat.le_of_ble_eq_true rfl) (by decide) (s_worth6 3 _ _ _ _) rfl ?_
      rintro _ _ ⟨rfl, rfl⟩
      show Go mX0_esteem _ _ _ 36 [(0, .ref 1), (1, .ref p), (2, .int (nI m)), (3, .int (nI n))] [.int (M (p + 6) n - M (p + 7) n)] (SK, M, N) _
      have h9 : decide (m = n) = true := by rw [(nI_eq (by omega) (by omega)).mp hc]; simp
      exact g_iret dX0_esteem_36 rfl rfl (⟨rfl, by rw [hk, h9]; rfl⟩)
  · refine g_aload_n (j := 0) (pc' := 1) dX0_esteem_0 rfl rfl ?_
    refine g_getR (pc' := 4) dX0_esteem_1 fX0_24 rfl rfl rfl ?_
    refine g_aload_n (j := 1) (pc' := 5) dX0_esteem_4 rfl rfl ?_
    refine g_getR (pc' := 8) dX0_esteem_5 fX0_40 hp.c0 rfl rfl ?_
    refine g_iload_n (j := 2) (pc' := 9) dX0_esteem_8 rfl rfl ?_
    refine g_iald (n := m) (pc' := 10) dX0_esteem_9 hp.c1 rfl (by omega) rfl ?_
    refine g_aald (n := 1) (pc' := 11) dX0_esteem_10 rfl ⟨rfl, rfl, by decide⟩ hk rfl rfl ?_
    refine g_aload_n (j := 1) (pc' := 12) dX0_esteem_11 rfl rfl ?_
    refine g_getR (pc' := 15) dX0_esteem_12 fX0_59 hp.c0 rfl rfl ?_
    refine g_iload_n (j := 3) (pc' := 16) dX0_esteem_15 rfl rfl ?_
    refine g_iald (n := n) (pc' := 17) dX0_esteem_16 hp.c6 rfl (by omega) rfl ?_
    refine g_aload_n (j := 1) (pc' := 18) dX0_esteem_17 rfl rfl ?_
    refine g_getR (pc' := 21) dX0_esteem_18 fX0_62 hp.c0 rfl rfl ?_
    refine g_iload_n (j := 3) (pc' := 22) dX0_esteem_21 rfl rfl ?_
    refine g_iald (n := n) (pc' := 23) dX0_esteem_22 hp.c7 rfl (by omega) rfl ?_
    refine g_iload_n (j := 2) (pc' := 24) dX0_esteem_23 rfl rfl ?_
    refine g_iload_n (j := 3) (pc' := 25) dX0_esteem_24 rfl rfl ?_
    refine g_icmp_ne (tgt := 32) (pc' := 28) dX0_esteem_25 (by decide) rfl (fun hc => ?_) (fun hc => ?_)
    · refine g_iconst (v := 0) (pc' := 33) dX0_esteem_32 (by decide) rfl ?_
      refine g_callO (x := xPlainW) (q := (RX8, TX8, 0)) (my := mX8_worthOf) (k := 4) (st := []) (av := [.int (M (p + 6) n), .int (M (p + 7) n), .int 0]) (mcr := 0) (msr := 0) (mc := 0) (ms := 0) (pc' := 36) dX0_esteem_33 kX8_worthOf wX0_65_1 hX0_65 nX0_65 rfl rfl rfl (Nat.le_of_ble_eq_true rfl) (by decide) (s_worth8 4 _ _ _ _) rfl ?_
      rintro _ _ ⟨rfl, rfl⟩
      show Go mX0_esteem _ _ _ 36 [(0, .ref 1), (1, .ref p), (2, .int (nI m)), (3, .int (nI n))] [.int (2 * M (p + 6) n - M (p + 7) n)] (SK, M, N) _
      have h9 : decide (m = n) = false := by simp; intro q; exact hc (by rw [q])
      exact g_iret dX0_esteem_36 rfl rfl (⟨rfl, by rw [hk, h9]; rfl⟩)
    · refine g_iconst (v := 1) (pc' := 29) dX0_esteem_28 (by decide) rfl ?_
      refine g_goto (tgt := 33) dX0_esteem_29 (by decide) ?_
      refine g_callO (x := xPlainW) (q := (RX8, TX8, 0)) (my := mX8_worthOf) (k := 4) (st := []) (av := [.int (M (p + 6) n), .int (M (p + 7) n), .int 1]) (mcr := 0) (msr := 0) (mc := 0) (ms := 0) (pc' := 36) dX0_esteem_33 kX8_worthOf wX0_65_1 hX0_65 nX0_65 rfl rfl rfl (Nat.le_of_ble_eq_true rfl) (by decide) (s_worth8 4 _ _ _ _) rfl ?_
      rintro _ _ ⟨rfl, rfl⟩
      show Go mX0_esteem _ _ _ 36 [(0, .ref 1), (1, .ref p), (2, .int (nI m)), (3, .int (nI n))] [.int (2 * M (p + 6) n - M (p + 7) n)] (SK, M, N) _
      have h9 : decide (m = n) = true := by rw [(nI_eq (by omega) (by omega)).mp hc]; simp
      exact g_iret dX0_esteem_36 rfl rfl (⟨rfl, by rw [hk, h9]; rfl⟩)
  · refine g_aload_n (j := 0) (pc' := 1) dX0_esteem_0 rfl rfl ?_
    refine g_getR (pc' := 4) dX0_esteem_1 fX0_24 rfl rfl rfl ?_
    refine g_aload_n (j := 1) (pc' := 5) dX0_esteem_4 rfl rfl ?_
    refine g_getR (pc' := 8) dX0_esteem_5 fX0_40 hp.c0 rfl rfl ?_
    refine g_iload_n (j := 2) (pc' := 9) dX0_esteem_8 rfl rfl ?_
    refine g_iald (n := m) (pc' := 10) dX0_esteem_9 hp.c1 rfl (by omega) rfl ?_
    refine g_aald (n := 2) (pc' := 11) dX0_esteem_10 rfl ⟨rfl, rfl, by decide⟩ hk rfl rfl ?_
    refine g_aload_n (j := 1) (pc' := 12) dX0_esteem_11 rfl rfl ?_
    refine g_getR (pc' := 15) dX0_esteem_12 fX0_59 hp.c0 rfl rfl ?_
    refine g_iload_n (j := 3) (pc' := 16) dX0_esteem_15 rfl rfl ?_
    refine g_iald (n := n) (pc' := 17) dX0_esteem_16 hp.c6 rfl (by omega) rfl ?_
    refine g_aload_n (j := 1) (pc' := 18) dX0_esteem_17 rfl rfl ?_
    refine g_getR (pc' := 21) dX0_esteem_18 fX0_62 hp.c0 rfl rfl ?_
    refine g_iload_n (j := 3) (pc' := 22) dX0_esteem_21 rfl rfl ?_
    refine g_iald (n := n) (pc' := 23) dX0_esteem_22 hp.c7 rfl (by omega) rfl ?_
    refine g_iload_n (j := 2) (pc' := 24) dX0_esteem_23 rfl rfl ?_
    refine g_iload_n (j := 3) (pc' := 25) dX0_esteem_24 rfl rfl ?_
    refine g_icmp_ne (tgt := 32) (pc' := 28) dX0_esteem_25 (by decide) rfl (fun hc => ?_) (fun hc => ?_)
    · refine g_iconst (v := 0) (pc' := 33) dX0_esteem_32 (by decide) rfl ?_
      refine g_callO (x := xPlainW) (q := (RX7, TX7, 0)) (my := mX7_worthOf) (k := 5) (st := []) (av := [.int (M (p + 6) n), .int (M (p + 7) n), .int 0]) (mcr := 0) (msr := 0) (mc := 0) (ms := 0) (pc' := 36) dX0_esteem_33 kX7_worthOf wX0_65_2 hX0_65 nX0_65 rfl rfl rfl (Nat.le_of_ble_eq_true rfl) (by decide) (s_worth7 5 _ _ _ _) rfl ?_
      rintro _ _ ⟨rfl, rfl⟩
      show Go mX0_esteem _ _ _ 36 [(0, .ref 1), (1, .ref p), (2, .int (nI m)), (3, .int (nI n))] [.int (M (p + 6) n - 2 * M (p + 7) n)] (SK, M, N) _
      have h9 : decide (m = n) = false := by simp; intro q; exact hc (by rw [q])
      exact g_iret dX0_esteem_36 rfl rfl (⟨rfl, by rw [hk, h9]; rfl⟩)
    · refine g_iconst (v := 1) (pc' := 29) dX0_esteem_28 (by decide) rfl ?_
      refine g_goto (tgt := 33) dX0_esteem_29 (by decide) ?_
      refine g_callO (x := xPlainW) (q := (RX7, TX7, 0)) (my := mX7_worthOf) (k := 5) (st := []) (av := [.int (M (p + 6) n), .int (M (p + 7) n), .int 1]) (mcr := 0) (msr := 0) (mc := 0) (ms := 0) (pc' := 36) dX0_esteem_33 kX7_worthOf wX0_65_2 hX0_65 nX0_65 rfl rfl rfl (Nat.le_of_ble_eq_true rfl) (by decide) (s_worth7 5 _ _ _ _) rfl ?_
      rintro _ _ ⟨rfl, rfl⟩
      show Go mX0_esteem _ _ _ 36 [(0, .ref 1), (1, .ref p), (2, .int (nI m)), (3, .int (nI n))] [.int (M (p + 6) n - 2 * M (p + 7) n)] (SK, M, N) _
      have h9 : decide (m = n) = true := by rw [(nI_eq (by omega) (by omega)).mp hc]; simp
      exact g_iret dX0_esteem_36 rfl rfl (⟨rfl, by rw [hk, h9]; rfl⟩)
  · refine g_aload_n (j := 0) (pc' := 1) dX0_esteem_0 rfl rfl ?_
    refine g_getR (pc' := 4) dX0_esteem_1 fX0_24 rfl rfl rfl ?_
    refine g_aload_n (j := 1) (pc' := 5) dX0_esteem_4 rfl rfl ?_
    refine g_getR (pc' := 8) dX0_esteem_5 fX0_40 hp.c0 rfl rfl ?_
    refine g_iload_n (j := 2) (pc' := 9) dX0_esteem_8 rfl rfl ?_
    refine g_iald (n := m) (pc' := 10) dX0_esteem_9 hp.c1 rfl (by omega) rfl ?_
    refine g_aald (n := 3) (pc' := 11) dX0_esteem_10 rfl ⟨rfl, rfl, by decide⟩ hk rfl rfl ?_
    refine g_aload_n (j := 1) (pc' := 12) dX0_esteem_11 rfl rfl ?_
    refine g_getR (pc' := 15) dX0_esteem_12 fX0_59 hp.c0 rfl rfl ?_
    refine g_iload_n (j := 3) (pc' := 16) dX0_esteem_15 rfl rfl ?_
    refine g_iald (n := n) (pc' := 17) dX0_esteem_16 hp.c6 rfl (by omega) rfl ?_
    refine g_aload_n (j := 1) (pc' := 18) dX0_esteem_17 rfl rfl ?_
    refine g_getR (pc' := 21) dX0_esteem_18 fX0_62 hp.c0 rfl rfl ?_
    refine g_iload_n (j := 3) (pc' := 22) dX0_esteem_21 rfl rfl ?_
    refine g_iald (n := n) (pc' := 23) dX0_esteem_22 hp.c7 rfl (by omega) rfl ?_
    refine g_iload_n (j := 2) (pc' := 24) dX0_esteem_23 rfl rfl ?_
    refine g_iload_n (j := 3) (pc' := 25) dX0_esteem_24 rfl rfl ?_
    refine g_icmp_ne (tgt := 32) (pc' := 28) dX0_esteem_25 (by decide) rfl (fun hc => ?_) (fun hc => ?_)
    · refine g_iconst (v := 0) (pc' := 33) dX0_esteem_32 (by decide) rfl ?_
      refine g_callO (x := xPlainW) (q := (RX2, TX2, 0)) (my := mX2_worthOf) (k := 6) (st := []) (av := [.int (M (p + 6) n), .int (M (p + 7) n), .int 0]) (mcr := 0) (msr := 0) (mc := 0) (ms := 0) (pc' := 36) dX0_esteem_33 kX2_worthOf wX0_65_3 hX0_65 nX0_65 rfl rfl rfl (Nat.le_of_ble_eq_true rfl) (by decide) (s_worth2 _ _ _ _ rfl) rfl ?_
      rintro _ _ ⟨rfl, rfl⟩
      show Go mX0_esteem _ _ _ 36 [(0, .ref 1), (1, .ref p), (2, .int (nI m)), (3, .int (nI n))] [.int (if (0 : Int32) = 0 then 2 * M (p + 6) n - M (p + 7) n + 0 else 2 * M (p + 6) n - M (p + 7) n + 9)] (SK, M, N) _
      have h9 : decide (m = n) = false := by simp; intro q; exact hc (by rw [q])
      exact g_iret dX0_esteem_36 rfl rfl (⟨rfl, by rw [hk, h9]; rfl⟩)
    · refine g_iconst (v := 1) (pc' := 29) dX0_esteem_28 (by decide) rfl ?_
      refine g_goto (tgt := 33) dX0_esteem_29 (by decide) ?_
      refine g_callO (x := xPlainW) (q := (RX2, TX2, 0)) (my := mX2_worthOf) (k := 6) (st := []) (av := [.int (M (p + 6) n), .int (M (p + 7) n), .int 1]) (mcr := 0) (msr := 0) (mc := 0) (ms := 0) (pc' := 36) dX0_esteem_33 kX2_worthOf wX0_65_3 hX0_65 nX0_65 rfl rfl rfl (Nat.le_of_ble_eq_true rfl) (by decide) (s_worth2 _ _ _ _ rfl) rfl ?_
      rintro _ _ ⟨rfl, rfl⟩
      show Go mX0_esteem _ _ _ 36 [(0, .ref 1), (1, .ref p), (2, .int (nI m)), (3, .int (nI n))] [.int (if (1 : Int32) = 0 then 2 * M (p + 6) n - M (p + 7) n + 0 else 2 * M (p + 6) n - M (p + 7) n + 9)] (SK, M, N) _
      have h9 : decide (m = n) = true := by rw [(nI_eq (by omega) (by omega)).mp hc]; simp
      exact g_iret dX0_esteem_36 rfl rfl (⟨rfl, by rw [hk, h9]; rfl⟩)
  · refine g_aload_n (j := 0) (pc' := 1) dX0_esteem_0 rfl rfl ?_
    refine g_getR (pc' := 4) dX0_esteem_1 fX0_24 rfl rfl rfl ?_
    refine g_aload_n (j := 1) (pc' := 5) dX0_esteem_4 rfl rfl ?_
    refine g_getR (pc' := 8) dX0_esteem_5 fX0_40 hp.c0 rfl rfl ?_
    refine g_iload_n (j := 2) (pc' := 9) dX0_esteem_8 rfl rfl ?_
    refine g_iald (n := m) (pc' := 10) dX0_esteem_9 hp.c1 rfl (by omega) rfl ?_
    refine g_aald (n := 4) (pc' := 11) dX0_esteem_10 rfl ⟨rfl, rfl, by decide⟩ hk rfl rfl ?_
    refine g_aload_n (j := 1) (pc' := 12) dX0_esteem_11 rfl rfl ?_
    refine g_getR (pc' := 15) dX0_esteem_12 fX0_59 hp.c0 rfl rfl ?_
    refine g_iload_n (j := 3) (pc' := 16) dX0_esteem_15 rfl rfl ?_
    refine g_iald (n := n) (pc' := 17) dX0_esteem_16 hp.c6 rfl (by omega) rfl ?_
    refine g_aload_n (j := 1) (pc' := 18) dX0_esteem_17 rfl rfl ?_
    refine g_getR (pc' := 21) dX0_esteem_18 fX0_62 hp.c0 rfl rfl ?_
    refine g_iload_n (j := 3) (pc' := 22) dX0_esteem_21 rfl rfl ?_
    refine g_iald (n := n) (pc' := 23) dX0_esteem_22 hp.c7 rfl (by omega) rfl ?_
    refine g_iload_n (j := 2) (pc' := 24) dX0_esteem_23 rfl rfl ?_
    refine g_iload_n (j := 3) (pc' := 25) dX0_esteem_24 rfl rfl ?_
    refine g_icmp_ne (tgt := 32) (pc' := 28) dX0_esteem_25 (by decide) rfl (fun hc => ?_) (fun hc => ?_)
    · refine g_iconst (v := 0) (pc' := 33) dX0_esteem_32 (by decide) rfl ?_
      refine g_callO (x := xPlainW) (q := (RX1, TX1, 0)) (my := mX7_worthOf) (k := 7) (st := []) (av := [.int (M (p + 6) n), .int (M (p + 7) n), .int 0]) (mcr := 0) (msr := 0) (mc := 0) (ms := 0) (pc' := 36) dX0_esteem_33 kX7_worthOf wX0_65_4 hX0_65 nX0_65 rfl rfl rfl (Nat.le_of_ble_eq_true rfl) (by decide) (s_worth7 7 _ _ _ _) rfl ?_
      rintro _ _ ⟨rfl, rfl⟩
      show Go mX0_esteem _ _ _ 36 [(0, .ref 1), (1, .ref p), (2, .int (nI m)), (3, .int (nI n))] [.int (M (p + 6) n - 2 * M (p + 7) n)] (SK, M, N) _
      have h9 : decide (m = n) = false := by simp; intro q; exact hc (by rw [q])
      exact g_iret dX0_esteem_36 rfl rfl (⟨rfl, by rw [hk, h9]; rfl⟩)
    · refine g_iconst (v := 1) (pc' := 29) dX0_esteem_28 (by decide) rfl ?_
      refine g_goto (tgt := 33) dX0_esteem_29 (by decide) ?_
      refine g_callO (x := xPlainW) (q := (RX1, TX1, 0)) (my := mX7_worthOf) (k := 7) (st := []) (av := [.int (M (p + 6) n), .int (M (p + 7) n), .int 1]) (mcr := 0) (msr := 0) (mc := 0) (ms := 0) (pc' := 36) dX0_esteem_33 kX7_worthOf wX0_65_4 hX0_65 nX0_65 rfl rfl rfl (Nat.le_of_ble_eq_true rfl) (by decide) (s_worth7 7 _ _ _ _) rfl ?_
      rintro _ _ ⟨rfl, rfl⟩
      show Go mX0_esteem _ _ _ 36 [(0, .ref 1), (1, .ref p), (2, .int (nI m)), (3, .int (nI n))] [.int (M (p + 6) n - 2 * M (p + 7) n)] (SK, M, N) _
      have h9 : decide (m = n) = true := by rw [(nI_eq (by omega) (by omega)).mp hc]; simp
      exact g_iret dX0_esteem_36 rfl rfl (⟨rfl, by rw [hk, h9]; rfl⟩)
