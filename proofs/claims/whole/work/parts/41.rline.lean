/-! ===== the line: inserted or picked, it is one ===== -/
def lt2 (off : Nat → Int32) (a b : Nat) : Prop := (off a).toInt < (off b).toInt ∨ ((off a).toInt = (off b).toInt ∧ a < b)
theorem plc_hi {off : Nat → Int32} {m : Nat} {l : Nat → Nat} : ∀ q j, plc off m l q ≤ j → j < q → off m < off (l j)
  | 0, j, _, h => absurd h (by omega)
  | q + 1, j, h1, h2 => by
    unfold plc at h1
    split at h1
    · rename_i c
      by_cases e : j = q
      · subst e; exact c
      · exact plc_hi q j h1 (by omega)
    · omega
theorem plc_lo {off : Nat → Int32} {m : Nat} {l : Nat → Nat} : ∀ q, 0 < plc off m l q → ¬ off m < off (l (plc off m l q - 1))
  | 0, h => absurd h (by unfold plc; omega)
  | q + 1, h => by
    unfold plc at h ⊢
    split
    · rename_i c
      rw [if_pos c] at h
      exact plc_lo q h
    · assumption
theorem lineA_sorted {off : Nat → Int32} : ∀ n, (∀ i j, i < j → j < n → lt2 off (lineA off n i) (lineA off n j)) ∧ ∀ m, m < n → ∃ i, i < n ∧ lineA off n i = m
  | 0 => ⟨fun i j _ h => absurd h (by omega), fun m h => absurd h (by omega)⟩
  | n + 1 => by
    obtain ⟨hs, hu⟩ := lineA_sorted (off := off) n
    have hq := plc_le (off := off) (m := n) (l := lineA off n) n
    have hhi := plc_hi (off := off) (m := n) (l := lineA off n) n
    have hlo := plc_lo (off := off) (m := n) (l := lineA off n) n
    have hlt : ∀ {j}, j < n → lineA off n j < n := fun h => lineA_lt h
    have e : lineA off (n + 1) = insA off n (lineA off n) := rfl
    rw [e]
    unfold insA
    generalize plc off n (lineA off n) n = p at hq hhi hlo
    generalize lineA off n = l at hs hu hhi hlo hlt
    have hlo2 : ∀ i, i < p → lt2 off (l i) n := fun i hi => by
      have h1 := hlo (by omega)
      rw [Int32.lt_iff_toInt_lt] at h1
      have h3 := hlt (show i < n by omega)
      by_cases e : i = p - 1
      · subst e; unfold lt2; omega
      · have h2 := hs i (p - 1) (by omega) (by omega)
        unfold lt2 at h2 ⊢
        omega
    have hhi2 : ∀ j, p ≤ j → j < n → lt2 off n (l j) := fun j h1 h2 => by
      have h3 := hhi j h1 h2
      rw [Int32.lt_iff_toInt_lt] at h3
      exact Or.inl h3
    refine ⟨fun i j hij hj => ?_, fun m hm => ?_⟩
    · by_cases j1 : j < p
      · rw [if_pos j1, if_pos (by omega)]; exact hs i j hij (by omega)
      · rw [if_neg j1]
        by_cases j2 : j = p
        · rw [if_pos j2, if_pos (by omega)]; exact hlo2 i (by omega)
        · rw [if_neg j2]
          by_cases i1 : i < p
          · rw [if_pos i1]; exact hs i (j - 1) (by omega) (by omega)
          · rw [if_neg i1]
            by_cases i2 : i = p
            · rw [if_pos i2]; exact hhi2 (j - 1) (by omega) (by omega)
            · rw [if_neg i2]; exact hs (i - 1) (j - 1) (by omega) (by omega)
    · by_cases e : m = n
      · exact ⟨p, by omega, by rw [if_neg (by omega), if_pos rfl, e]⟩
      · obtain ⟨i, hi, he⟩ := hu m (by omega)
        by_cases c : i < p
        · exact ⟨i, by omega, by rw [if_pos c]; exact he⟩
        · exact ⟨i + 1, by omega, by rw [if_neg (by omega), if_neg (by omega)]; exact he⟩
/-- the first of the men < m that are not in S -/
def selS (off : Nat → Int32) (S : Nat) : Nat → Option Nat
  | 0 => none
  | m + 1 => if S.testBit m then selS off S m else match selS off S m with
    | none => some m
    | some f => if off m < off f then some m else some f
theorem selS_some {off : Nat → Int32} {S : Nat} : ∀ {m f : Nat}, selS off S m = some f → f < m ∧ S.testBit f = false ∧ ∀ x, x < m → S.testBit x = false → x ≠ f → lt2 off f x
  | 0, f, h => by cases h
  | m + 1, f, h => by
    unfold selS at h
    split at h
    · rename_i c
      obtain ⟨h1, h2, h3⟩ := selS_some h
      refine ⟨by omega, h2, fun x hx hS hf => ?_⟩
      by_cases e : x = m
      · subst e; rw [c] at hS; cases hS
      · exact h3 x (by omega) hS hf
    · rename_i c
      have c' : S.testBit m = false := by
        cases hb : S.testBit m with
        | true => exact absurd hb c
        | false => rfl
      split at h
      · rename_i hn
        cases h
        refine ⟨by omega, c', fun x hx hS hf => ?_⟩
        exact absurd hS (by rw [selS_none hn x (by omega)]; decide)
      · rename_i g hg
        obtain ⟨h1, h2, h3⟩ := selS_some hg
        split at h
        · rename_i cl
          cases h
          rw [Int32.lt_iff_toInt_lt] at cl
          refine ⟨by omega, c', fun x hx hS hf => ?_⟩
          by_cases e : x = g
          · subst e; exact Or.inl cl
          · have := h3 x (by omega) hS e
            unfold lt2 at this ⊢
            omega
        · rename_i cl
          cases h
          rw [Int32.lt_iff_toInt_lt] at cl
          refine ⟨by omega, h2, fun x hx hS hf => ?_⟩
          by_cases e : x = m
          · subst e; unfold lt2; omega
          · exact h3 x (by omega) hS hf
where selS_none {off : Nat → Int32} {S : Nat} : ∀ {m : Nat}, selS off S m = none → ∀ x, x < m → S.testBit x = true
  | 0, _, x, hx => absurd hx (by omega)
  | m + 1, h, x, hx => by
    unfold selS at h
    split at h
    · rename_i c
      by_cases e : x = m
      · subst e; exact c
      · exact selS_none h x (by omega)
    · split at h
      · cases h
      · split at h <;> cases h
/-- those at the first t places -/
def setL (l : Nat → Nat) : Nat → Nat
  | 0 => 0
  | t + 1 => setL l t ||| 2 ^ l t
theorem setL_bit {l : Nat → Nat} {x : Nat} : ∀ t, (setL l t).testBit x = true ↔ ∃ j, j < t ∧ l j = x
  | 0 => by
    unfold setL
    rw [Nat.zero_testBit]
    exact ⟨fun h => (by cases h), fun ⟨j, hj, _⟩ => absurd hj (by omega)⟩
  | t + 1 => by
    unfold setL
    rw [Nat.testBit_or, Nat.testBit_two_pow, Bool.or_eq_true, setL_bit t, decide_eq_true_iff]
    constructor
    · rintro (⟨j, hj, e⟩ | e)
      · exact ⟨j, by omega, e⟩
      · exact ⟨t, by omega, e⟩
    · rintro ⟨j, hj, e⟩
      by_cases c : j = t
      · subst c; exact Or.inr e
      · exact Or.inl ⟨j, by omega, e⟩
theorem setL_lt {l : Nat → Nat} {n : Nat} (hl : ∀ j, j < n → l j < 6) : ∀ t, t ≤ n → setL l t < 64
  | 0, _ => by unfold setL; omega
  | t + 1, h => by unfold setL; exact or64 (setL_lt hl t (by omega)) (hl t (by omega))
theorem selS_line {off : Nat → Int32} {n t : Nat} (ht : t < n) : selS off (setL (lineA off n) t) n = some (lineA off n t) := by
  obtain ⟨hs, hu⟩ := lineA_sorted (off := off) n
  have hlt := lineA_lt (off := off) ht
  generalize lineA off n = l at hs hu hlt ⊢
  have hne : ∀ {i j}, i < j → j < n → l i ≠ l j := fun h1 h2 q => by
    have := hs _ _ h1 h2
    unfold lt2 at this
    rw [q] at this
    omega
  have hfree : (setL l t).testBit (l t) = false := by
    cases hb : (setL l t).testBit (l t) with
    | false => rfl
    | true =>
      obtain ⟨j, hj, e⟩ := (setL_bit t).mp hb
      exact absurd e (hne hj ht)
  cases h : selS off (setL l t) n with
  | none => exact absurd (selS_some.selS_none h (l t) hlt) (by rw [hfree]; decide)
  | some f =>
    obtain ⟨h1, h2, h3⟩ := selS_some h
    by_cases e : f = l t
    · rw [e]
    · exfalso
      have h4 := h3 (l t) hlt hfree (fun q => e q.symm)
      obtain ⟨j, hj, rfl⟩ := hu f h1
      have hjt : ¬ j < t := fun q => absurd ((setL_bit t).mpr ⟨j, q, rfl⟩) (by rw [h2]; decide)
      have h5 := hs t j (by rcases Nat.lt_or_eq_of_le (Nat.le_of_not_lt hjt) with q | q; exact q; exact absurd (by rw [q]) e) hj
      unfold lt2 at h4 h5
      omega
set_option maxRecDepth 100000 in
set_option maxHeartbeats 1000000 in
theorem r_layLine {M : Nat → Nat → Int32} {N : Nat → Nat → Int64} {n c : Nat} {off : Nat → Int32} (hs : SK[c]? = some (100, rep 352)) (hc9 : c ≠ 199) (h6 : n ≤ 6) (hn : M c 0 = nI n) (ho : ∀ m, m < n → M 198 m = off m) : Run mX12_layLine 0 0 0 [.ref 189, .ref c] (SK, M, N) (fun r h' => ∃ M', h' = (SK, M', N) ∧ r = none ∧ (∀ j, j < n → M' 199 j = nI (lineA off n j)) ∧ ∀ a, a ≠ 199 → M' a = M a) := by
  refine Run.of (by decide) (Nat.le_of_ble_eq_true rfl) ?_
  refine g_iconst (v := 0) (pc' := 1) dX12_layLine_0 (by decide) rfl ?_
  refine g_istore_n (L' := [(0, .ref 189), (1, .ref c), (2, .int 0)]) (pc' := 2) dX12_layLine_1 (by decide) rfl rfl ?_
  refine g_iconst (v := 0) (pc' := 3) dX12_layLine_2 (by decide) rfl ?_
  refine g_istore_n (L' := [(0, .ref 189), (1, .ref c), (2, .int 0), (3, .int 0)]) (pc' := 4) dX12_layLine_3 (by decide) rfl rfl ?_
  have hll : ∀ {j}, j < n → lineA off n j < n := fun h => lineA_lt h
  have hsel := @selS_line off n
  have hSl : ∀ t, t ≤ n → setL (lineA off n) t < 64 := setL_lt (fun j hj => by have := hll hj; omega)
  generalize lineA off n = l at hll hsel hSl
  have loop : ∀ (i t : Nat) (M1 : Nat → Nat → Int32), t + i = n → (∀ j, j < t → M1 199 j = nI (l j)) → (∀ a, a ≠ 199 → M1 a = M a) → Go mX12_layLine 0 0 0 4 [(0, .ref 189), (1, .ref c), (2, .int (nI (setL l t))), (3, .int (nI t))] [] (SK, M1, N) (fun r h' => ∃ M', h' = (SK, M', N) ∧ r = none ∧ (∀ j, j < n → M' 199 j = nI (l j)) ∧ ∀ a, a ≠ 199 → M' a = M a) := by
    intro i
    induction i with
    | zero =>
      intro t M1 ht h1 hf
      have hn1 : M1 c 0 = nI n := by rw [hf c hc9]; exact hn
      refine g_iload_n (j := 3) (pc' := 5) dX12_layLine_4 rfl rfl ?_
      refine g_aload_n (j := 1) (pc' := 6) dX12_layLine_5 rfl rfl ?_
      refine g_iconst (v := 0) (pc' := 7) dX12_layLine_6 (by decide) rfl ?_
      refine g_iald (n := 0) (pc' := 8) dX12_layLine_7 hs rfl (by omega) rfl ?_
      refine g_top (y := nI n) (hn1) ?_
      refine g_icmp_ge (tgt := 107) (pc' := 11) dX12_layLine_8 (by decide) rfl (fun hc => ?_) (fun hc => (absurd (nI_le (a := n) (b := t) (by omega) (by omega)) hc))
      obtain rfl : t = n := by omega
      exact g_vret dX12_layLine_107 rfl (⟨M1, rfl, rfl, h1, hf⟩)
    | succ i ih =>
      intro t M1 ht h1 hf
      have hn1 : M1 c 0 = nI n := by rw [hf c hc9]; exact hn
      refine g_iload_n (j := 3) (pc' := 5) dX12_layLine_4 rfl rfl ?_
      refine g_aload_n (j := 1) (pc' := 6) dX12_layLine_5 rfl rfl ?_
      refine g_iconst (v := 0) (pc' := 7) dX12_layLine_6 (by decide) rfl ?_
      refine g_iald (n := 0) (pc' := 8) dX12_layLine_7 hs rfl (by omega) rfl ?_
      refine g_top (y := nI n) (hn1) ?_
      refine g_icmp_ge (tgt := 107) (pc' := 11) dX12_layLine_8 (by decide) rfl (fun hc => (absurd hc (nI_ge (a := t) (b := n) (by omega) (by omega)))) (fun hc => ?_)
      have hS := hSl t (by omega)
      have hih := fun M2 => ih (t + 1) M2 (by omega)
      have hst := hsel (t := t) (by omega)
      have hlt := hll (show t < n by omega)
      rw [show setL l (t + 1) = setL l t ||| 2 ^ l t from rfl] at hih
      generalize setL l t = S at hS hst hih
      refine g_bipush (v := (-4)) (pc' := 13) dX12_layLine_11 (by decide) rfl ?_
      refine g_istore (L' := [(0, .ref 189), (1, .ref c), (2, .int (nI S)), (3, .int (nI t)), (4, .int (-4))]) (pc' := 15) dX12_layLine_13 (by decide) rfl rfl ?_
      refine g_iconst (v := 0) (pc' := 16) dX12_layLine_15 (by decide) rfl ?_
      refine g_istore (L' := [(0, .ref 189), (1, .ref c), (2, .int (nI S)), (3, .int (nI t)), (4, .int (-4)), (5, .int 0)]) (pc' := 18) dX12_layLine_16 (by decide) rfl rfl ?_
      have inn : ∀ (g m : Nat), m + g = n → Go mX12_layLine 0 0 0 18 [(0, .ref 189), (1, .ref c), (2, .int (nI S)), (3, .int (nI t)), (4, .int (optI (-4) (selS off S m))), (5, .int (nI m))] [] (SK, M1, N) (fun r h' => ∃ M', h' = (SK, M', N) ∧ r = none ∧ (∀ j, j < n → M' 199 j = nI (l j)) ∧ ∀ a, a ≠ 199 → M' a = M a) := by
        intro g
        induction g with
        | zero =>
          intro m hm
          refine g_iload (j := 5) (pc' := 20) dX12_layLine_18 rfl rfl ?_
          refine g_aload_n (j := 1) (pc' := 21) dX12_layLine_20 rfl rfl ?_
          refine g_iconst (v := 0) (pc' := 22) dX12_layLine_21 (by decide) rfl ?_
          refine g_iald (n := 0) (pc' := 23) dX12_layLine_22 hs rfl (by omega) rfl ?_
          refine g_top (y := nI n) (hn1) ?_
          refine g_icmp_ge (tgt := 86) (pc' := 26) dX12_layLine_23 (by decide) rfl (fun hc => ?_) (fun hc => (absurd (nI_le (a := n) (b := m) (by omega) (by omega)) hc))
          obtain rfl : m = n := by omega
          rw [hst]
          show Go mX12_layLine _ _ _ 86 [(0, .ref 189), (1, .ref c), (2, .int (nI S)), (3, .int (nI t)), (4, .int (nI (l t))), (5, .int (nI m))] [] (SK, M1, N) _
          refine g_aload_n (j := 0) (pc' := 87) dX12_layLine_86 rfl rfl ?_
          refine g_getR (pc' := 90) dX12_layLine_87 fX12_38 rfl rfl rfl ?_
          refine g_iload_n (j := 3) (pc' := 91) dX12_layLine_90 rfl rfl ?_
          refine g_iload (j := 4) (pc' := 93) dX12_layLine_91 rfl rfl ?_
          refine g_iast (n := t) (pc' := 94) dX12_layLine_93 rfl rfl (by omega) rfl ?_
          generalize hM2 : (um M1 199 t (nI (l t))) = M2
          refine g_iload_n (j := 2) (pc' := 95) dX12_layLine_94 rfl rfl ?_
          refine g_iconst (v := 1) (pc' := 96) dX12_layLine_95 (by decide) rfl ?_
          refine g_iload (j := 4) (pc' := 98) dX12_layLine_96 rfl rfl ?_
          refine g_ishl (pc' := 99) dX12_layLine_98 rfl ?_
          refine g_ior (pc' := 100) dX12_layLine_99 rfl ?_
          refine g_top (y := nI (S ||| 2 ^ l t)) (orbN hS (by omega)) ?_
          refine g_istore_n (L' := [(0, .ref 189), (1, .ref c), (2, .int (nI (S ||| 2 ^ l t))), (3, .int (nI t)), (4, .int (nI (l t))), (5, .int (nI m))]) (pc' := 101) dX12_layLine_100 (by decide) rfl rfl ?_
          refine g_iinc (j := 3) (v := nI (t + 1)) (L' := [(0, .ref 189), (1, .ref c), (2, .int (nI (S ||| 2 ^ l t))), (3, .int (nI (t + 1))), (4, .int (nI (l t))), (5, .int (nI m))]) (pc' := 104) dX12_layLine_101 rfl (nI_1 t) (by decide) rfl rfl ?_
          refine g_goto (tgt := 4) dX12_layLine_104 (by decide) ?_
          refine g_less (L' := [(0, .ref 189), (1, .ref c), (2, .int (nI (S ||| 2 ^ l t))), (3, .int (nI (t + 1)))]) [0, 1, 2, 3] rfl ?_
          refine hih M2 (fun j hj => ?_) (fun a ha => by rw [← hM2, um_ne ha]; exact hf a ha)
          rw [← hM2]
          by_cases e : j = t
          · subst e; exact um_at
          · rw [um_at2 e]; exact h1 j (by omega)
        | succ g ihg =>
          intro m hm
          refine g_iload (j := 5) (pc' := 20) dX12_layLine_18 rfl rfl ?_
          refine g_aload_n (j := 1) (pc' := 21) dX12_layLine_20 rfl rfl ?_
          refine g_iconst (v := 0) (pc' := 22) dX12_layLine_21 (by decide) rfl ?_
          refine g_iald (n := 0) (pc' := 23) dX12_layLine_22 hs rfl (by omega) rfl ?_
          refine g_top (y := nI n) (hn1) ?_
          refine g_icmp_ge (tgt := 86) (pc' := 26) dX12_layLine_23 (by decide) rfl (fun hc => (absurd hc (nI_ge (a := m) (b := n) (by omega) (by omega)))) (fun hc => ?_)
          have hnx := ihg (m + 1) (by omega)
          refine g_iload_n (j := 2) (pc' := 27) dX12_layLine_26 rfl rfl ?_
          refine g_iload (j := 5) (pc' := 29) dX12_layLine_27 rfl rfl ?_
          refine g_ishr (pc' := 30) dX12_layLine_29 rfl ?_
          refine g_iconst (v := 1) (pc' := 31) dX12_layLine_30 (by decide) rfl ?_
          refine g_iand (pc' := 32) dX12_layLine_31 rfl ?_
          refine g_if_ne (tgt := 63) (pc' := 35) dX12_layLine_32 (by decide) rfl (fun hc6 => ?_) (fun hc6 => ?_)
          · rw [show selS off S (m + 1) = selS off S m by rw [selS, if_pos (tb_true hS (by omega) hc6)]] at hnx
            refine g_iconst (v := 0) (pc' := 64) dX12_layLine_63 (by decide) rfl ?_
            refine g_istore (L' := [(0, .ref 189), (1, .ref c), (2, .int (nI S)), (3, .int (nI t)), (4, .int (optI (-4) (selS off S m))), (5, .int (nI m)), (6, .int 0)]) (pc' := 66) dX12_layLine_64 (by decide) rfl rfl ?_
            refine g_iload (j := 6) (pc' := 68) dX12_layLine_66 rfl rfl ?_
            refine g_if_eq (tgt := 76) (pc' := 71) dX12_layLine_68 (by decide) rfl (fun _ => ?_) (fun hc => absurd rfl hc)
            refine g_iload (j := 4) (pc' := 78) dX12_layLine_76 rfl rfl ?_
            refine g_istore (L' := [(0, .ref 189), (1, .ref c), (2, .int (nI S)), (3, .int (nI t)), (4, .int (optI (-4) (selS off S m))), (5, .int (nI m)), (6, .int 0)]) (pc' := 80) dX12_layLine_78 (by decide) rfl rfl ?_
            refine g_iinc (j := 5) (v := nI (m + 1)) (L' := [(0, .ref 189), (1, .ref c), (2, .int (nI S)), (3, .int (nI t)), (4, .int (optI (-4) (selS off S m))), (5, .int (nI (m + 1))), (6, .int 0)]) (pc' := 83) dX12_layLine_80 rfl (nI_1 m) (by decide) rfl rfl ?_
            refine g_goto (tgt := 18) dX12_layLine_83 (by decide) ?_
            refine g_less (L' := [(0, .ref 189), (1, .ref c), (2, .int (nI S)), (3, .int (nI t)), (4, .int (optI (-4) (selS off S m))), (5, .int (nI (m + 1)))]) [0, 1, 2, 3, 4, 5] rfl ?_
            exact hnx
          · have hb := (bitN hS (show m < 6 by omega)).mp hc6
            have hsm := fun f => @selS_some off S m f
            have hE : selS off S (m + 1) = (match selS off S m with | none => some m | some f => if off m < off f then some m else some f) := by rw [selS, if_neg (by rw [hb]; decide)]
            rw [hE] at hnx
            generalize selS off S m = s at hnx hsm
            cases s with
            | none =>
              show Go mX12_layLine _ _ _ 35 [(0, .ref 189), (1, .ref c), (2, .int (nI S)), (3, .int (nI t)), (4, .int (-4)), (5, .int (nI m))] [] (SK, M1, N) _
              refine g_iload (j := 4) (pc' := 37) dX12_layLine_35 rfl rfl ?_
              refine g_bipush (v := (-4)) (pc' := 39) dX12_layLine_37 (by decide) rfl ?_
              refine g_icmp_eq (tgt := 59) (pc' := 42) dX12_layLine_39 (by decide) rfl (fun hc => ?_) (fun hc => (absurd rfl hc))
              refine g_iconst (v := 1) (pc' := 60) dX12_layLine_59 (by decide) rfl ?_
              refine g_goto (tgt := 64) dX12_layLine_60 (by decide) ?_
              refine g_istore (L' := [(0, .ref 189), (1, .ref c), (2, .int (nI S)), (3, .int (nI t)), (4, .int (-4)), (5, .int (nI m)), (6, .int 1)]) (pc' := 66) dX12_layLine_64 (by decide) rfl rfl ?_
              refine g_iload (j := 6) (pc' := 68) dX12_layLine_66 rfl rfl ?_
              refine g_if_eq (tgt := 76) (pc' := 71) dX12_layLine_68 (by decide) rfl (fun hc => absurd hc (by decide)) (fun _ => ?_)
              refine g_iload (j := 5) (pc' := 73) dX12_layLine_71 rfl rfl ?_
              refine g_goto (tgt := 78) dX12_layLine_73 (by decide) ?_
              refine g_istore (L' := [(0, .ref 189), (1, .ref c), (2, .int (nI S)), (3, .int (nI t)), (4, .int (nI m)), (5, .int (nI m)), (6, .int 1)]) (pc' := 80) dX12_layLine_78 (by decide) rfl rfl ?_
              refine g_iinc (j := 5) (v := nI (m + 1)) (L' := [(0, .ref 189), (1, .ref c), (2, .int (nI S)), (3, .int (nI t)), (4, .int (nI m)), (5, .int (nI (m + 1))), (6, .int 1)]) (pc' := 83) dX12_layLine_80 rfl (nI_1 m) (by decide) rfl rfl ?_
              refine g_goto (tgt := 18) dX12_layLine_83 (by decide) ?_
              refine g_less (L' := [(0, .ref 189), (1, .ref c), (2, .int (nI S)), (3, .int (nI t)), (4, .int (nI m)), (5, .int (nI (m + 1)))]) [0, 1, 2, 3, 4, 5] rfl ?_
              exact hnx
            | some f =>
              show Go mX12_layLine _ _ _ 35 [(0, .ref 189), (1, .ref c), (2, .int (nI S)), (3, .int (nI t)), (4, .int (nI f)), (5, .int (nI m))] [] (SK, M1, N) _
              dsimp only at hnx
              have hfm := (hsm f rfl).1
              refine g_iload (j := 4) (pc' := 37) dX12_layLine_35 rfl rfl ?_
              refine g_bipush (v := (-4)) (pc' := 39) dX12_layLine_37 (by decide) rfl ?_
              refine g_icmp_eq (tgt := 59) (pc' := 42) dX12_layLine_39 (by decide) rfl (fun hc => (absurd hc (nI_ne_m4 (by omega)))) (fun hc => ?_)
              refine g_aload_n (j := 0) (pc' := 43) dX12_layLine_42 rfl rfl ?_
              refine g_getR (pc' := 46) dX12_layLine_43 fX12_35 rfl rfl rfl ?_
              refine g_iload (j := 5) (pc' := 48) dX12_layLine_46 rfl rfl ?_
              refine g_iald (n := m) (pc' := 49) dX12_layLine_48 rfl rfl (by omega) rfl ?_
              refine g_top (y := off m) (by rw [hf 198 (by omega)]; exact ho m (by omega)) ?_
              refine g_aload_n (j := 0) (pc' := 50) dX12_layLine_49 rfl rfl ?_
              refine g_getR (pc' := 53) dX12_layLine_50 fX12_35 rfl rfl rfl ?_
              refine g_iload (j := 4) (pc' := 55) dX12_layLine_53 rfl rfl ?_
              refine g_iald (n := f) (pc' := 56) dX12_layLine_55 rfl rfl (by omega) rfl ?_
              refine g_top (y := off f) (by rw [hf 198 (by omega)]; exact ho f (by omega)) ?_
              refine g_icmp_ge (tgt := 63) (pc' := 59) dX12_layLine_56 (by decide) rfl (fun hc7 => ?_) (fun hc7 => ?_)
              · rw [if_neg (Int32.not_lt.mpr hc7)] at hnx
                refine g_iconst (v := 0) (pc' := 64) dX12_layLine_63 (by decide) rfl ?_
                refine g_istore (L' := [(0, .ref 189), (1, .ref c), (2, .int (nI S)), (3, .int (nI t)), (4, .int (nI f)), (5, .int (nI m)), (6, .int 0)]) (pc' := 66) dX12_layLine_64 (by decide) rfl rfl ?_
                refine g_iload (j := 6) (pc' := 68) dX12_layLine_66 rfl rfl ?_
                refine g_if_eq (tgt := 76) (pc' := 71) dX12_layLine_68 (by decide) rfl (fun _ => ?_) (fun hc => absurd rfl hc)
                refine g_iload (j := 4) (pc' := 78) dX12_layLine_76 rfl rfl ?_
                refine g_istore (L' := [(0, .ref 189), (1, .ref c), (2, .int (nI S)), (3, .int (nI t)), (4, .int (nI f)), (5, .int (nI m)), (6, .int 0)]) (pc' := 80) dX12_layLine_78 (by decide) rfl rfl ?_
                refine g_iinc (j := 5) (v := nI (m + 1)) (L' := [(0, .ref 189), (1, .ref c), (2, .int (nI S)), (3, .int (nI t)), (4, .int (nI f)), (5, .int (nI (m + 1))), (6, .int 0)]) (pc' := 83) dX12_layLine_80 rfl (nI_1 m) (by decide) rfl rfl ?_
                refine g_goto (tgt := 18) dX12_layLine_83 (by decide) ?_
                refine g_less (L' := [(0, .ref 189), (1, .ref c), (2, .int (nI S)), (3, .int (nI t)), (4, .int (nI f)), (5, .int (nI (m + 1)))]) [0, 1, 2, 3, 4, 5] rfl ?_
                exact hnx
              · rw [if_pos (Int32.not_le.mp hc7)] at hnx
                refine g_iconst (v := 1) (pc' := 60) dX12_layLine_59 (by decide) rfl ?_
                refine g_goto (tgt := 64) dX12_layLine_60 (by decide) ?_
                refine g_istore (L' := [(0, .ref 189), (1, .ref c), (2, .int (nI S)), (3, .int (nI t)), (4, .int (nI f)), (5, .int (nI m)), (6, .int 1)]) (pc' := 66) dX12_layLine_64 (by decide) rfl rfl ?_
                refine g_iload (j := 6) (pc' := 68) dX12_layLine_66 rfl rfl ?_
                refine g_if_eq (tgt := 76) (pc' := 71) dX12_layLine_68 (by decide) rfl (fun hc => absurd hc (by decide)) (fun _ => ?_)
                refine g_iload (j := 5) (pc' := 73) dX12_layLine_71 rfl rfl ?_
                refine g_goto (tgt := 78) dX12_layLine_73 (by decide) ?_
                refine g_istore (L' := [(0, .ref 189), (1, .ref c), (2, .int (nI S)), (3, .int (nI t)), (4, .int (nI m)), (5, .int (nI m)), (6, .int 1)]) (pc' := 80) dX12_layLine_78 (by decide) rfl rfl ?_
                refine g_iinc (j := 5) (v := nI (m + 1)) (L' := [(0, .ref 189), (1, .ref c), (2, .int (nI S)), (3, .int (nI t)), (4, .int (nI m)), (5, .int (nI (m + 1))), (6, .int 1)]) (pc' := 83) dX12_layLine_80 rfl (nI_1 m) (by decide) rfl rfl ?_
                refine g_goto (tgt := 18) dX12_layLine_83 (by decide) ?_
                refine g_less (L' := [(0, .ref 189), (1, .ref c), (2, .int (nI S)), (3, .int (nI t)), (4, .int (nI m)), (5, .int (nI (m + 1)))]) [0, 1, 2, 3, 4, 5] rfl ?_
                exact hnx
      exact inn n 0 (by omega)
  exact loop n 0 M (by omega) (fun j hj => absurd hj (by omega)) (fun _ _ => rfl)
