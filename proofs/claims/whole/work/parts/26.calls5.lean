/-! ===== change ===== -/
theorem nI_m1 {c : Nat} (h : c < 2147483648) : ¬ nI c = -1 := by
  intro q
  have h2 := congrArg Int32.toInt q
  rw [nI_toInt h] at h2
  have h4 : (-1 : Int32).toInt = -1 := by decide
  omega
theorem m1_le {c : Nat} (h : c < 2147483648) : (-1 : Int32) ≤ nI c := by
  rw [Int32.le_iff_toInt_le, nI_toInt h]
  have h4 : (-1 : Int32).toInt = -1 := by decide
  omega
def rowL (f : Nat → Nat → Bool) (i : Nat) : Nat → List (Nat × Nat)
  | 0 => []
  | j + 1 => if i < j ∧ f i j = true ∧ f j i = true then rowL f i j ++ [(i, j)] else rowL f i j
def allL (f : Nat → Nat → Bool) (n : Nat) : Nat → List (Nat × Nat)
  | 0 => []
  | i + 1 => allL f n i ++ rowL f i n
theorem rowL_pre (f : Nat → Nat → Bool) (i : Nat) : ∀ {j n : Nat}, j ≤ n → ∃ t, rowL f i n = rowL f i j ++ t := by
  intro j n h
  induction n with
  | zero => exact ⟨[], by rw [show j = 0 by omega]; rfl⟩
  | succ n ih =>
    by_cases e : j = n + 1
    · subst e; exact ⟨[], (List.append_nil _).symm⟩
    · obtain ⟨t, ht⟩ := ih (by omega)
      by_cases hq : i < n ∧ f i n = true ∧ f n i = true
      · have e2 : rowL f i (n + 1) = rowL f i n ++ [(i, n)] := by
          show (if i < n ∧ f i n = true ∧ f n i = true then rowL f i n ++ [(i, n)] else rowL f i n) = _
          rw [if_pos hq]
        exact ⟨t ++ [(i, n)], by rw [e2, ht, List.append_assoc]⟩
      · have e2 : rowL f i (n + 1) = rowL f i n := by
          show (if i < n ∧ f i n = true ∧ f n i = true then rowL f i n ++ [(i, n)] else rowL f i n) = _
          rw [if_neg hq]
        exact ⟨t, by rw [e2, ht]⟩
theorem allL_pre (f : Nat → Nat → Bool) (n : Nat) : ∀ {i m : Nat}, i ≤ m → ∃ t, allL f n m = allL f n i ++ t := by
  intro i m h
  induction m with
  | zero => exact ⟨[], by rw [show i = 0 by omega]; rfl⟩
  | succ m ih =>
    by_cases e : i = m + 1
    · subst e; exact ⟨[], (List.append_nil _).symm⟩
    · obtain ⟨t, ht⟩ := ih (by omega)
      exact ⟨t ++ rowL f m n, by show allL f n m ++ _ = _; rw [ht, List.append_assoc]⟩
theorem rowL_le (f : Nat → Nat → Bool) (i : Nat) : ∀ j, (rowL f i j).length ≤ j - (i + 1)
  | 0 => Nat.zero_le _
  | j + 1 => by
    have := rowL_le f i j
    unfold rowL
    split
    · rename_i h; rw [List.length_append, List.length_singleton]; omega
    · omega
theorem allL_le (f : Nat → Nat → Bool) (n : Nat) : ∀ i, (allL f n i).length ≤ i * n
  | 0 => by simp [allL]
  | i + 1 => by
    have h1 := allL_le f n i
    have h2 := rowL_le f i n
    show (allL f n i ++ rowL f i n).length ≤ _
    rw [List.length_append, Nat.succ_mul]
    omega
/-- the pairs that would rather change -/
def chgL (P : Nat → Int32) (n : Nat) : List (Nat × Nat) := allL (wchP P) n n
/-- the c-th of them, as told -/
def chgV (l : List (Nat × Nat)) (c : Nat) : Int32 := match l[c]? with
  | none => -4
  | some q => 10 * nI q.1 + nI q.2
theorem chg_at {P : Nat → Int32} {n i j : Nat} (hi : i < n) (hij : i < j) (hj : j < n) (h1 : wchP P i j = true) (h2 : wchP P j i = true) : (chgL P n)[(allL (wchP P) n i ++ rowL (wchP P) i j).length]? = some (i, j) := by
  obtain ⟨t1, e1⟩ := allL_pre (wchP P) n (i := i + 1) (m := n) (by omega)
  obtain ⟨t2, e2⟩ := rowL_pre (wchP P) i (j := j + 1) (n := n) (by omega)
  have e3 : rowL (wchP P) i (j + 1) = rowL (wchP P) i j ++ [(i, j)] := by
    conv => lhs; unfold rowL
    rw [if_pos ⟨hij, h1, h2⟩]
  have e4 : chgL P n = (allL (wchP P) n i ++ rowL (wchP P) i j) ++ ((i, j) :: (t2 ++ t1)) := by
    unfold chgL
    rw [e1]
    show allL (wchP P) n i ++ rowL (wchP P) i n ++ t1 = _
    rw [e2, e3]
    simp
  rw [e4]
  simp
set_option maxRecDepth 100000 in
set_option maxHeartbeats 1000000 in
theorem c_change_b {M : Nat → Nat → Int32} {N : Nat → Nat → Int64} {n k : Nat} {P : Nat → Int32} {pa : List (Nat → Int32)} {kp : Option YS} {tp : List Int32} {sh : Nat → Option (Nat × Nat × (Nat → Int64))} (hA : AOk ((n, k, P, pa), kp, tp, sh)) (hI : CI M N ((n, k, P, pa), kp, tp, sh)) {v : Int32} (h1 : v < -1) : Run mX11_change 30 0 0 [.ref 0, .int v] (SK, M, N) (CQ M N (-1) ((n, k, P, pa), kp, tp, sh)) := by
  refine Run.of (by decide) (Nat.le_of_ble_eq_true rfl) ?_
  have hok : OkP n k P := hA.1.1.1
  have hc0 : IsC M 14 n k P := hI.1.1
  have hn6 := hok.1
  have hk6 := hok.2.1
  refine g_iload_n (j := 1) (pc' := 1) dX11_change_0 rfl rfl ?_
  refine g_iconst (v := (-1)) (pc' := 2) dX11_change_1 (by decide) rfl ?_
  refine g_icmp_ge (tgt := 7) (pc' := 5) dX11_change_2 (by decide) rfl (fun hc => (absurd h1 (Int32.not_lt.mpr hc))) (fun hc => ?_)
  refine g_iconst (v := (-1)) (pc' := 6) dX11_change_5 (by decide) rfl ?_
  exact g_iret dX11_change_6 rfl rfl (CQ.same hI)
set_option maxRecDepth 100000 in
set_option maxHeartbeats 1000000 in
theorem c_change_n {M : Nat → Nat → Int32} {N : Nat → Nat → Int64} {n k : Nat} {P : Nat → Int32} {pa : List (Nat → Int32)} {kp : Option YS} {tp : List Int32} {sh : Nat → Option (Nat × Nat × (Nat → Int64))} (hA : AOk ((n, k, P, pa), kp, tp, sh)) (hI : CI M N ((n, k, P, pa), kp, tp, sh))  : Run mX11_change 30 0 0 [.ref 0, .int (-1)] (SK, M, N) (CQ M N (nI (chgL P n).length) ((n, k, P, pa), kp, tp, sh)) := by
  refine Run.of (by decide) (Nat.le_of_ble_eq_true rfl) ?_
  have hok : OkP n k P := hA.1.1.1
  have hc0 : IsC M 14 n k P := hI.1.1
  have hn6 := hok.1
  have hk6 := hok.2.1
  refine g_iload_n (j := 1) (pc' := 1) dX11_change_0 rfl rfl ?_
  refine g_iconst (v := (-1)) (pc' := 2) dX11_change_1 (by decide) rfl ?_
  refine g_icmp_ge (tgt := 7) (pc' := 5) dX11_change_2 (by decide) rfl (fun hc => ?_) (fun hc => (absurd (by decide) hc))
  refine g_iconst (v := 0) (pc' := 8) dX11_change_7 (by decide) rfl ?_
  refine g_istore_n (L' := [(0, .ref 0), (1, .int (-1)), (2, .int 0)]) (pc' := 9) dX11_change_8 (by decide) rfl rfl ?_
  refine g_iconst (v := 0) (pc' := 10) dX11_change_9 (by decide) rfl ?_
  refine g_istore_n (L' := [(0, .ref 0), (1, .int (-1)), (2, .int 0), (3, .int 0)]) (pc' := 11) dX11_change_10 (by decide) rfl rfl ?_
  have hall := allL_le (wchP P) n
  have outer : ∀ (u i : Nat), i + u = n → True → Go mX11_change 30 0 0 11 [(0, .ref 0), (1, .int (-1)), (2, .int (nI (allL (wchP P) n i).length)), (3, .int (nI i))] [] (SK, M, N) (CQ M N (nI (chgL P n).length) ((n, k, P, pa), kp, tp, sh)) := by
    intro u
    induction u with
    | zero =>
      intro i hi hl
      have hin : n = i := by omega
      subst hin
      refine g_iload_n (j := 3) (pc' := 12) dX11_change_11 rfl rfl ?_
      refine g_aload_n (j := 0) (pc' := 13) dX11_change_12 rfl rfl ?_
      refine g_getR (pc' := 16) dX11_change_13 fX11_28 rfl rfl rfl ?_
      refine g_getI (pc' := 19) dX11_change_16 fX11_75 rfl rfl rfl ?_
      refine g_top (y := nI n) (hc0.1) ?_
      refine g_icmp_ge (tgt := 87) (pc' := 22) dX11_change_19 (by decide) rfl (fun hc => ?_) (fun hc => (absurd (nI_le (Nat.le_refl _) (by omega)) hc))
      refine g_iload_n (j := 1) (pc' := 88) dX11_change_87 rfl rfl ?_
      refine g_iconst (v := (-1)) (pc' := 89) dX11_change_88 (by decide) rfl ?_
      refine g_icmp_ne (tgt := 96) (pc' := 92) dX11_change_89 (by decide) rfl (fun hc => (absurd rfl hc)) (fun hc => ?_)
      refine g_iload_n (j := 2) (pc' := 93) dX11_change_92 rfl rfl ?_
      refine g_goto (tgt := 98) dX11_change_93 (by decide) ?_
      exact g_iret dX11_change_98 rfl rfl (CQ.same hI)
    | succ u ih =>
      intro i hi hl
      refine g_iload_n (j := 3) (pc' := 12) dX11_change_11 rfl rfl ?_
      refine g_aload_n (j := 0) (pc' := 13) dX11_change_12 rfl rfl ?_
      refine g_getR (pc' := 16) dX11_change_13 fX11_28 rfl rfl rfl ?_
      refine g_getI (pc' := 19) dX11_change_16 fX11_75 rfl rfl rfl ?_
      refine g_top (y := nI n) (hc0.1) ?_
      refine g_icmp_ge (tgt := 87) (pc' := 22) dX11_change_19 (by decide) rfl (fun hc => (absurd hc (nI_ge (by omega) (by omega)))) (fun hc => ?_)
      refine g_iload_n (j := 3) (pc' := 23) dX11_change_22 rfl rfl ?_
      refine g_iconst (v := 1) (pc' := 24) dX11_change_23 (by decide) rfl ?_
      refine g_iadd (pc' := 25) dX11_change_24 rfl ?_
      refine g_top (y := nI (i + 1)) (nI_1 i) ?_
      refine g_istore (L' := [(0, .ref 0), (1, .int (-1)), (2, .int (nI ((allL (wchP P) n i).length))), (3, .int (nI i)), (4, .int (nI (i + 1)))]) (pc' := 27) dX11_change_25 (by decide) rfl rfl ?_
      have inner : ∀ (t j : Nat), j + t = n → i < j → True → Go mX11_change 30 0 0 27 [(0, .ref 0), (1, .int (-1)), (2, .int (nI (allL (wchP P) n i ++ rowL (wchP P) i j).length)), (3, .int (nI i)), (4, .int (nI j))] [] (SK, M, N) (CQ M N (nI (chgL P n).length) ((n, k, P, pa), kp, tp, sh)) := by
        intro t
        induction t with
        | zero =>
          intro j hj hij hl2
          have hjn : n = j := by omega
          subst hjn
          refine g_iload (j := 4) (pc' := 29) dX11_change_27 rfl rfl ?_
          refine g_aload_n (j := 0) (pc' := 30) dX11_change_29 rfl rfl ?_
          refine g_getR (pc' := 33) dX11_change_30 fX11_28 rfl rfl rfl ?_
          refine g_getI (pc' := 36) dX11_change_33 fX11_75 rfl rfl rfl ?_
          refine g_top (y := nI n) (hc0.1) ?_
          refine g_icmp_ge (tgt := 81) (pc' := 39) dX11_change_36 (by decide) rfl (fun hc => ?_) (fun hc => (absurd (nI_le (Nat.le_refl _) (by omega)) hc))
          refine g_iinc (j := 3) (v := nI (i + 1)) (L' := [(0, .ref 0), (1, .int (-1)), (2, .int (nI ((allL (wchP P) n i ++ rowL (wchP P) i n).length))), (3, .int (nI (i + 1))), (4, .int (nI n))]) (pc' := 84) dX11_change_81 rfl (nI_1 i) (by decide) rfl rfl ?_
          refine g_goto (tgt := 11) dX11_change_84 (by decide) ?_
          refine g_less (L' := [(0, .ref 0), (1, .int (-1)), (2, .int (nI ((allL (wchP P) n i ++ rowL (wchP P) i n).length))), (3, .int (nI (i + 1)))]) [0, 1, 2, 3] rfl ?_
          exact ih (i + 1) (by omega) hl2
        | succ t iht =>
          intro j hj hij hl2
          refine g_iload (j := 4) (pc' := 29) dX11_change_27 rfl rfl ?_
          refine g_aload_n (j := 0) (pc' := 30) dX11_change_29 rfl rfl ?_
          refine g_getR (pc' := 33) dX11_change_30 fX11_28 rfl rfl rfl ?_
          refine g_getI (pc' := 36) dX11_change_33 fX11_75 rfl rfl rfl ?_
          refine g_top (y := nI n) (hc0.1) ?_
          refine g_icmp_ge (tgt := 81) (pc' := 39) dX11_change_36 (by decide) rfl (fun hc => (absurd hc (nI_ge (by omega) (by omega)))) (fun hc => ?_)
          refine g_aload_n (j := 0) (pc' := 40) dX11_change_39 rfl rfl ?_
          refine g_iload_n (j := 3) (pc' := 41) dX11_change_40 rfl rfl ?_
          refine g_iload (j := 4) (pc' := 43) dX11_change_41 rfl rfl ?_
          refine g_callV (my := mX11_wouldChange) (k := 0) (st := []) (av := [.int (nI i), .int (nI j)]) (mcr := 0) (msr := 0) (mc := 0) (ms := 0) (pc' := 46) dX11_change_43 kX11_wouldChange wX11_218 rfl ⟨rfl, rfl⟩ rfl (Nat.le_of_ble_eq_true rfl) (by decide) (s_wouldChange hok hc0 (by omega) (by omega)) rfl ?_
          rintro _ _ ⟨rfl, rfl⟩
          show Go mX11_change _ _ _ 46 [(0, .ref 0), (1, .int (-1)), (2, .int (nI ((allL (wchP P) n i ++ rowL (wchP P) i j).length))), (3, .int (nI i)), (4, .int (nI j))] [.int (b2I (wchP P i j))] (SK, M, N) _
          have hsame : ¬ (i < j ∧ wchP P i j = true ∧ wchP P j i = true) → rowL (wchP P) i (j + 1) = rowL (wchP P) i j := fun h => by conv => lhs; unfold rowL; rw [if_neg h]
          cases h1 : wchP P i j with
          | false =>
            show Go mX11_change _ _ _ 46 [(0, .ref 0), (1, .int (-1)), (2, .int (nI ((allL (wchP P) n i ++ rowL (wchP P) i j).length))), (3, .int (nI i)), (4, .int (nI j))] [.int 0] (SK, M, N) _
            refine g_if_eq (tgt := 75) (pc' := 49) dX11_change_46 (by decide) rfl (fun _ => ?_) (fun hc => absurd rfl hc)
            refine g_iinc (j := 4) (v := nI (j + 1)) (L' := [(0, .ref 0), (1, .int (-1)), (2, .int (nI ((allL (wchP P) n i ++ rowL (wchP P) i j).length))), (3, .int (nI i)), (4, .int (nI (j + 1)))]) (pc' := 78) dX11_change_75 rfl (nI_1 j) (by decide) rfl rfl ?_
            refine g_goto (tgt := 27) dX11_change_78 (by decide) ?_
            have h9 := iht (j + 1) (by omega) (by omega)
            rw [hsame (fun h => by rw [h1] at h; exact absurd h.2.1 (by decide))] at h9
            exact h9 hl2
          | true =>
            show Go mX11_change _ _ _ 46 [(0, .ref 0), (1, .int (-1)), (2, .int (nI ((allL (wchP P) n i ++ rowL (wchP P) i j).length))), (3, .int (nI i)), (4, .int (nI j))] [.int 1] (SK, M, N) _
            refine g_if_eq (tgt := 75) (pc' := 49) dX11_change_46 (by decide) rfl (fun hc => absurd hc (by decide)) (fun _ => ?_)
            refine g_aload_n (j := 0) (pc' := 50) dX11_change_49 rfl rfl ?_
            refine g_iload (j := 4) (pc' := 52) dX11_change_50 rfl rfl ?_
            refine g_iload_n (j := 3) (pc' := 53) dX11_change_52 rfl rfl ?_
            refine g_callV (my := mX11_wouldChange) (k := 0) (st := []) (av := [.int (nI j), .int (nI i)]) (mcr := 0) (msr := 0) (mc := 0) (ms := 0) (pc' := 56) dX11_change_53 kX11_wouldChange wX11_218 rfl ⟨rfl, rfl⟩ rfl (Nat.le_of_ble_eq_true rfl) (by decide) (s_wouldChange hok hc0 (by omega) (by omega)) rfl ?_
            rintro _ _ ⟨rfl, rfl⟩
            show Go mX11_change _ _ _ 56 [(0, .ref 0), (1, .int (-1)), (2, .int (nI ((allL (wchP P) n i ++ rowL (wchP P) i j).length))), (3, .int (nI i)), (4, .int (nI j))] [.int (b2I (wchP P j i))] (SK, M, N) _
            cases h2 : wchP P j i with
            | false =>
              show Go mX11_change _ _ _ 56 [(0, .ref 0), (1, .int (-1)), (2, .int (nI ((allL (wchP P) n i ++ rowL (wchP P) i j).length))), (3, .int (nI i)), (4, .int (nI j))] [.int 0] (SK, M, N) _
              refine g_if_eq (tgt := 75) (pc' := 59) dX11_change_56 (by decide) rfl (fun _ => ?_) (fun hc => absurd rfl hc)
              refine g_iinc (j := 4) (v := nI (j + 1)) (L' := [(0, .ref 0), (1, .int (-1)), (2, .int (nI ((allL (wchP P) n i ++ rowL (wchP P) i j).length))), (3, .int (nI i)), (4, .int (nI (j + 1)))]) (pc' := 78) dX11_change_75 rfl (nI_1 j) (by decide) rfl rfl ?_
              refine g_goto (tgt := 27) dX11_change_78 (by decide) ?_
              have h9 := iht (j + 1) (by omega) (by omega)
              rw [hsame (fun h => by rw [h2] at h; exact absurd h.2.2 (by decide))] at h9
              exact h9 hl2
            | true =>
              show Go mX11_change _ _ _ 56 [(0, .ref 0), (1, .int (-1)), (2, .int (nI ((allL (wchP P) n i ++ rowL (wchP P) i j).length))), (3, .int (nI i)), (4, .int (nI j))] [.int 1] (SK, M, N) _
              refine g_if_eq (tgt := 75) (pc' := 59) dX11_change_56 (by decide) rfl (fun hc => absurd hc (by decide)) (fun _ => ?_)
              have hrow : rowL (wchP P) i (j + 1) = rowL (wchP P) i j ++ [(i, j)] := by conv => lhs; unfold rowL; rw [if_pos ⟨hij, h1, h2⟩]
              have hlen : (allL (wchP P) n i ++ rowL (wchP P) i (j + 1)).length = (allL (wchP P) n i ++ rowL (wchP P) i j).length + 1 := by rw [hrow, ← List.append_assoc, List.length_append]; rfl
              have hsm : (allL (wchP P) n i ++ rowL (wchP P) i j).length < 1000 := by rw [List.length_append]; have a1 := hall i; have a2 := rowL_le (wchP P) i j; have a3 : i * n ≤ 6 * 6 := Nat.mul_le_mul (by omega) hn6; omega
              refine g_iload_n (j := 2) (pc' := 60) dX11_change_59 rfl rfl ?_
              refine g_iload_n (j := 1) (pc' := 61) dX11_change_60 rfl rfl ?_
              refine g_icmp_ne (tgt := 72) (pc' := 64) dX11_change_61 (by decide) rfl (fun hc => ?_) (fun hc => (absurd hc (nI_ne_m1 (by omega))))
              refine g_iinc (j := 2) (v := nI ((allL (wchP P) n i ++ rowL (wchP P) i j).length + 1)) (L' := [(0, .ref 0), (1, .int (-1)), (2, .int (nI ((allL (wchP P) n i ++ rowL (wchP P) i j).length + 1))), (3, .int (nI i)), (4, .int (nI j))]) (pc' := 75) dX11_change_72 rfl (nI_1 ((allL (wchP P) n i ++ rowL (wchP P) i j).length)) (by decide) rfl rfl ?_
              refine g_iinc (j := 4) (v := nI (j + 1)) (L' := [(0, .ref 0), (1, .int (-1)), (2, .int (nI ((allL (wchP P) n i ++ rowL (wchP P) i j).length + 1))), (3, .int (nI i)), (4, .int (nI (j + 1)))]) (pc' := 78) dX11_change_75 rfl (nI_1 j) (by decide) rfl rfl ?_
              refine g_goto (tgt := 27) dX11_change_78 (by decide) ?_
              have h9 := iht (j + 1) (by omega) (by omega)
              rw [hlen] at h9
              exact h9 trivial
      have h9 := inner (n - (i + 1)) (i + 1) (by omega) (by omega)
      have h0 : rowL (wchP P) i (i + 1) = [] := List.length_eq_zero_iff.mp (by have := rowL_le (wchP P) i (i + 1); omega)
      rw [h0, List.append_nil] at h9
      exact h9 hl
  exact outer n 0 (by omega) trivial
set_option maxRecDepth 100000 in
set_option maxHeartbeats 1000000 in
theorem c_change {M : Nat → Nat → Int32} {N : Nat → Nat → Int64} {n k : Nat} {P : Nat → Int32} {pa : List (Nat → Int32)} {kp : Option YS} {tp : List Int32} {sh : Nat → Option (Nat × Nat × (Nat → Int64))} (hA : AOk ((n, k, P, pa), kp, tp, sh)) (hI : CI M N ((n, k, P, pa), kp, tp, sh)) {c : Nat} (hc31 : c < 2147483648) : Run mX11_change 30 0 0 [.ref 0, .int (nI c)] (SK, M, N) (CQ M N (chgV (chgL P n) c) ((n, k, P, pa), kp, tp, sh)) := by
  refine Run.of (by decide) (Nat.le_of_ble_eq_true rfl) ?_
  have hok : OkP n k P := hA.1.1.1
  have hc0 : IsC M 14 n k P := hI.1.1
  have hn6 := hok.1
  have hk6 := hok.2.1
  refine g_iload_n (j := 1) (pc' := 1) dX11_change_0 rfl rfl ?_
  refine g_iconst (v := (-1)) (pc' := 2) dX11_change_1 (by decide) rfl ?_
  refine g_icmp_ge (tgt := 7) (pc' := 5) dX11_change_2 (by decide) rfl (fun hc => ?_) (fun hc => (absurd (m1_le hc31) hc))
  refine g_iconst (v := 0) (pc' := 8) dX11_change_7 (by decide) rfl ?_
  refine g_istore_n (L' := [(0, .ref 0), (1, .int (nI c)), (2, .int 0)]) (pc' := 9) dX11_change_8 (by decide) rfl rfl ?_
  refine g_iconst (v := 0) (pc' := 10) dX11_change_9 (by decide) rfl ?_
  refine g_istore_n (L' := [(0, .ref 0), (1, .int (nI c)), (2, .int 0), (3, .int 0)]) (pc' := 11) dX11_change_10 (by decide) rfl rfl ?_
  have hall := allL_le (wchP P) n
  have outer : ∀ (u i : Nat), i + u = n → (allL (wchP P) n i).length ≤ c → Go mX11_change 30 0 0 11 [(0, .ref 0), (1, .int (nI c)), (2, .int (nI (allL (wchP P) n i).length)), (3, .int (nI i))] [] (SK, M, N) (CQ M N (chgV (chgL P n) c) ((n, k, P, pa), kp, tp, sh)) := by
    intro u
    induction u with
    | zero =>
      intro i hi hl
      have hin : n = i := by omega
      subst hin
      refine g_iload_n (j := 3) (pc' := 12) dX11_change_11 rfl rfl ?_
      refine g_aload_n (j := 0) (pc' := 13) dX11_change_12 rfl rfl ?_
      refine g_getR (pc' := 16) dX11_change_13 fX11_28 rfl rfl rfl ?_
      refine g_getI (pc' := 19) dX11_change_16 fX11_75 rfl rfl rfl ?_
      refine g_top (y := nI n) (hc0.1) ?_
      refine g_icmp_ge (tgt := 87) (pc' := 22) dX11_change_19 (by decide) rfl (fun hc => ?_) (fun hc => (absurd (nI_le (Nat.le_refl _) (by omega)) hc))
      refine g_iload_n (j := 1) (pc' := 88) dX11_change_87 rfl rfl ?_
      refine g_iconst (v := (-1)) (pc' := 89) dX11_change_88 (by decide) rfl ?_
      refine g_icmp_ne (tgt := 96) (pc' := 92) dX11_change_89 (by decide) rfl (fun hc => ?_) (fun hc => (absurd hc (nI_m1 hc31)))
      have hr : chgV (chgL P n) c = -4 := by unfold chgV chgL; rw [List.getElem?_eq_none hl]
      rw [hr]
      refine g_bipush (v := (-4)) (pc' := 98) dX11_change_96 (by decide) rfl ?_
      exact g_iret dX11_change_98 rfl rfl (CQ.same hI)
    | succ u ih =>
      intro i hi hl
      refine g_iload_n (j := 3) (pc' := 12) dX11_change_11 rfl rfl ?_
      refine g_aload_n (j := 0) (pc' := 13) dX11_change_12 rfl rfl ?_
      refine g_getR (pc' := 16) dX11_change_13 fX11_28 rfl rfl rfl ?_
      refine g_getI (pc' := 19) dX11_change_16 fX11_75 rfl rfl rfl ?_
      refine g_top (y := nI n) (hc0.1) ?_
      refine g_icmp_ge (tgt := 87) (pc' := 22) dX11_change_19 (by decide) rfl (fun hc => (absurd hc (nI_ge (by omega) (by omega)))) (fun hc => ?_)
      refine g_iload_n (j := 3) (pc' := 23) dX11_change_22 rfl rfl ?_
      refine g_iconst (v := 1) (pc' := 24) dX11_change_23 (by decide) rfl ?_
      refine g_iadd (pc' := 25) dX11_change_24 rfl ?_
      refine g_top (y := nI (i + 1)) (nI_1 i) ?_
      refine g_istore (L' := [(0, .ref 0), (1, .int (nI c)), (2, .int (nI ((allL (wchP P) n i).length))), (3, .int (nI i)), (4, .int (nI (i + 1)))]) (pc' := 27) dX11_change_25 (by decide) rfl rfl ?_
      have inner : ∀ (t j : Nat), j + t = n → i < j → (allL (wchP P) n i ++ rowL (wchP P) i j).length ≤ c → Go mX11_change 30 0 0 27 [(0, .ref 0), (1, .int (nI c)), (2, .int (nI (allL (wchP P) n i ++ rowL (wchP P) i j).length)), (3, .int (nI i)), (4, .int (nI j))] [] (SK, M, N) (CQ M N (chgV (chgL P n) c) ((n, k, P, pa), kp, tp, sh)) := by
        intro t
        induction t with
        | zero =>
          intro j hj hij hl2
          have hjn : n = j := by omega
          subst hjn
          refine g_iload (j := 4) (pc' := 29) dX11_change_27 rfl rfl ?_
          refine g_aload_n (j := 0) (pc' := 30) dX11_change_29 rfl rfl ?_
          refine g_getR (pc' := 33) dX11_change_30 fX11_28 rfl rfl rfl ?_
          refine g_getI (pc' := 36) dX11_change_33 fX11_75 rfl rfl rfl ?_
          refine g_top (y := nI n) (hc0.1) ?_
          refine g_icmp_ge (tgt := 81) (pc' := 39) dX11_change_36 (by decide) rfl (fun hc => ?_) (fun hc => (absurd (nI_le (Nat.le_refl _) (by omega)) hc))
          refine g_iinc (j := 3) (v := nI (i + 1)) (L' := [(0, .ref 0), (1, .int (nI c)), (2, .int (nI ((allL (wchP P) n i ++ rowL (wchP P) i n).length))), (3, .int (nI (i + 1))), (4, .int (nI n))]) (pc' := 84) dX11_change_81 rfl (nI_1 i) (by decide) rfl rfl ?_
          refine g_goto (tgt := 11) dX11_change_84 (by decide) ?_
          refine g_less (L' := [(0, .ref 0), (1, .int (nI c)), (2, .int (nI ((allL (wchP P) n i ++ rowL (wchP P) i n).length))), (3, .int (nI (i + 1)))]) [0, 1, 2, 3] rfl ?_
          exact ih (i + 1) (by omega) hl2
        | succ t iht =>
          intro j hj hij hl2
          refine g_iload (j := 4) (pc' := 29) dX11_change_27 rfl rfl ?_
          refine g_aload_n (j := 0) (pc' := 30) dX11_change_29 rfl rfl ?_
          refine g_getR (pc' := 33) dX11_change_30 fX11_28 rfl rfl rfl ?_
          refine g_getI (pc' := 36) dX11_change_33 fX11_75 rfl rfl rfl ?_
          refine g_top (y := nI n) (hc0.1) ?_
          refine g_icmp_ge (tgt := 81) (pc' := 39) dX11_change_36 (by decide) rfl (fun hc => (absurd hc (nI_ge (by omega) (by omega)))) (fun hc => ?_)
          refine g_aload_n (j := 0) (pc' := 40) dX11_change_39 rfl rfl ?_
          refine g_iload_n (j := 3) (pc' := 41) dX11_change_40 rfl rfl ?_
          refine g_iload (j := 4) (pc' := 43) dX11_change_41 rfl rfl ?_
          refine g_callV (my := mX11_wouldChange) (k := 0) (st := []) (av := [.int (nI i), .int (nI j)]) (mcr := 0) (msr := 0) (mc := 0) (ms := 0) (pc' := 46) dX11_change_43 kX11_wouldChange wX11_218 rfl ⟨rfl, rfl⟩ rfl (Nat.le_of_ble_eq_true rfl) (by decide) (s_wouldChange hok hc0 (by omega) (by omega)) rfl ?_
          rintro _ _ ⟨rfl, rfl⟩
          show Go mX11_change _ _ _ 46 [(0, .ref 0), (1, .int (nI c)), (2, .int (nI ((allL (wchP P) n i ++ rowL (wchP P) i j).length))), (3, .int (nI i)), (4, .int (nI j))] [.int (b2I (wchP P i j))] (SK, M, N) _
          have hsame : ¬ (i < j ∧ wchP P i j = true ∧ wchP P j i = true) → rowL (wchP P) i (j + 1) = rowL (wchP P) i j := fun h => by conv => lhs; unfold rowL; rw [if_neg h]
          cases h1 : wchP P i j with
          | false =>
            show Go mX11_change _ _ _ 46 [(0, .ref 0), (1, .int (nI c)), (2, .int (nI ((allL (wchP P) n i ++ rowL (wchP P) i j).length))), (3, .int (nI i)), (4, .int (nI j))] [.int 0] (SK, M, N) _
            refine g_if_eq (tgt := 75) (pc' := 49) dX11_change_46 (by decide) rfl (fun _ => ?_) (fun hc => absurd rfl hc)
            refine g_iinc (j := 4) (v := nI (j + 1)) (L' := [(0, .ref 0), (1, .int (nI c)), (2, .int (nI ((allL (wchP P) n i ++ rowL (wchP P) i j).length))), (3, .int (nI i)), (4, .int (nI (j + 1)))]) (pc' := 78) dX11_change_75 rfl (nI_1 j) (by decide) rfl rfl ?_
            refine g_goto (tgt := 27) dX11_change_78 (by decide) ?_
            have h9 := iht (j + 1) (by omega) (by omega)
            rw [hsame (fun h => by rw [h1] at h; exact absurd h.2.1 (by decide))] at h9
            exact h9 hl2
          | true =>
            show Go mX11_change _ _ _ 46 [(0, .ref 0), (1, .int (nI c)), (2, .int (nI ((allL (wchP P) n i ++ rowL (wchP P) i j).length))), (3, .int (nI i)), (4, .int (nI j))] [.int 1] (SK, M, N) _
            refine g_if_eq (tgt := 75) (pc' := 49) dX11_change_46 (by decide) rfl (fun hc => absurd hc (by decide)) (fun _ => ?_)
            refine g_aload_n (j := 0) (pc' := 50) dX11_change_49 rfl rfl ?_
            refine g_iload (j := 4) (pc' := 52) dX11_change_50 rfl rfl ?_
            refine g_iload_n (j := 3) (pc' := 53) dX11_change_52 rfl rfl ?_
            refine g_callV (my := mX11_wouldChange) (k := 0) (st := []) (av := [.int (nI j), .int (nI i)]) (mcr := 0) (msr := 0) (mc := 0) (ms := 0) (pc' := 56) dX11_change_53 kX11_wouldChange wX11_218 rfl ⟨rfl, rfl⟩ rfl (Nat.le_of_ble_eq_true rfl) (by decide) (s_wouldChange hok hc0 (by omega) (by omega)) rfl ?_
            rintro _ _ ⟨rfl, rfl⟩
            show Go mX11_change _ _ _ 56 [(0, .ref 0), (1, .int (nI c)), (2, .int (nI ((allL (wchP P) n i ++ rowL (wchP P) i j).length))), (3, .int (nI i)), (4, .int (nI j))] [.int (b2I (wchP P j i))] (SK, M, N) _
            cases h2 : wchP P j i with
            | false =>
              show Go mX11_change _ _ _ 56 [(0, .ref 0), (1, .int (nI c)), (2, .int (nI ((allL (wchP P) n i ++ rowL (wchP P) i j).length))), (3, .int (nI i)), (4, .int (nI j))] [.int 0] (SK, M, N) _
              refine g_if_eq (tgt := 75) (pc' := 59) dX11_change_56 (by decide) rfl (fun _ => ?_) (fun hc => absurd rfl hc)
              refine g_iinc (j := 4) (v := nI (j + 1)) (L' := [(0, .ref 0), (1, .int (nI c)), (2, .int (nI ((allL (wchP P) n i ++ rowL (wchP P) i j).length))), (3, .int (nI i)), (4, .int (nI (j + 1)))]) (pc' := 78) dX11_change_75 rfl (nI_1 j) (by decide) rfl rfl ?_
              refine g_goto (tgt := 27) dX11_change_78 (by decide) ?_
              have h9 := iht (j + 1) (by omega) (by omega)
              rw [hsame (fun h => by rw [h2] at h; exact absurd h.2.2 (by decide))] at h9
              exact h9 hl2
            | true =>
              show Go mX11_change _ _ _ 56 [(0, .ref 0), (1, .int (nI c)), (2, .int (nI ((allL (wchP P) n i ++ rowL (wchP P) i j).length))), (3, .int (nI i)), (4, .int (nI j))] [.int 1] (SK, M, N) _
              refine g_if_eq (tgt := 75) (pc' := 59) dX11_change_56 (by decide) rfl (fun hc => absurd hc (by decide)) (fun _ => ?_)
              have hrow : rowL (wchP P) i (j + 1) = rowL (wchP P) i j ++ [(i, j)] := by conv => lhs; unfold rowL; rw [if_pos ⟨hij, h1, h2⟩]
              have hlen : (allL (wchP P) n i ++ rowL (wchP P) i (j + 1)).length = (allL (wchP P) n i ++ rowL (wchP P) i j).length + 1 := by rw [hrow, ← List.append_assoc, List.length_append]; rfl
              have hsm : (allL (wchP P) n i ++ rowL (wchP P) i j).length < 1000 := by rw [List.length_append]; have a1 := hall i; have a2 := rowL_le (wchP P) i j; have a3 : i * n ≤ 6 * 6 := Nat.mul_le_mul (by omega) hn6; omega
              refine g_iload_n (j := 2) (pc' := 60) dX11_change_59 rfl rfl ?_
              refine g_iload_n (j := 1) (pc' := 61) dX11_change_60 rfl rfl ?_
              refine g_icmp_ne (tgt := 72) (pc' := 64) dX11_change_61 (by decide) rfl (fun hc9 => ?_) (fun hc9 => ?_)
              · have hlc : ¬ (allL (wchP P) n i ++ rowL (wchP P) i j).length = c := fun e => hc9 (by rw [e])
                refine g_iinc (j := 2) (v := nI ((allL (wchP P) n i ++ rowL (wchP P) i j).length + 1)) (L' := [(0, .ref 0), (1, .int (nI c)), (2, .int (nI ((allL (wchP P) n i ++ rowL (wchP P) i j).length + 1))), (3, .int (nI i)), (4, .int (nI j))]) (pc' := 75) dX11_change_72 rfl (nI_1 ((allL (wchP P) n i ++ rowL (wchP P) i j).length)) (by decide) rfl rfl ?_
                refine g_iinc (j := 4) (v := nI (j + 1)) (L' := [(0, .ref 0), (1, .int (nI c)), (2, .int (nI ((allL (wchP P) n i ++ rowL (wchP P) i j).length + 1))), (3, .int (nI i)), (4, .int (nI (j + 1)))]) (pc' := 78) dX11_change_75 rfl (nI_1 j) (by decide) rfl rfl ?_
                refine g_goto (tgt := 27) dX11_change_78 (by decide) ?_
                have h9 := iht (j + 1) (by omega) (by omega)
                rw [hlen] at h9
                exact h9 (by omega)
              · have hlc := (nI_eq (by omega) hc31).mp hc9
                have hres : chgV (chgL P n) c = 10 * nI i + nI j := by unfold chgV; rw [← hlc, chg_at (by omega) hij (by omega) h1 h2]
                rw [hres]
                refine g_bipush (v := 10) (pc' := 66) dX11_change_64 (by decide) rfl ?_
                refine g_iload_n (j := 3) (pc' := 67) dX11_change_66 rfl rfl ?_
                refine g_imul (pc' := 68) dX11_change_67 rfl ?_
                refine g_iload (j := 4) (pc' := 70) dX11_change_68 rfl rfl ?_
                refine g_iadd (pc' := 71) dX11_change_70 rfl ?_
                exact g_iret dX11_change_71 rfl rfl (CQ.same hI)
      have h9 := inner (n - (i + 1)) (i + 1) (by omega) (by omega)
      have h0 : rowL (wchP P) i (i + 1) = [] := List.length_eq_zero_iff.mp (by have := rowL_le (wchP P) i (i + 1); omega)
      rw [h0, List.append_nil] at h9
      exact h9 hl
  exact outer n 0 (by omega) (Nat.zero_le _)
