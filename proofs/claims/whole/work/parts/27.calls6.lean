/-! ===== sheets ===== -/
def upS (sh : Nat → Option (Nat × Nat × (Nat → Int64))) (a : Nat) (s : Option (Nat × Nat × (Nat → Int64))) : Nat → Option (Nat × Nat × (Nat → Int64)) := fun i => if i = a then s else sh i
theorem upS_at {sh : Nat → Option (Nat × Nat × (Nat → Int64))} {a : Nat} {s : Option (Nat × Nat × (Nat → Int64))} : upS sh a s a = s := if_pos rfl
theorem upS_ne {sh : Nat → Option (Nat × Nat × (Nat → Int64))} {a i : Nat} {s : Option (Nat × Nat × (Nat → Int64))} (h : i ≠ a) : upS sh a s i = sh i := if_neg h
theorem CQ.sheet {M M' : Nat → Nat → Int32} {N N' : Nat → Nat → Int64} {r : Int32} {y : YS} {kp : Option YS} {tp : List Int32} {sh : Nat → Option (Nat × Nat × (Nat → Int64))} {a : Nat} {s : Option (Nat × Nat × (Nat → Int64))} (h : CI M N (y, kp, tp, sh)) (ha : a < 4) (hs : ShC M' N' a s) (he : ∀ c, c ≠ 181 + 2 * a → ¬ tmpC c → M' c = M c) (hn : ∀ c, c ≠ 182 + 2 * a → N' c = N c) : CQ M N r (y, kp, tp, upS sh a s) (some (.int r)) (SK, M', N') := by
  have e : ∀ c, (c < 8 ∨ (13 < c ∧ c < 162) ∨ (170 ≤ c ∧ c < 173)) → M' c = M c := fun c hc => he c (by omega) (by unfold tmpC; omega)
  refine ⟨M', N', rfl, rfl, ⟨h.1.keep (fun c c1 c2 => e c (by omega)) (fun c c1 c2 => e c (by omega)), h.2.1.keep (e 0 (by omega)) (fun c c1 c2 => e c (by omega)), h.2.2.1.keep (e 170 (by omega)) (e 171 (by omega)), fun i hi => ?_⟩, fun c hc => ⟨he c (by omega) (by unfold tmpC; omega), hn c (by omega)⟩⟩
  by_cases e9 : i = a
  · subst e9
    show ShC M' N' i (upS sh i s i)
    rw [upS_at]; exact hs
  · show ShC M' N' i (upS sh a s i)
    rw [upS_ne e9]
    exact (h.2.2.2 i hi).keep (he _ (by omega) (by unfold tmpC; omega)) (hn _ (by omega))
/-- what a call that takes n items of a sheet from i on as of lane b is refused with; 0: nothing -/
def wrS (s : Option (Nat × Nat × (Nat → Int64))) (b : Nat) (i n : Int32) : Int32 := match s with
  | none => -11
  | some (la, ln, _) => if la ≠ b then -12 else if 0 ≤ i ∧ 0 ≤ n ∧ i ≤ nI ln - n then 0 else -13
theorem s_wrS {M : Nat → Nat → Int32} {N : Nat → Nat → Int64} {A : AS} (hA : AOk A) (hI : CI M N A) {a b : Nat} (ha : a < 4) (hb : b < 4) (i n : Int32) : Run mX11_wrongWith 1 0 0 [.ref 0, .int (nI a), .int (nI b), .int i, .int n] (SK, M, N) (fun r h' => h' = (SK, M, N) ∧ r = some (.int (wrS (A.2.2.2 a) b i n))) := by
  refine (s_wrongWith (nI a) (nI b) i n).post (fun r h' q => ⟨q.1, ?_⟩)
  rcases q.2 with ⟨-, h | h⟩ | ⟨a', b', ha', hb', e1, e2, e3⟩
  · exact absurd rfl (h a ha)
  · exact absurd rfl (h b hb)
  · have e1 := (nI_eq (by omega) (by omega)).mp e1
    subst e1
    rw [e3]
    have hs := hI.2.2.2 a ha
    have hok := hA.2.2.2 a ha
    cases hsa : A.2.2.2 a with
    | none =>
      rw [hsa] at hs
      have h0 : M (181 + 2 * a) 0 = 1 := hs
      unfold wrongI wrS
      rw [h0, if_pos (by decide)]
    | some z =>
      obtain ⟨la, ln, f⟩ := z
      rw [hsa] at hs
      obtain ⟨g1, g2, g3, -⟩ : M (181 + 2 * a) 0 = 0 ∧ M (181 + 2 * a) 1 = nI la ∧ M (181 + 2 * a) 2 = nI ln ∧ _ := hs
      have hla := (hok la ln f hsa).1
      unfold wrongI wrS
      rw [g1, g2, g3, if_neg (by decide)]
      by_cases e : la = b
      · subst e
        rw [if_neg (not_not.mpr rfl)]
        simp only
        rw [if_neg (not_not.mpr rfl)]
      · rw [if_pos (fun q => e ((nI_eq (by omega) (by omega)).mp q))]
        simp only
        rw [if_pos e]
theorem s_wr1 {M : Nat → Nat → Int32} {N : Nat → Nat → Int64} {sheet lane : Int32} (i n : Int32) (h : (∀ a, a < 4 → sheet ≠ nI a) ∨ ∀ b, b < 4 → lane ≠ nI b) : Run mX11_wrongWith 1 0 0 [.ref 0, .int sheet, .int lane, .int i, .int n] (SK, M, N) (fun r h' => h' = (SK, M, N) ∧ r = some (.int (-1))) := by
  refine (s_wrongWith sheet lane i n).post (fun r h' q => ⟨q.1, ?_⟩)
  rcases q.2 with ⟨h9, -⟩ | ⟨a', b', ha', hb', e1, e2, e3⟩
  · exact h9
  · rcases h with h | h
    · exact absurd e1 (h a' ha')
    · exact absurd e2 (h b' hb')
theorem wrS_0 {s : Option (Nat × Nat × (Nat → Int64))} {b n : Nat} {i : Int32} (hs : ∀ la ln f, s = some (la, ln, f) → ln ≤ 24) (hn : n ≤ 24) (h : wrS s b i (nI n) = 0) : ∃ ln f q, s = some (b, ln, f) ∧ i = nI q ∧ q + n ≤ ln ∧ ln ≤ 24 := by
  unfold wrS at h
  cases s with
  | none => exact absurd (show (-11 : Int32) = 0 from h) (by decide)
  | some z =>
    obtain ⟨la, ln, f⟩ := z
    have hl := hs la ln f rfl
    simp only at h
    by_cases e : la ≠ b
    · rw [if_pos e] at h; exact absurd h (by decide)
    · rw [if_neg e] at h
      have e := not_not.mp e
      subst e
      by_cases g : 0 ≤ i ∧ 0 ≤ nI n ∧ i ≤ nI ln - nI n
      · obtain ⟨q, hq, rfl⟩ := nI_of (x := i) (Int32.not_lt.mpr g.1)
        refine ⟨ln, f, q, rfl, rfl, ?_, hl⟩
        have h3 := g.2.2
        rw [Int32.le_iff_toInt_le, nI_toInt hq, pk_sub_toInt (by omega) (by omega)] at h3
        omega
      · rw [if_neg g] at h; exact absurd h (by decide)
set_option maxRecDepth 100000 in
set_option maxHeartbeats 1000000 in
theorem c_sheet_b1 {M : Nat → Nat → Int32} {N : Nat → Nat → Int64} {n k : Nat} {P : Nat → Int32} {pa : List (Nat → Int32)} {kp : Option YS} {tp : List Int32} {sh : Nat → Option (Nat × Nat × (Nat → Int64))} (hA : AOk ((n, k, P, pa), kp, tp, sh)) (hI : CI M N ((n, k, P, pa), kp, tp, sh)) {v : Int32} (u z : Int32) (h1 : v < 0 ∨ 3 < v) : Run mX11_sheet 30 0 0 [.ref 0, .int v, .int u, .int z] (SK, M, N) (CQ M N (-1) ((n, k, P, pa), kp, tp, sh)) := by
  refine Run.of (by decide) (Nat.le_of_ble_eq_true rfl) ?_
  have hok : OkP n k P := hA.1.1.1
  have hc0 : IsC M 14 n k P := hI.1.1
  have hn6 := hok.1
  have hk6 := hok.2.1
  refine g_iload_n (j := 1) (pc' := 1) dX11_sheet_0 rfl rfl ?_
  refine g_iconst (v := 0) (pc' := 2) dX11_sheet_1 (by decide) rfl ?_
  refine g_iconst (v := 3) (pc' := 3) dX11_sheet_2 (by decide) rfl ?_
  refine g_callS (my := mX11_outside) (st := []) (av := [.int v, .int 0, .int 3]) (mcr := 0) (msr := 0) (mc := 0) (ms := 0) (pc' := 6) dX11_sheet_3 kX11_outside wX11_71 rfl (Nat.le_of_ble_eq_true rfl) (by decide) (s_out1 (h1)) rfl ?_
  rintro _ _ ⟨rfl, rfl⟩
  show Go mX11_sheet _ _ _ 6 [(0, .ref 0), (1, .int v), (2, .int u), (3, .int z)] [.int 1] (SK, M, N) _
  refine g_if_ne (tgt := 24) (pc' := 9) dX11_sheet_6 (by decide) rfl (fun _ => ?_) (fun hc => absurd hc (by decide))
  refine g_iconst (v := (-1)) (pc' := 25) dX11_sheet_24 (by decide) rfl ?_
  exact g_iret dX11_sheet_25 rfl rfl (CQ.same hI)
set_option maxRecDepth 100000 in
set_option maxHeartbeats 1000000 in
theorem c_sheet_b2 {M : Nat → Nat → Int32} {N : Nat → Nat → Int64} {n k : Nat} {P : Nat → Int32} {pa : List (Nat → Int32)} {kp : Option YS} {tp : List Int32} {sh : Nat → Option (Nat × Nat × (Nat → Int64))} (hA : AOk ((n, k, P, pa), kp, tp, sh)) (hI : CI M N ((n, k, P, pa), kp, tp, sh)) {v u : Int32} (z : Int32) (h1 : ¬ (v < 0 ∨ 3 < v)) (h2 : u < 0 ∨ 3 < u) : Run mX11_sheet 30 0 0 [.ref 0, .int v, .int u, .int z] (SK, M, N) (CQ M N (-1) ((n, k, P, pa), kp, tp, sh)) := by
  refine Run.of (by decide) (Nat.le_of_ble_eq_true rfl) ?_
  have hok : OkP n k P := hA.1.1.1
  have hc0 : IsC M 14 n k P := hI.1.1
  have hn6 := hok.1
  have hk6 := hok.2.1
  refine g_iload_n (j := 1) (pc' := 1) dX11_sheet_0 rfl rfl ?_
  refine g_iconst (v := 0) (pc' := 2) dX11_sheet_1 (by decide) rfl ?_
  refine g_iconst (v := 3) (pc' := 3) dX11_sheet_2 (by decide) rfl ?_
  refine g_callS (my := mX11_outside) (st := []) (av := [.int v, .int 0, .int 3]) (mcr := 0) (msr := 0) (mc := 0) (ms := 0) (pc' := 6) dX11_sheet_3 kX11_outside wX11_71 rfl (Nat.le_of_ble_eq_true rfl) (by decide) (s_out0 (h1)) rfl ?_
  rintro _ _ ⟨rfl, rfl⟩
  show Go mX11_sheet _ _ _ 6 [(0, .ref 0), (1, .int v), (2, .int u), (3, .int z)] [.int 0] (SK, M, N) _
  refine g_if_ne (tgt := 24) (pc' := 9) dX11_sheet_6 (by decide) rfl (fun hc => absurd rfl hc) (fun _ => ?_)
  refine g_iload_n (j := 2) (pc' := 10) dX11_sheet_9 rfl rfl ?_
  refine g_iconst (v := 0) (pc' := 11) dX11_sheet_10 (by decide) rfl ?_
  refine g_iconst (v := 3) (pc' := 12) dX11_sheet_11 (by decide) rfl ?_
  refine g_callS (my := mX11_outside) (st := []) (av := [.int u, .int 0, .int 3]) (mcr := 0) (msr := 0) (mc := 0) (ms := 0) (pc' := 15) dX11_sheet_12 kX11_outside wX11_71 rfl (Nat.le_of_ble_eq_true rfl) (by decide) (s_out1 (h2)) rfl ?_
  rintro _ _ ⟨rfl, rfl⟩
  show Go mX11_sheet _ _ _ 15 [(0, .ref 0), (1, .int v), (2, .int u), (3, .int z)] [.int 1] (SK, M, N) _
  refine g_if_ne (tgt := 24) (pc' := 18) dX11_sheet_15 (by decide) rfl (fun _ => ?_) (fun hc => absurd hc (by decide))
  refine g_iconst (v := (-1)) (pc' := 25) dX11_sheet_24 (by decide) rfl ?_
  exact g_iret dX11_sheet_25 rfl rfl (CQ.same hI)
set_option maxRecDepth 100000 in
set_option maxHeartbeats 1000000 in
theorem c_sheet_b3 {M : Nat → Nat → Int32} {N : Nat → Nat → Int64} {n k : Nat} {P : Nat → Int32} {pa : List (Nat → Int32)} {kp : Option YS} {tp : List Int32} {sh : Nat → Option (Nat × Nat × (Nat → Int64))} (hA : AOk ((n, k, P, pa), kp, tp, sh)) (hI : CI M N ((n, k, P, pa), kp, tp, sh)) {v u z : Int32} (h1 : ¬ (v < 0 ∨ 3 < v)) (h2 : ¬ (u < 0 ∨ 3 < u)) (h3 : 24 < z) : Run mX11_sheet 30 0 0 [.ref 0, .int v, .int u, .int z] (SK, M, N) (CQ M N (-1) ((n, k, P, pa), kp, tp, sh)) := by
  refine Run.of (by decide) (Nat.le_of_ble_eq_true rfl) ?_
  have hok : OkP n k P := hA.1.1.1
  have hc0 : IsC M 14 n k P := hI.1.1
  have hn6 := hok.1
  have hk6 := hok.2.1
  refine g_iload_n (j := 1) (pc' := 1) dX11_sheet_0 rfl rfl ?_
  refine g_iconst (v := 0) (pc' := 2) dX11_sheet_1 (by decide) rfl ?_
  refine g_iconst (v := 3) (pc' := 3) dX11_sheet_2 (by decide) rfl ?_
  refine g_callS (my := mX11_outside) (st := []) (av := [.int v, .int 0, .int 3]) (mcr := 0) (msr := 0) (mc := 0) (ms := 0) (pc' := 6) dX11_sheet_3 kX11_outside wX11_71 rfl (Nat.le_of_ble_eq_true rfl) (by decide) (s_out0 (h1)) rfl ?_
  rintro _ _ ⟨rfl, rfl⟩
  show Go mX11_sheet _ _ _ 6 [(0, .ref 0), (1, .int v), (2, .int u), (3, .int z)] [.int 0] (SK, M, N) _
  refine g_if_ne (tgt := 24) (pc' := 9) dX11_sheet_6 (by decide) rfl (fun hc => absurd rfl hc) (fun _ => ?_)
  refine g_iload_n (j := 2) (pc' := 10) dX11_sheet_9 rfl rfl ?_
  refine g_iconst (v := 0) (pc' := 11) dX11_sheet_10 (by decide) rfl ?_
  refine g_iconst (v := 3) (pc' := 12) dX11_sheet_11 (by decide) rfl ?_
  refine g_callS (my := mX11_outside) (st := []) (av := [.int u, .int 0, .int 3]) (mcr := 0) (msr := 0) (mc := 0) (ms := 0) (pc' := 15) dX11_sheet_12 kX11_outside wX11_71 rfl (Nat.le_of_ble_eq_true rfl) (by decide) (s_out0 (h2)) rfl ?_
  rintro _ _ ⟨rfl, rfl⟩
  show Go mX11_sheet _ _ _ 15 [(0, .ref 0), (1, .int v), (2, .int u), (3, .int z)] [.int 0] (SK, M, N) _
  refine g_if_ne (tgt := 24) (pc' := 18) dX11_sheet_15 (by decide) rfl (fun hc => absurd rfl hc) (fun _ => ?_)
  refine g_iload_n (j := 3) (pc' := 19) dX11_sheet_18 rfl rfl ?_
  refine g_bipush (v := 24) (pc' := 21) dX11_sheet_19 (by decide) rfl ?_
  refine g_icmp_le (tgt := 26) (pc' := 24) dX11_sheet_21 (by decide) rfl (fun hc => (absurd h3 (Int32.not_lt.mpr hc))) (fun hc => ?_)
  refine g_iconst (v := (-1)) (pc' := 25) dX11_sheet_24 (by decide) rfl ?_
  exact g_iret dX11_sheet_25 rfl rfl (CQ.same hI)
set_option maxRecDepth 100000 in
set_option maxHeartbeats 1000000 in
theorem c_sheet_s {M : Nat → Nat → Int32} {N : Nat → Nat → Int64} {n k : Nat} {P : Nat → Int32} {pa : List (Nat → Int32)} {kp : Option YS} {tp : List Int32} {sh : Nat → Option (Nat × Nat × (Nat → Int64))} (hA : AOk ((n, k, P, pa), kp, tp, sh)) (hI : CI M N ((n, k, P, pa), kp, tp, sh)) {v u z : Int32} (h1 : ¬ (v < 0 ∨ 3 < v)) (h2 : ¬ (u < 0 ∨ 3 < u)) (h3 : ¬ 24 < z) (h4 : z < 0) : Run mX11_sheet 30 0 0 [.ref 0, .int v, .int u, .int z] (SK, M, N) (CQ M N (-14) ((n, k, P, pa), kp, tp, sh)) := by
  refine Run.of (by decide) (Nat.le_of_ble_eq_true rfl) ?_
  have hok : OkP n k P := hA.1.1.1
  have hc0 : IsC M 14 n k P := hI.1.1
  have hn6 := hok.1
  have hk6 := hok.2.1
  refine g_iload_n (j := 1) (pc' := 1) dX11_sheet_0 rfl rfl ?_
  refine g_iconst (v := 0) (pc' := 2) dX11_sheet_1 (by decide) rfl ?_
  refine g_iconst (v := 3) (pc' := 3) dX11_sheet_2 (by decide) rfl ?_
  refine g_callS (my := mX11_outside) (st := []) (av := [.int v, .int 0, .int 3]) (mcr := 0) (msr := 0) (mc := 0) (ms := 0) (pc' := 6) dX11_sheet_3 kX11_outside wX11_71 rfl (Nat.le_of_ble_eq_true rfl) (by decide) (s_out0 (h1)) rfl ?_
  rintro _ _ ⟨rfl, rfl⟩
  show Go mX11_sheet _ _ _ 6 [(0, .ref 0), (1, .int v), (2, .int u), (3, .int z)] [.int 0] (SK, M, N) _
  refine g_if_ne (tgt := 24) (pc' := 9) dX11_sheet_6 (by decide) rfl (fun hc => absurd rfl hc) (fun _ => ?_)
  refine g_iload_n (j := 2) (pc' := 10) dX11_sheet_9 rfl rfl ?_
  refine g_iconst (v := 0) (pc' := 11) dX11_sheet_10 (by decide) rfl ?_
  refine g_iconst (v := 3) (pc' := 12) dX11_sheet_11 (by decide) rfl ?_
  refine g_callS (my := mX11_outside) (st := []) (av := [.int u, .int 0, .int 3]) (mcr := 0) (msr := 0) (mc := 0) (ms := 0) (pc' := 15) dX11_sheet_12 kX11_outside wX11_71 rfl (Nat.le_of_ble_eq_true rfl) (by decide) (s_out0 (h2)) rfl ?_
  rintro _ _ ⟨rfl, rfl⟩
  show Go mX11_sheet _ _ _ 15 [(0, .ref 0), (1, .int v), (2, .int u), (3, .int z)] [.int 0] (SK, M, N) _
  refine g_if_ne (tgt := 24) (pc' := 18) dX11_sheet_15 (by decide) rfl (fun hc => absurd rfl hc) (fun _ => ?_)
  refine g_iload_n (j := 3) (pc' := 19) dX11_sheet_18 rfl rfl ?_
  refine g_bipush (v := 24) (pc' := 21) dX11_sheet_19 (by decide) rfl ?_
  refine g_icmp_le (tgt := 26) (pc' := 24) dX11_sheet_21 (by decide) rfl (fun hc => ?_) (fun hc => (absurd (Int32.not_lt.mp h3) hc))
  refine g_iload_n (j := 3) (pc' := 27) dX11_sheet_26 rfl rfl ?_
  refine g_if_ge (tgt := 33) (pc' := 30) dX11_sheet_27 (by decide) rfl (fun hc => (absurd h4 (Int32.not_lt.mpr hc))) (fun hc => ?_)
  refine g_bipush (v := (-14)) (pc' := 32) dX11_sheet_30 (by decide) rfl ?_
  exact g_iret dX11_sheet_32 rfl rfl (CQ.same hI)
set_option maxRecDepth 100000 in
set_option maxHeartbeats 1000000 in
theorem c_sheet {M : Nat → Nat → Int32} {N : Nat → Nat → Int64} {n k : Nat} {P : Nat → Int32} {pa : List (Nat → Int32)} {kp : Option YS} {tp : List Int32} {sh : Nat → Option (Nat × Nat × (Nat → Int64))} (hA : AOk ((n, k, P, pa), kp, tp, sh)) (hI : CI M N ((n, k, P, pa), kp, tp, sh)) {a b q : Nat} (ha : a < 4) (hb : b < 4) (hq : q ≤ 24) : Run mX11_sheet 30 0 0 [.ref 0, .int (nI a), .int (nI b), .int (nI q)] (SK, M, N) (CQ M N (nI q) ((n, k, P, pa), kp, tp, upS sh a (some (b, q, fun _ => 0)))) := by
  refine Run.of (by decide) (Nat.le_of_ble_eq_true rfl) ?_
  have hok : OkP n k P := hA.1.1.1
  have hc0 : IsC M 14 n k P := hI.1.1
  have hn6 := hok.1
  have hk6 := hok.2.1
  refine g_iload_n (j := 1) (pc' := 1) dX11_sheet_0 rfl rfl ?_
  refine g_iconst (v := 0) (pc' := 2) dX11_sheet_1 (by decide) rfl ?_
  refine g_iconst (v := 3) (pc' := 3) dX11_sheet_2 (by decide) rfl ?_
  refine g_callS (my := mX11_outside) (st := []) (av := [.int (nI a), .int 0, .int 3]) (mcr := 0) (msr := 0) (mc := 0) (ms := 0) (pc' := 6) dX11_sheet_3 kX11_outside wX11_71 rfl (Nat.le_of_ble_eq_true rfl) (by decide) (s_out0 (rng2 (lo := 0) (hi := 3) (Nat.zero_le _) (show a ≤ 3 by omega) (by omega))) rfl ?_
  rintro _ _ ⟨rfl, rfl⟩
  show Go mX11_sheet _ _ _ 6 [(0, .ref 0), (1, .int (nI a)), (2, .int (nI b)), (3, .int (nI q))] [.int 0] (SK, M, N) _
  refine g_if_ne (tgt := 24) (pc' := 9) dX11_sheet_6 (by decide) rfl (fun hc => absurd rfl hc) (fun _ => ?_)
  refine g_iload_n (j := 2) (pc' := 10) dX11_sheet_9 rfl rfl ?_
  refine g_iconst (v := 0) (pc' := 11) dX11_sheet_10 (by decide) rfl ?_
  refine g_iconst (v := 3) (pc' := 12) dX11_sheet_11 (by decide) rfl ?_
  refine g_callS (my := mX11_outside) (st := []) (av := [.int (nI b), .int 0, .int 3]) (mcr := 0) (msr := 0) (mc := 0) (ms := 0) (pc' := 15) dX11_sheet_12 kX11_outside wX11_71 rfl (Nat.le_of_ble_eq_true rfl) (by decide) (s_out0 (rng2 (lo := 0) (hi := 3) (Nat.zero_le _) (show b ≤ 3 by omega) (by omega))) rfl ?_
  rintro _ _ ⟨rfl, rfl⟩
  show Go mX11_sheet _ _ _ 15 [(0, .ref 0), (1, .int (nI a)), (2, .int (nI b)), (3, .int (nI q))] [.int 0] (SK, M, N) _
  refine g_if_ne (tgt := 24) (pc' := 18) dX11_sheet_15 (by decide) rfl (fun hc => absurd rfl hc) (fun _ => ?_)
  refine g_iload_n (j := 3) (pc' := 19) dX11_sheet_18 rfl rfl ?_
  refine g_bipush (v := 24) (pc' := 21) dX11_sheet_19 (by decide) rfl ?_
  refine g_icmp_le (tgt := 26) (pc' := 24) dX11_sheet_21 (by decide) rfl (fun hc => ?_) (fun hc => (absurd (nI_le (a := q) (b := 24) hq (by omega)) hc))
  refine g_iload_n (j := 3) (pc' := 27) dX11_sheet_26 rfl rfl ?_
  refine g_if_ge (tgt := 33) (pc' := 30) dX11_sheet_27 (by decide) rfl (fun hc => ?_) (fun hc => (absurd (nI_pos' (n := q) (by omega)) hc))
  refine g_aload_n (j := 0) (pc' := 34) dX11_sheet_33 rfl rfl ?_
  refine g_getR (pc' := 37) dX11_sheet_34 fX11_61 rfl rfl rfl ?_
  refine g_iload_n (j := 1) (pc' := 38) dX11_sheet_37 rfl rfl ?_
  refine g_aald (n := a) (pc' := 39) dX11_sheet_38 rfl ⟨rfl, rfl, by decide⟩ rfl (shRef (by omega)) rfl ?_
  refine g_iload_n (j := 2) (pc' := 40) dX11_sheet_39 rfl rfl ?_
  refine g_iload_n (j := 3) (pc' := 41) dX11_sheet_40 rfl rfl ?_
  refine g_callV (my := mX9_renew) (k := 181 + 2 * a) (st := []) (av := [.int (nI b), .int (nI q)]) (mcr := 0) (msr := 0) (mc := 0) (ms := 0) (pc' := 44) dX11_sheet_41 kX9_renew wX11_247 (shAt (i := a) (by omega)).1 ⟨rfl, rfl⟩ rfl (Nat.le_of_ble_eq_true rfl) (by decide) (s_renew (nI b) (nI q) (shAt (by omega))) rfl ?_
  rintro _ _ ⟨M1, N1, rfl, rfl, g1, g2, g3, g4⟩
  show Go mX11_sheet _ _ _ 44 [(0, .ref 0), (1, .int (nI a)), (2, .int (nI b)), (3, .int (nI q))] [] (SK, M1, N1) _
  refine g_iload_n (j := 3) (pc' := 45) dX11_sheet_44 rfl rfl ?_
  exact g_iret dX11_sheet_45 rfl rfl (CQ.sheet hI ha ⟨g1.1, g1.2.1, g1.2.2, fun j hj => by rw [show 182 + 2 * a = 181 + 2 * a + 1 by omega]; exact g3 j hj⟩ (fun c hc _ => g2 c hc) (fun c hc => g4 c (by omega)))
set_option maxRecDepth 100000 in
set_option maxHeartbeats 1000000 in
theorem c_drop_b {M : Nat → Nat → Int32} {N : Nat → Nat → Int64} {n k : Nat} {P : Nat → Int32} {pa : List (Nat → Int32)} {kp : Option YS} {tp : List Int32} {sh : Nat → Option (Nat × Nat × (Nat → Int64))} (hA : AOk ((n, k, P, pa), kp, tp, sh)) (hI : CI M N ((n, k, P, pa), kp, tp, sh)) {v : Int32} (h1 : v < 0 ∨ 3 < v) : Run mX11_drop 30 0 0 [.ref 0, .int v] (SK, M, N) (CQ M N (-1) ((n, k, P, pa), kp, tp, sh)) := by
  refine Run.of (by decide) (Nat.le_of_ble_eq_true rfl) ?_
  have hok : OkP n k P := hA.1.1.1
  have hc0 : IsC M 14 n k P := hI.1.1
  have hn6 := hok.1
  have hk6 := hok.2.1
  refine g_iload_n (j := 1) (pc' := 1) dX11_drop_0 rfl rfl ?_
  refine g_iconst (v := 0) (pc' := 2) dX11_drop_1 (by decide) rfl ?_
  refine g_iconst (v := 3) (pc' := 3) dX11_drop_2 (by decide) rfl ?_
  refine g_callS (my := mX11_outside) (st := []) (av := [.int v, .int 0, .int 3]) (mcr := 0) (msr := 0) (mc := 0) (ms := 0) (pc' := 6) dX11_drop_3 kX11_outside wX11_71 rfl (Nat.le_of_ble_eq_true rfl) (by decide) (s_out1 (h1)) rfl ?_
  rintro _ _ ⟨rfl, rfl⟩
  show Go mX11_drop _ _ _ 6 [(0, .ref 0), (1, .int v)] [.int 1] (SK, M, N) _
  refine g_if_eq (tgt := 11) (pc' := 9) dX11_drop_6 (by decide) rfl (fun hc => absurd hc (by decide)) (fun _ => ?_)
  refine g_iconst (v := (-1)) (pc' := 10) dX11_drop_9 (by decide) rfl ?_
  exact g_iret dX11_drop_10 rfl rfl (CQ.same hI)
set_option maxRecDepth 100000 in
set_option maxHeartbeats 1000000 in
theorem c_drop_n {M : Nat → Nat → Int32} {N : Nat → Nat → Int64} {n k : Nat} {P : Nat → Int32} {pa : List (Nat → Int32)} {kp : Option YS} {tp : List Int32} {sh : Nat → Option (Nat × Nat × (Nat → Int64))} (hA : AOk ((n, k, P, pa), kp, tp, sh)) (hI : CI M N ((n, k, P, pa), kp, tp, sh)) {a : Nat} (ha : a < 4) (hs : sh a = none) : Run mX11_drop 30 0 0 [.ref 0, .int (nI a)] (SK, M, N) (CQ M N (-11) ((n, k, P, pa), kp, tp, sh)) := by
  refine Run.of (by decide) (Nat.le_of_ble_eq_true rfl) ?_
  have hok : OkP n k P := hA.1.1.1
  have hc0 : IsC M 14 n k P := hI.1.1
  have hn6 := hok.1
  have hk6 := hok.2.1
  refine g_iload_n (j := 1) (pc' := 1) dX11_drop_0 rfl rfl ?_
  refine g_iconst (v := 0) (pc' := 2) dX11_drop_1 (by decide) rfl ?_
  refine g_iconst (v := 3) (pc' := 3) dX11_drop_2 (by decide) rfl ?_
  refine g_callS (my := mX11_outside) (st := []) (av := [.int (nI a), .int 0, .int 3]) (mcr := 0) (msr := 0) (mc := 0) (ms := 0) (pc' := 6) dX11_drop_3 kX11_outside wX11_71 rfl (Nat.le_of_ble_eq_true rfl) (by decide) (s_out0 (rng2 (lo := 0) (hi := 3) (Nat.zero_le _) (show a ≤ 3 by omega) (by omega))) rfl ?_
  rintro _ _ ⟨rfl, rfl⟩
  show Go mX11_drop _ _ _ 6 [(0, .ref 0), (1, .int (nI a))] [.int 0] (SK, M, N) _
  refine g_if_eq (tgt := 11) (pc' := 9) dX11_drop_6 (by decide) rfl (fun _ => ?_) (fun hc => absurd rfl hc)
  have h0 : M (181 + 2 * a) 0 = 1 := by have h9 := hI.2.2.2 a ha; rw [show (((n, k, P, pa), kp, tp, sh) : AS).2.2.2 a = none from hs] at h9; exact h9
  refine g_aload_n (j := 0) (pc' := 12) dX11_drop_11 rfl rfl ?_
  refine g_getR (pc' := 15) dX11_drop_12 fX11_61 rfl rfl rfl ?_
  refine g_iload_n (j := 1) (pc' := 16) dX11_drop_15 rfl rfl ?_
  refine g_aald (n := a) (pc' := 17) dX11_drop_16 rfl ⟨rfl, rfl, by decide⟩ rfl (shRef (by omega)) rfl ?_
  refine g_getI (pc' := 20) dX11_drop_17 fX11_250 (shAt (i := a) (by omega)).1 rfl rfl ?_
  rw [h0]
  refine g_if_eq (tgt := 26) (pc' := 23) dX11_drop_20 (by decide) rfl (fun hc => absurd hc (by decide)) (fun _ => ?_)
  refine g_bipush (v := (-11)) (pc' := 25) dX11_drop_23 (by decide) rfl ?_
  exact g_iret dX11_drop_25 rfl rfl (CQ.same hI)
set_option maxRecDepth 100000 in
set_option maxHeartbeats 1000000 in
theorem c_drop {M : Nat → Nat → Int32} {N : Nat → Nat → Int64} {n k : Nat} {P : Nat → Int32} {pa : List (Nat → Int32)} {kp : Option YS} {tp : List Int32} {sh : Nat → Option (Nat × Nat × (Nat → Int64))} (hA : AOk ((n, k, P, pa), kp, tp, sh)) (hI : CI M N ((n, k, P, pa), kp, tp, sh)) {a la ln : Nat} {f : Nat → Int64} (ha : a < 4) (hs : sh a = some (la, ln, f)) : Run mX11_drop 30 0 0 [.ref 0, .int (nI a)] (SK, M, N) (CQ M N (nI ln) ((n, k, P, pa), kp, tp, upS sh a none)) := by
  refine Run.of (by decide) (Nat.le_of_ble_eq_true rfl) ?_
  have hok : OkP n k P := hA.1.1.1
  have hc0 : IsC M 14 n k P := hI.1.1
  have hn6 := hok.1
  have hk6 := hok.2.1
  refine g_iload_n (j := 1) (pc' := 1) dX11_drop_0 rfl rfl ?_
  refine g_iconst (v := 0) (pc' := 2) dX11_drop_1 (by decide) rfl ?_
  refine g_iconst (v := 3) (pc' := 3) dX11_drop_2 (by decide) rfl ?_
  refine g_callS (my := mX11_outside) (st := []) (av := [.int (nI a), .int 0, .int 3]) (mcr := 0) (msr := 0) (mc := 0) (ms := 0) (pc' := 6) dX11_drop_3 kX11_outside wX11_71 rfl (Nat.le_of_ble_eq_true rfl) (by decide) (s_out0 (rng2 (lo := 0) (hi := 3) (Nat.zero_le _) (show a ≤ 3 by omega) (by omega))) rfl ?_
  rintro _ _ ⟨rfl, rfl⟩
  show Go mX11_drop _ _ _ 6 [(0, .ref 0), (1, .int (nI a))] [.int 0] (SK, M, N) _
  refine g_if_eq (tgt := 11) (pc' := 9) dX11_drop_6 (by decide) rfl (fun _ => ?_) (fun hc => absurd rfl hc)
  obtain ⟨g1, g2, g3, g4⟩ : M (181 + 2 * a) 0 = 0 ∧ M (181 + 2 * a) 1 = nI la ∧ M (181 + 2 * a) 2 = nI ln ∧ ∀ j, j < 24 → N (182 + 2 * a) j = f j := by have h9 := hI.2.2.2 a ha; rw [show (((n, k, P, pa), kp, tp, sh) : AS).2.2.2 a = some (la, ln, f) from hs] at h9; exact h9
  refine g_aload_n (j := 0) (pc' := 12) dX11_drop_11 rfl rfl ?_
  refine g_getR (pc' := 15) dX11_drop_12 fX11_61 rfl rfl rfl ?_
  refine g_iload_n (j := 1) (pc' := 16) dX11_drop_15 rfl rfl ?_
  refine g_aald (n := a) (pc' := 17) dX11_drop_16 rfl ⟨rfl, rfl, by decide⟩ rfl (shRef (by omega)) rfl ?_
  refine g_getI (pc' := 20) dX11_drop_17 fX11_250 (shAt (i := a) (by omega)).1 rfl rfl ?_
  rw [g1]
  refine g_if_eq (tgt := 26) (pc' := 23) dX11_drop_20 (by decide) rfl (fun _ => ?_) (fun hc => absurd rfl hc)
  refine g_aload_n (j := 0) (pc' := 27) dX11_drop_26 rfl rfl ?_
  refine g_getR (pc' := 30) dX11_drop_27 fX11_61 rfl rfl rfl ?_
  refine g_iload_n (j := 1) (pc' := 31) dX11_drop_30 rfl rfl ?_
  refine g_aald (n := a) (pc' := 32) dX11_drop_31 rfl ⟨rfl, rfl, by decide⟩ rfl (shRef (by omega)) rfl ?_
  refine g_iconst (v := 1) (pc' := 33) dX11_drop_32 (by decide) rfl ?_
  refine g_putI (pc' := 36) dX11_drop_33 fX11_250 (shAt (i := a) (by omega)).1 rfl ⟨by decide, by decide⟩ rfl ?_
  refine g_aload_n (j := 0) (pc' := 37) dX11_drop_36 rfl rfl ?_
  refine g_getR (pc' := 40) dX11_drop_37 fX11_61 rfl rfl rfl ?_
  refine g_iload_n (j := 1) (pc' := 41) dX11_drop_40 rfl rfl ?_
  refine g_aald (n := a) (pc' := 42) dX11_drop_41 rfl ⟨rfl, rfl, by decide⟩ rfl (shRef (by omega)) rfl ?_
  refine g_getI (pc' := 45) dX11_drop_42 fX11_253 (shAt (i := a) (by omega)).1 rfl rfl ?_
  refine g_top (y := M (181 + 2 * a) 2) (by simp (disch := omega) only [um_ne, um_at, um_at2, cpy2_ne]) ?_
  refine g_top (y := nI ln) (g3) ?_
  exact g_iret dX11_drop_45 rfl rfl (CQ.sheet hI ha (s := none) um_at (fun c hc _ => um_ne hc) (fun c hc => rfl))
set_option maxRecDepth 100000 in
set_option maxHeartbeats 1000000 in
theorem c_item_b {M : Nat → Nat → Int32} {N : Nat → Nat → Int64} {n k : Nat} {P : Nat → Int32} {pa : List (Nat → Int32)} {kp : Option YS} {tp : List Int32} {sh : Nat → Option (Nat × Nat × (Nat → Int64))} (hA : AOk ((n, k, P, pa), kp, tp, sh)) (hI : CI M N ((n, k, P, pa), kp, tp, sh)) {v u : Int32} (z : Int32) (x : Int64) (h1 : (∀ a, a < 4 → v ≠ nI a) ∨ ∀ b, b < 4 → u ≠ nI b) : Run mX11_item 30 0 0 [.ref 0, .int v, .int u, .int z, .long x] (SK, M, N) (CQ M N (-1) ((n, k, P, pa), kp, tp, sh)) := by
  refine Run.of (by decide) (Nat.le_of_ble_eq_true rfl) ?_
  have hok : OkP n k P := hA.1.1.1
  have hc0 : IsC M 14 n k P := hI.1.1
  have hn6 := hok.1
  have hk6 := hok.2.1
  refine g_aload_n (j := 0) (pc' := 1) dX11_item_0 rfl rfl ?_
  refine g_iload_n (j := 1) (pc' := 2) dX11_item_1 rfl rfl ?_
  refine g_iload_n (j := 2) (pc' := 3) dX11_item_2 rfl rfl ?_
  refine g_iload_n (j := 3) (pc' := 4) dX11_item_3 rfl rfl ?_
  refine g_iconst (v := 1) (pc' := 5) dX11_item_4 (by decide) rfl ?_
  refine g_callV (my := mX11_wrongWith) (k := 0) (st := []) (av := [.int v, .int u, .int z, .int 1]) (mcr := 0) (msr := 0) (mc := 0) (ms := 0) (pc' := 8) dX11_item_5 kX11_wrongWith wX11_231 rfl ⟨rfl, rfl⟩ rfl (Nat.le_of_ble_eq_true rfl) (by decide) (s_wr1 z 1 h1) rfl ?_
  rintro _ _ ⟨rfl, rfl⟩
  show Go mX11_item _ _ _ 8 [(0, .ref 0), (1, .int v), (2, .int u), (3, .int z), (4, .long x)] [.int (-1)] (SK, M, N) _
  refine g_istore (L' := [(0, .ref 0), (1, .int v), (2, .int u), (3, .int z), (4, .long x), (6, .int (-1))]) (pc' := 10) dX11_item_8 (by decide) rfl rfl ?_
  refine g_iload (j := 5) (pc' := 12) dX11_item_10 rfl rfl ?_
  refine g_if_eq (tgt := 18) (pc' := 15) dX11_item_12 (by decide) rfl (fun hc => (absurd hc (by decide))) (fun hc => ?_)
  refine g_iload (j := 5) (pc' := 17) dX11_item_15 rfl rfl ?_
  exact g_iret dX11_item_17 rfl rfl (CQ.same hI)
set_option maxRecDepth 100000 in
set_option maxHeartbeats 1000000 in
theorem c_item_w {M : Nat → Nat → Int32} {N : Nat → Nat → Int64} {n k : Nat} {P : Nat → Int32} {pa : List (Nat → Int32)} {kp : Option YS} {tp : List Int32} {sh : Nat → Option (Nat × Nat × (Nat → Int64))} (hA : AOk ((n, k, P, pa), kp, tp, sh)) (hI : CI M N ((n, k, P, pa), kp, tp, sh)) {a b : Nat} {z : Int32} (x : Int64) (ha : a < 4) (hb : b < 4) (h1 : ¬ wrS (sh a) b z 1 = 0) : Run mX11_item 30 0 0 [.ref 0, .int (nI a), .int (nI b), .int z, .long x] (SK, M, N) (CQ M N (wrS (sh a) b z 1) ((n, k, P, pa), kp, tp, sh)) := by
  refine Run.of (by decide) (Nat.le_of_ble_eq_true rfl) ?_
  have hok : OkP n k P := hA.1.1.1
  have hc0 : IsC M 14 n k P := hI.1.1
  have hn6 := hok.1
  have hk6 := hok.2.1
  refine g_aload_n (j := 0) (pc' := 1) dX11_item_0 rfl rfl ?_
  refine g_iload_n (j := 1) (pc' := 2) dX11_item_1 rfl rfl ?_
  refine g_iload_n (j := 2) (pc' := 3) dX11_item_2 rfl rfl ?_
  refine g_iload_n (j := 3) (pc' := 4) dX11_item_3 rfl rfl ?_
  refine g_iconst (v := 1) (pc' := 5) dX11_item_4 (by decide) rfl ?_
  refine g_callV (my := mX11_wrongWith) (k := 0) (st := []) (av := [.int (nI a), .int (nI b), .int z, .int 1]) (mcr := 0) (msr := 0) (mc := 0) (ms := 0) (pc' := 8) dX11_item_5 kX11_wrongWith wX11_231 rfl ⟨rfl, rfl⟩ rfl (Nat.le_of_ble_eq_true rfl) (by decide) (s_wrS hA hI ha hb z 1) rfl ?_
  rintro _ _ ⟨rfl, rfl⟩
  show Go mX11_item _ _ _ 8 [(0, .ref 0), (1, .int (nI a)), (2, .int (nI b)), (3, .int z), (4, .long x)] [.int (wrS (sh a) b z 1)] (SK, M, N) _
  refine g_istore (L' := [(0, .ref 0), (1, .int (nI a)), (2, .int (nI b)), (3, .int z), (4, .long x), (6, .int (wrS (sh a) b z 1))]) (pc' := 10) dX11_item_8 (by decide) rfl rfl ?_
  refine g_iload (j := 5) (pc' := 12) dX11_item_10 rfl rfl ?_
  refine g_if_eq (tgt := 18) (pc' := 15) dX11_item_12 (by decide) rfl (fun hc => (absurd hc h1)) (fun hc => ?_)
  refine g_iload (j := 5) (pc' := 17) dX11_item_15 rfl rfl ?_
  exact g_iret dX11_item_17 rfl rfl (CQ.same hI)
set_option maxRecDepth 100000 in
set_option maxHeartbeats 1000000 in
theorem c_item {M : Nat → Nat → Int32} {N : Nat → Nat → Int64} {n k : Nat} {P : Nat → Int32} {pa : List (Nat → Int32)} {kp : Option YS} {tp : List Int32} {sh : Nat → Option (Nat × Nat × (Nat → Int64))} (hA : AOk ((n, k, P, pa), kp, tp, sh)) (hI : CI M N ((n, k, P, pa), kp, tp, sh)) {a b q ln : Nat} {f : Nat → Int64} (x : Int64) (ha : a < 4) (hb : b < 4) (hs : sh a = some (b, ln, f)) (hq : q + 1 ≤ ln) (hl : ln ≤ 24) : Run mX11_item 30 0 0 [.ref 0, .int (nI a), .int (nI b), .int (nI q), .long x] (SK, M, N) (CQ M N (1) ((n, k, P, pa), kp, tp, upS sh a (some (b, ln, fun j => if j = q then cutL (nI b) x else f j)))) := by
  refine Run.of (by decide) (Nat.le_of_ble_eq_true rfl) ?_
  have hok : OkP n k P := hA.1.1.1
  have hc0 : IsC M 14 n k P := hI.1.1
  have hn6 := hok.1
  have hk6 := hok.2.1
  have h0 : wrS (sh a) b (nI q) 1 = 0 := by
    unfold wrS; rw [hs]; simp only
    rw [if_neg (not_not.mpr rfl), if_pos]
    refine ⟨nI_pos' (by omega), by decide, ?_⟩
    rw [show nI ln - (1 : Int32) = nI (ln - 1) from pk_sub (a := ln) (b := 1) (by omega)]
    exact nI_le (by omega) (by omega)
  obtain ⟨g1, g2, g3, g4⟩ : M (181 + 2 * a) 0 = 0 ∧ M (181 + 2 * a) 1 = nI b ∧ M (181 + 2 * a) 2 = nI ln ∧ ∀ j, j < 24 → N (182 + 2 * a) j = f j := by have h9 := hI.2.2.2 a ha; rw [show (((n, k, P, pa), kp, tp, sh) : AS).2.2.2 a = some (b, ln, f) from hs] at h9; exact h9
  refine g_aload_n (j := 0) (pc' := 1) dX11_item_0 rfl rfl ?_
  refine g_iload_n (j := 1) (pc' := 2) dX11_item_1 rfl rfl ?_
  refine g_iload_n (j := 2) (pc' := 3) dX11_item_2 rfl rfl ?_
  refine g_iload_n (j := 3) (pc' := 4) dX11_item_3 rfl rfl ?_
  refine g_iconst (v := 1) (pc' := 5) dX11_item_4 (by decide) rfl ?_
  refine g_callV (my := mX11_wrongWith) (k := 0) (st := []) (av := [.int (nI a), .int (nI b), .int (nI q), .int 1]) (mcr := 0) (msr := 0) (mc := 0) (ms := 0) (pc' := 8) dX11_item_5 kX11_wrongWith wX11_231 rfl ⟨rfl, rfl⟩ rfl (Nat.le_of_ble_eq_true rfl) (by decide) (s_wrS hA hI ha hb (nI q) 1) rfl ?_
  rintro _ _ ⟨rfl, rfl⟩
  show Go mX11_item _ _ _ 8 [(0, .ref 0), (1, .int (nI a)), (2, .int (nI b)), (3, .int (nI q)), (4, .long x)] [.int (wrS (sh a) b (nI q) 1)] (SK, M, N) _
  refine g_top (y := 0) (h0) ?_
  refine g_istore (L' := [(0, .ref 0), (1, .int (nI a)), (2, .int (nI b)), (3, .int (nI q)), (4, .long x), (6, .int 0)]) (pc' := 10) dX11_item_8 (by decide) rfl rfl ?_
  refine g_iload (j := 5) (pc' := 12) dX11_item_10 rfl rfl ?_
  refine g_if_eq (tgt := 18) (pc' := 15) dX11_item_12 (by decide) rfl (fun _ => ?_) (fun hc => absurd rfl hc)
  refine g_aload_n (j := 0) (pc' := 19) dX11_item_18 rfl rfl ?_
  refine g_getR (pc' := 22) dX11_item_19 fX11_61 rfl rfl rfl ?_
  refine g_iload_n (j := 1) (pc' := 23) dX11_item_22 rfl rfl ?_
  refine g_aald (n := a) (pc' := 24) dX11_item_23 rfl ⟨rfl, rfl, by decide⟩ rfl (shRef (by omega)) rfl ?_
  refine g_iload_n (j := 3) (pc' := 25) dX11_item_24 rfl rfl ?_
  refine g_lload (j := 4) (pc' := 27) dX11_item_25 rfl rfl ?_
  refine g_callV (my := mX9_put) (k := 181 + 2 * a) (st := []) (av := [.int (nI q), .long x]) (mcr := 0) (msr := 0) (mc := 0) (ms := 0) (pc' := 30) dX11_item_27 kX9_put wX11_243 (shAt (i := a) (by omega)).1 ⟨rfl, rfl⟩ rfl (Nat.le_of_ble_eq_true rfl) (by decide) (s_put x (shAt (by omega)) (by omega)) rfl ?_
  rintro _ _ ⟨rfl, rfl⟩
  show Go mX11_item _ _ _ 30 [(0, .ref 0), (1, .int (nI a)), (2, .int (nI b)), (3, .int (nI q)), (4, .long x), (6, .int 0)] [] (SK, M, (um N (181 + 2 * a + 1) q (cutL (M (181 + 2 * a) 1) x))) _
  refine g_iconst (v := 1) (pc' := 31) dX11_item_30 (by decide) rfl ?_
  refine g_iret dX11_item_31 rfl rfl (CQ.sheet hI ha ⟨g1, g2, g3, fun j hj => ?_⟩ (fun c hc _ => rfl) (fun c hc => um_ne (by omega)))
  show _ = if j = q then cutL (nI b) x else f j
  rw [g2, show 182 + 2 * a = 181 + 2 * a + 1 by omega]
  by_cases e : j = q
  · subst e; rw [um_at, if_pos rfl]
  · rw [um_at2 e, if_neg e, show 181 + 2 * a + 1 = 182 + 2 * a by omega]; exact g4 j hj
set_option maxRecDepth 100000 in
set_option maxHeartbeats 1000000 in
theorem c_copy_b1 {M : Nat → Nat → Int32} {N : Nat → Nat → Int64} {n k : Nat} {P : Nat → Int32} {pa : List (Nat → Int32)} {kp : Option YS} {tp : List Int32} {sh : Nat → Option (Nat × Nat × (Nat → Int64))} (hA : AOk ((n, k, P, pa), kp, tp, sh)) (hI : CI M N ((n, k, P, pa), kp, tp, sh)) {v : Int32} (i u j z : Int32) (h1 : v < 0 ∨ 3 < v) : Run mX11_copy 30 0 0 [.ref 0, .int v, .int i, .int u, .int j, .int z] (SK, M, N) (CQ M N (-1) ((n, k, P, pa), kp, tp, sh)) := by
  refine Run.of (by decide) (Nat.le_of_ble_eq_true rfl) ?_
  have hok : OkP n k P := hA.1.1.1
  have hc0 : IsC M 14 n k P := hI.1.1
  have hn6 := hok.1
  have hk6 := hok.2.1
  refine g_iload_n (j := 1) (pc' := 1) dX11_copy_0 rfl rfl ?_
  refine g_iconst (v := 0) (pc' := 2) dX11_copy_1 (by decide) rfl ?_
  refine g_iconst (v := 3) (pc' := 3) dX11_copy_2 (by decide) rfl ?_
  refine g_callS (my := mX11_outside) (st := []) (av := [.int v, .int 0, .int 3]) (mcr := 0) (msr := 0) (mc := 0) (ms := 0) (pc' := 6) dX11_copy_3 kX11_outside wX11_71 rfl (Nat.le_of_ble_eq_true rfl) (by decide) (s_out1 (h1)) rfl ?_
  rintro _ _ ⟨rfl, rfl⟩
  show Go mX11_copy _ _ _ 6 [(0, .ref 0), (1, .int v), (2, .int i), (3, .int u), (4, .int j), (5, .int z)] [.int 1] (SK, M, N) _
  refine g_if_ne (tgt := 18) (pc' := 9) dX11_copy_6 (by decide) rfl (fun _ => ?_) (fun hc => absurd hc (by decide))
  refine g_iconst (v := (-1)) (pc' := 19) dX11_copy_18 (by decide) rfl ?_
  exact g_iret dX11_copy_19 rfl rfl (CQ.same hI)
set_option maxRecDepth 100000 in
set_option maxHeartbeats 1000000 in
theorem c_copy_b2 {M : Nat → Nat → Int32} {N : Nat → Nat → Int64} {n k : Nat} {P : Nat → Int32} {pa : List (Nat → Int32)} {kp : Option YS} {tp : List Int32} {sh : Nat → Option (Nat × Nat × (Nat → Int64))} (hA : AOk ((n, k, P, pa), kp, tp, sh)) (hI : CI M N ((n, k, P, pa), kp, tp, sh)) {v u : Int32} (i j z : Int32) (h1 : ¬ (v < 0 ∨ 3 < v)) (h2 : u < 0 ∨ 3 < u) : Run mX11_copy 30 0 0 [.ref 0, .int v, .int i, .int u, .int j, .int z] (SK, M, N) (CQ M N (-1) ((n, k, P, pa), kp, tp, sh)) := by
  refine Run.of (by decide) (Nat.le_of_ble_eq_true rfl) ?_
  have hok : OkP n k P := hA.1.1.1
  have hc0 : IsC M 14 n k P := hI.1.1
  have hn6 := hok.1
  have hk6 := hok.2.1
  refine g_iload_n (j := 1) (pc' := 1) dX11_copy_0 rfl rfl ?_
  refine g_iconst (v := 0) (pc' := 2) dX11_copy_1 (by decide) rfl ?_
  refine g_iconst (v := 3) (pc' := 3) dX11_copy_2 (by decide) rfl ?_
  refine g_callS (my := mX11_outside) (st := []) (av := [.int v, .int 0, .int 3]) (mcr := 0) (msr := 0) (mc := 0) (ms := 0) (pc' := 6) dX11_copy_3 kX11_outside wX11_71 rfl (Nat.le_of_ble_eq_true rfl) (by decide) (s_out0 (h1)) rfl ?_
  rintro _ _ ⟨rfl, rfl⟩
  show Go mX11_copy _ _ _ 6 [(0, .ref 0), (1, .int v), (2, .int i), (3, .int u), (4, .int j), (5, .int z)] [.int 0] (SK, M, N) _
  refine g_if_ne (tgt := 18) (pc' := 9) dX11_copy_6 (by decide) rfl (fun hc => absurd rfl hc) (fun _ => ?_)
  refine g_iload_n (j := 3) (pc' := 10) dX11_copy_9 rfl rfl ?_
  refine g_iconst (v := 0) (pc' := 11) dX11_copy_10 (by decide) rfl ?_
  refine g_iconst (v := 3) (pc' := 12) dX11_copy_11 (by decide) rfl ?_
  refine g_callS (my := mX11_outside) (st := []) (av := [.int u, .int 0, .int 3]) (mcr := 0) (msr := 0) (mc := 0) (ms := 0) (pc' := 15) dX11_copy_12 kX11_outside wX11_71 rfl (Nat.le_of_ble_eq_true rfl) (by decide) (s_out1 (h2)) rfl ?_
  rintro _ _ ⟨rfl, rfl⟩
  show Go mX11_copy _ _ _ 15 [(0, .ref 0), (1, .int v), (2, .int i), (3, .int u), (4, .int j), (5, .int z)] [.int 1] (SK, M, N) _
  refine g_if_eq (tgt := 20) (pc' := 18) dX11_copy_15 (by decide) rfl (fun hc => absurd hc (by decide)) (fun _ => ?_)
  refine g_iconst (v := (-1)) (pc' := 19) dX11_copy_18 (by decide) rfl ?_
  exact g_iret dX11_copy_19 rfl rfl (CQ.same hI)
set_option maxRecDepth 100000 in
set_option maxHeartbeats 1000000 in
theorem c_copy_n1 {M : Nat → Nat → Int32} {N : Nat → Nat → Int64} {n k : Nat} {P : Nat → Int32} {pa : List (Nat → Int32)} {kp : Option YS} {tp : List Int32} {sh : Nat → Option (Nat × Nat × (Nat → Int64))} (hA : AOk ((n, k, P, pa), kp, tp, sh)) (hI : CI M N ((n, k, P, pa), kp, tp, sh)) {a b : Nat} (i j z : Int32) (ha : a < 4) (hb : b < 4) (hs : sh a = none) : Run mX11_copy 30 0 0 [.ref 0, .int (nI a), .int i, .int (nI b), .int j, .int z] (SK, M, N) (CQ M N (-11) ((n, k, P, pa), kp, tp, sh)) := by
  refine Run.of (by decide) (Nat.le_of_ble_eq_true rfl) ?_
  have hok : OkP n k P := hA.1.1.1
  have hc0 : IsC M 14 n k P := hI.1.1
  have hn6 := hok.1
  have hk6 := hok.2.1
  refine g_iload_n (j := 1) (pc' := 1) dX11_copy_0 rfl rfl ?_
  refine g_iconst (v := 0) (pc' := 2) dX11_copy_1 (by decide) rfl ?_
  refine g_iconst (v := 3) (pc' := 3) dX11_copy_2 (by decide) rfl ?_
  refine g_callS (my := mX11_outside) (st := []) (av := [.int (nI a), .int 0, .int 3]) (mcr := 0) (msr := 0) (mc := 0) (ms := 0) (pc' := 6) dX11_copy_3 kX11_outside wX11_71 rfl (Nat.le_of_ble_eq_true rfl) (by decide) (s_out0 (rng2 (lo := 0) (hi := 3) (Nat.zero_le _) (show a ≤ 3 by omega) (by omega))) rfl ?_
  rintro _ _ ⟨rfl, rfl⟩
  show Go mX11_copy _ _ _ 6 [(0, .ref 0), (1, .int (nI a)), (2, .int i), (3, .int (nI b)), (4, .int j), (5, .int z)] [.int 0] (SK, M, N) _
  refine g_if_ne (tgt := 18) (pc' := 9) dX11_copy_6 (by decide) rfl (fun hc => absurd rfl hc) (fun _ => ?_)
  refine g_iload_n (j := 3) (pc' := 10) dX11_copy_9 rfl rfl ?_
  refine g_iconst (v := 0) (pc' := 11) dX11_copy_10 (by decide) rfl ?_
  refine g_iconst (v := 3) (pc' := 12) dX11_copy_11 (by decide) rfl ?_
  refine g_callS (my := mX11_outside) (st := []) (av := [.int (nI b), .int 0, .int 3]) (mcr := 0) (msr := 0) (mc := 0) (ms := 0) (pc' := 15) dX11_copy_12 kX11_outside wX11_71 rfl (Nat.le_of_ble_eq_true rfl) (by decide) (s_out0 (rng2 (lo := 0) (hi := 3) (Nat.zero_le _) (show b ≤ 3 by omega) (by omega))) rfl ?_
  rintro _ _ ⟨rfl, rfl⟩
  show Go mX11_copy _ _ _ 15 [(0, .ref 0), (1, .int (nI a)), (2, .int i), (3, .int (nI b)), (4, .int j), (5, .int z)] [.int 0] (SK, M, N) _
  refine g_if_eq (tgt := 20) (pc' := 18) dX11_copy_15 (by decide) rfl (fun _ => ?_) (fun hc => absurd rfl hc)
  refine g_aload_n (j := 0) (pc' := 21) dX11_copy_20 rfl rfl ?_
  refine g_getR (pc' := 24) dX11_copy_21 fX11_61 rfl rfl rfl ?_
  refine g_iload_n (j := 1) (pc' := 25) dX11_copy_24 rfl rfl ?_
  refine g_aald (n := a) (pc' := 26) dX11_copy_25 rfl ⟨rfl, rfl, by decide⟩ rfl (shRef (by omega)) rfl ?_
  refine g_astore (L' := [(0, .ref 0), (1, .int (nI a)), (2, .int i), (3, .int (nI b)), (4, .int j), (5, .int z), (6, .ref (181 + 2 * a))]) (pc' := 28) dX11_copy_26 (by decide) rfl rfl ?_
  refine g_aload_n (j := 0) (pc' := 29) dX11_copy_28 rfl rfl ?_
  refine g_getR (pc' := 32) dX11_copy_29 fX11_61 rfl rfl rfl ?_
  refine g_iload_n (j := 3) (pc' := 33) dX11_copy_32 rfl rfl ?_
  refine g_aald (n := b) (pc' := 34) dX11_copy_33 rfl ⟨rfl, rfl, by decide⟩ rfl (shRef (by omega)) rfl ?_
  refine g_astore (L' := [(0, .ref 0), (1, .int (nI a)), (2, .int i), (3, .int (nI b)), (4, .int j), (5, .int z), (6, .ref (181 + 2 * a)), (7, .ref (181 + 2 * b))]) (pc' := 36) dX11_copy_34 (by decide) rfl rfl ?_
  refine g_aload (j := 6) (pc' := 38) dX11_copy_36 rfl rfl ?_
  refine g_getI (pc' := 41) dX11_copy_38 fX11_250 (shAt (i := a) (by omega)).1 rfl rfl ?_
  have g : M (181 + 2 * a) 0 = 1 := by have h9 := hI.2.2.2 a ha; rw [show (((n, k, P, pa), kp, tp, sh) : AS).2.2.2 a = none from hs] at h9; exact h9
  rw [g]
  refine g_if_ne (tgt := 52) (pc' := 44) dX11_copy_41 (by decide) rfl (fun _ => ?_) (fun hc => absurd hc (by decide))
  refine g_bipush (v := (-11)) (pc' := 54) dX11_copy_52 (by decide) rfl ?_
  exact g_iret dX11_copy_54 rfl rfl (CQ.same hI)
set_option maxRecDepth 100000 in
set_option maxHeartbeats 1000000 in
theorem c_copy_n2 {M : Nat → Nat → Int32} {N : Nat → Nat → Int64} {n k : Nat} {P : Nat → Int32} {pa : List (Nat → Int32)} {kp : Option YS} {tp : List Int32} {sh : Nat → Option (Nat × Nat × (Nat → Int64))} (hA : AOk ((n, k, P, pa), kp, tp, sh)) (hI : CI M N ((n, k, P, pa), kp, tp, sh)) {a b la ln : Nat} {f : Nat → Int64} (i j z : Int32) (ha : a < 4) (hb : b < 4) (hs : sh a = some (la, ln, f)) (hs2 : sh b = none) : Run mX11_copy 30 0 0 [.ref 0, .int (nI a), .int i, .int (nI b), .int j, .int z] (SK, M, N) (CQ M N (-11) ((n, k, P, pa), kp, tp, sh)) := by
  refine Run.of (by decide) (Nat.le_of_ble_eq_true rfl) ?_
  have hok : OkP n k P := hA.1.1.1
  have hc0 : IsC M 14 n k P := hI.1.1
  have hn6 := hok.1
  have hk6 := hok.2.1
  refine g_iload_n (j := 1) (pc' := 1) dX11_copy_0 rfl rfl ?_
  refine g_iconst (v := 0) (pc' := 2) dX11_copy_1 (by decide) rfl ?_
  refine g_iconst (v := 3) (pc' := 3) dX11_copy_2 (by decide) rfl ?_
  refine g_callS (my := mX11_outside) (st := []) (av := [.int (nI a), .int 0, .int 3]) (mcr := 0) (msr := 0) (mc := 0) (ms := 0) (pc' := 6) dX11_copy_3 kX11_outside wX11_71 rfl (Nat.le_of_ble_eq_true rfl) (by decide) (s_out0 (rng2 (lo := 0) (hi := 3) (Nat.zero_le _) (show a ≤ 3 by omega) (by omega))) rfl ?_
  rintro _ _ ⟨rfl, rfl⟩
  show Go mX11_copy _ _ _ 6 [(0, .ref 0), (1, .int (nI a)), (2, .int i), (3, .int (nI b)), (4, .int j), (5, .int z)] [.int 0] (SK, M, N) _
  refine g_if_ne (tgt := 18) (pc' := 9) dX11_copy_6 (by decide) rfl (fun hc => absurd rfl hc) (fun _ => ?_)
  refine g_iload_n (j := 3) (pc' := 10) dX11_copy_9 rfl rfl ?_
  refine g_iconst (v := 0) (pc' := 11) dX11_copy_10 (by decide) rfl ?_
  refine g_iconst (v := 3) (pc' := 12) dX11_copy_11 (by decide) rfl ?_
  refine g_callS (my := mX11_outside) (st := []) (av := [.int (nI b), .int 0, .int 3]) (mcr := 0) (msr := 0) (mc := 0) (ms := 0) (pc' := 15) dX11_copy_12 kX11_outside wX11_71 rfl (Nat.le_of_ble_eq_true rfl) (by decide) (s_out0 (rng2 (lo := 0) (hi := 3) (Nat.zero_le _) (show b ≤ 3 by omega) (by omega))) rfl ?_
  rintro _ _ ⟨rfl, rfl⟩
  show Go mX11_copy _ _ _ 15 [(0, .ref 0), (1, .int (nI a)), (2, .int i), (3, .int (nI b)), (4, .int j), (5, .int z)] [.int 0] (SK, M, N) _
  refine g_if_eq (tgt := 20) (pc' := 18) dX11_copy_15 (by decide) rfl (fun _ => ?_) (fun hc => absurd rfl hc)
  refine g_aload_n (j := 0) (pc' := 21) dX11_copy_20 rfl rfl ?_
  refine g_getR (pc' := 24) dX11_copy_21 fX11_61 rfl rfl rfl ?_
  refine g_iload_n (j := 1) (pc' := 25) dX11_copy_24 rfl rfl ?_
  refine g_aald (n := a) (pc' := 26) dX11_copy_25 rfl ⟨rfl, rfl, by decide⟩ rfl (shRef (by omega)) rfl ?_
  refine g_astore (L' := [(0, .ref 0), (1, .int (nI a)), (2, .int i), (3, .int (nI b)), (4, .int j), (5, .int z), (6, .ref (181 + 2 * a))]) (pc' := 28) dX11_copy_26 (by decide) rfl rfl ?_
  refine g_aload_n (j := 0) (pc' := 29) dX11_copy_28 rfl rfl ?_
  refine g_getR (pc' := 32) dX11_copy_29 fX11_61 rfl rfl rfl ?_
  refine g_iload_n (j := 3) (pc' := 33) dX11_copy_32 rfl rfl ?_
  refine g_aald (n := b) (pc' := 34) dX11_copy_33 rfl ⟨rfl, rfl, by decide⟩ rfl (shRef (by omega)) rfl ?_
  refine g_astore (L' := [(0, .ref 0), (1, .int (nI a)), (2, .int i), (3, .int (nI b)), (4, .int j), (5, .int z), (6, .ref (181 + 2 * a)), (7, .ref (181 + 2 * b))]) (pc' := 36) dX11_copy_34 (by decide) rfl rfl ?_
  refine g_aload (j := 6) (pc' := 38) dX11_copy_36 rfl rfl ?_
  refine g_getI (pc' := 41) dX11_copy_38 fX11_250 (shAt (i := a) (by omega)).1 rfl rfl ?_
  obtain ⟨g1, g2, g3, g4⟩ : M (181 + 2 * a) 0 = 0 ∧ M (181 + 2 * a) 1 = nI la ∧ M (181 + 2 * a) 2 = nI ln ∧ ∀ j, j < 24 → N (182 + 2 * a) j = f j := by have h9 := hI.2.2.2 a ha; rw [show (((n, k, P, pa), kp, tp, sh) : AS).2.2.2 a = some (la, ln, f) from hs] at h9; exact h9
  have g : M (181 + 2 * b) 0 = 1 := by have h9 := hI.2.2.2 b hb; rw [show (((n, k, P, pa), kp, tp, sh) : AS).2.2.2 b = none from hs2] at h9; exact h9
  rw [g1]
  refine g_if_ne (tgt := 52) (pc' := 44) dX11_copy_41 (by decide) rfl (fun hc => absurd rfl hc) (fun _ => ?_)
  refine g_aload (j := 7) (pc' := 46) dX11_copy_44 rfl rfl ?_
  refine g_getI (pc' := 49) dX11_copy_46 fX11_250 (shAt (i := b) (by omega)).1 rfl rfl ?_
  rw [g]
  refine g_if_eq (tgt := 55) (pc' := 52) dX11_copy_49 (by decide) rfl (fun hc => absurd hc (by decide)) (fun _ => ?_)
  refine g_bipush (v := (-11)) (pc' := 54) dX11_copy_52 (by decide) rfl ?_
  exact g_iret dX11_copy_54 rfl rfl (CQ.same hI)
set_option maxRecDepth 100000 in
set_option maxHeartbeats 1000000 in
theorem c_copy_c {M : Nat → Nat → Int32} {N : Nat → Nat → Int64} {n k : Nat} {P : Nat → Int32} {pa : List (Nat → Int32)} {kp : Option YS} {tp : List Int32} {sh : Nat → Option (Nat × Nat × (Nat → Int64))} (hA : AOk ((n, k, P, pa), kp, tp, sh)) (hI : CI M N ((n, k, P, pa), kp, tp, sh)) {a b la ln lb lm : Nat} {f g : Nat → Int64} (i j z : Int32) (ha : a < 4) (hb : b < 4) (hs : sh a = some (la, ln, f)) (hs2 : sh b = some (lb, lm, g)) (hne : la ≠ lb) : Run mX11_copy 30 0 0 [.ref 0, .int (nI a), .int i, .int (nI b), .int j, .int z] (SK, M, N) (CQ M N (-12) ((n, k, P, pa), kp, tp, sh)) := by
  refine Run.of (by decide) (Nat.le_of_ble_eq_true rfl) ?_
  have hok : OkP n k P := hA.1.1.1
  have hc0 : IsC M 14 n k P := hI.1.1
  have hn6 := hok.1
  have hk6 := hok.2.1
  refine g_iload_n (j := 1) (pc' := 1) dX11_copy_0 rfl rfl ?_
  refine g_iconst (v := 0) (pc' := 2) dX11_copy_1 (by decide) rfl ?_
  refine g_iconst (v := 3) (pc' := 3) dX11_copy_2 (by decide) rfl ?_
  refine g_callS (my := mX11_outside) (st := []) (av := [.int (nI a), .int 0, .int 3]) (mcr := 0) (msr := 0) (mc := 0) (ms := 0) (pc' := 6) dX11_copy_3 kX11_outside wX11_71 rfl (Nat.le_of_ble_eq_true rfl) (by decide) (s_out0 (rng2 (lo := 0) (hi := 3) (Nat.zero_le _) (show a ≤ 3 by omega) (by omega))) rfl ?_
  rintro _ _ ⟨rfl, rfl⟩
  show Go mX11_copy _ _ _ 6 [(0, .ref 0), (1, .int (nI a)), (2, .int i), (3, .int (nI b)), (4, .int j), (5, .int z)] [.int 0] (SK, M, N) _
  refine g_if_ne (tgt := 18) (pc' := 9) dX11_copy_6 (by decide) rfl (fun hc => absurd rfl hc) (fun _ => ?_)
  refine g_iload_n (j := 3) (pc' := 10) dX11_copy_9 rfl rfl ?_
  refine g_iconst (v := 0) (pc' := 11) dX11_copy_10 (by decide) rfl ?_
  refine g_iconst (v := 3) (pc' := 12) dX11_copy_11 (by decide) rfl ?_
  refine g_callS (my := mX11_outside) (st := []) (av := [.int (nI b), .int 0, .int 3]) (mcr := 0) (msr := 0) (mc := 0) (ms := 0) (pc' := 15) dX11_copy_12 kX11_outside wX11_71 rfl (Nat.le_of_ble_eq_true rfl) (by decide) (s_out0 (rng2 (lo := 0) (hi := 3) (Nat.zero_le _) (show b ≤ 3 by omega) (by omega))) rfl ?_
  rintro _ _ ⟨rfl, rfl⟩
  show Go mX11_copy _ _ _ 15 [(0, .ref 0), (1, .int (nI a)), (2, .int i), (3, .int (nI b)), (4, .int j), (5, .int z)] [.int 0] (SK, M, N) _
  refine g_if_eq (tgt := 20) (pc' := 18) dX11_copy_15 (by decide) rfl (fun _ => ?_) (fun hc => absurd rfl hc)
  refine g_aload_n (j := 0) (pc' := 21) dX11_copy_20 rfl rfl ?_
  refine g_getR (pc' := 24) dX11_copy_21 fX11_61 rfl rfl rfl ?_
  refine g_iload_n (j := 1) (pc' := 25) dX11_copy_24 rfl rfl ?_
  refine g_aald (n := a) (pc' := 26) dX11_copy_25 rfl ⟨rfl, rfl, by decide⟩ rfl (shRef (by omega)) rfl ?_
  refine g_astore (L' := [(0, .ref 0), (1, .int (nI a)), (2, .int i), (3, .int (nI b)), (4, .int j), (5, .int z), (6, .ref (181 + 2 * a))]) (pc' := 28) dX11_copy_26 (by decide) rfl rfl ?_
  refine g_aload_n (j := 0) (pc' := 29) dX11_copy_28 rfl rfl ?_
  refine g_getR (pc' := 32) dX11_copy_29 fX11_61 rfl rfl rfl ?_
  refine g_iload_n (j := 3) (pc' := 33) dX11_copy_32 rfl rfl ?_
  refine g_aald (n := b) (pc' := 34) dX11_copy_33 rfl ⟨rfl, rfl, by decide⟩ rfl (shRef (by omega)) rfl ?_
  refine g_astore (L' := [(0, .ref 0), (1, .int (nI a)), (2, .int i), (3, .int (nI b)), (4, .int j), (5, .int z), (6, .ref (181 + 2 * a)), (7, .ref (181 + 2 * b))]) (pc' := 36) dX11_copy_34 (by decide) rfl rfl ?_
  refine g_aload (j := 6) (pc' := 38) dX11_copy_36 rfl rfl ?_
  refine g_getI (pc' := 41) dX11_copy_38 fX11_250 (shAt (i := a) (by omega)).1 rfl rfl ?_
  obtain ⟨g1, g2, g3, g4⟩ : M (181 + 2 * a) 0 = 0 ∧ M (181 + 2 * a) 1 = nI la ∧ M (181 + 2 * a) 2 = nI ln ∧ ∀ j, j < 24 → N (182 + 2 * a) j = f j := by have h9 := hI.2.2.2 a ha; rw [show (((n, k, P, pa), kp, tp, sh) : AS).2.2.2 a = some (la, ln, f) from hs] at h9; exact h9
  obtain ⟨m1, m2, m3, m4⟩ : M (181 + 2 * b) 0 = 0 ∧ M (181 + 2 * b) 1 = nI lb ∧ M (181 + 2 * b) 2 = nI lm ∧ ∀ j, j < 24 → N (182 + 2 * b) j = g j := by have h9 := hI.2.2.2 b hb; rw [show (((n, k, P, pa), kp, tp, sh) : AS).2.2.2 b = some (lb, lm, g) from hs2] at h9; exact h9
  rw [g1]
  refine g_if_ne (tgt := 52) (pc' := 44) dX11_copy_41 (by decide) rfl (fun hc => absurd rfl hc) (fun _ => ?_)
  refine g_aload (j := 7) (pc' := 46) dX11_copy_44 rfl rfl ?_
  refine g_getI (pc' := 49) dX11_copy_46 fX11_250 (shAt (i := b) (by omega)).1 rfl rfl ?_
  rw [m1]
  refine g_if_eq (tgt := 55) (pc' := 52) dX11_copy_49 (by decide) rfl (fun _ => ?_) (fun hc => absurd rfl hc)
  refine g_aload (j := 6) (pc' := 57) dX11_copy_55 rfl rfl ?_
  refine g_getI (pc' := 60) dX11_copy_57 fX11_254 (shAt (i := a) (by omega)).1 rfl rfl ?_
  refine g_top (y := nI la) (g2) ?_
  refine g_aload (j := 7) (pc' := 62) dX11_copy_60 rfl rfl ?_
  refine g_getI (pc' := 65) dX11_copy_62 fX11_254 (shAt (i := b) (by omega)).1 rfl rfl ?_
  refine g_top (y := nI lb) (m2) ?_
  have q1 := (hA.2.2.2 a ha _ _ _ hs).1
  have q2 := (hA.2.2.2 b hb _ _ _ hs2).1
  refine g_icmp_eq (tgt := 71) (pc' := 68) dX11_copy_65 (by decide) rfl (fun hc => (absurd ((nI_eq (by omega) (by omega)).mp hc) hne)) (fun hc => ?_)
  refine g_bipush (v := (-12)) (pc' := 70) dX11_copy_68 (by decide) rfl ?_
  exact g_iret dX11_copy_70 rfl rfl (CQ.same hI)
set_option maxRecDepth 100000 in
set_option maxHeartbeats 1000000 in
theorem c_copy_i1 {M : Nat → Nat → Int32} {N : Nat → Nat → Int64} {n k : Nat} {P : Nat → Int32} {pa : List (Nat → Int32)} {kp : Option YS} {tp : List Int32} {sh : Nat → Option (Nat × Nat × (Nat → Int64))} (hA : AOk ((n, k, P, pa), kp, tp, sh)) (hI : CI M N ((n, k, P, pa), kp, tp, sh)) {a b la ln lb lm : Nat} {f g : Nat → Int64} {i : Int32} (j : Int32) {z : Int32} (ha : a < 4) (hb : b < 4) (hs : sh a = some (la, ln, f)) (hs2 : sh b = some (lb, lm, g)) (hne : lb = la) (h1 : ¬ (0 ≤ i ∧ 0 ≤ z ∧ i ≤ nI ln - z)) : Run mX11_copy 30 0 0 [.ref 0, .int (nI a), .int i, .int (nI b), .int j, .int z] (SK, M, N) (CQ M N (-13) ((n, k, P, pa), kp, tp, sh)) := by
  refine Run.of (by decide) (Nat.le_of_ble_eq_true rfl) ?_
  have hok : OkP n k P := hA.1.1.1
  have hc0 : IsC M 14 n k P := hI.1.1
  have hn6 := hok.1
  have hk6 := hok.2.1
  refine g_iload_n (j := 1) (pc' := 1) dX11_copy_0 rfl rfl ?_
  refine g_iconst (v := 0) (pc' := 2) dX11_copy_1 (by decide) rfl ?_
  refine g_iconst (v := 3) (pc' := 3) dX11_copy_2 (by decide) rfl ?_
  refine g_callS (my := mX11_outside) (st := []) (av := [.int (nI a), .int 0, .int 3]) (mcr := 0) (msr := 0) (mc := 0) (ms := 0) (pc' := 6) dX11_copy_3 kX11_outside wX11_71 rfl (Nat.le_of_ble_eq_true rfl) (by decide) (s_out0 (rng2 (lo := 0) (hi := 3) (Nat.zero_le _) (show a ≤ 3 by omega) (by omega))) rfl ?_
  rintro _ _ ⟨rfl, rfl⟩
  show Go mX11_copy _ _ _ 6 [(0, .ref 0), (1, .int (nI a)), (2, .int i), (3, .int (nI b)), (4, .int j), (5, .int z)] [.int 0] (SK, M, N) _
  refine g_if_ne (tgt := 18) (pc' := 9) dX11_copy_6 (by decide) rfl (fun hc => absurd rfl hc) (fun _ => ?_)
  refine g_iload_n (j := 3) (pc' := 10) dX11_copy_9 rfl rfl ?_
  refine g_iconst (v := 0) (pc' := 11) dX11_copy_10 (by decide) rfl ?_
  refine g_iconst (v := 3) (pc' := 12) dX11_copy_11 (by decide) rfl ?_
  refine g_callS (my := mX11_outside) (st := []) (av := [.int (nI b), .int 0, .int 3]) (mcr := 0) (msr := 0) (mc := 0) (ms := 0) (pc' := 15) dX11_copy_12 kX11_outside wX11_71 rfl (Nat.le_of_ble_eq_true rfl) (by decide) (s_out0 (rng2 (lo := 0) (hi := 3) (Nat.zero_le _) (show b ≤ 3 by omega) (by omega))) rfl ?_
  rintro _ _ ⟨rfl, rfl⟩
  show Go mX11_copy _ _ _ 15 [(0, .ref 0), (1, .int (nI a)), (2, .int i), (3, .int (nI b)), (4, .int j), (5, .int z)] [.int 0] (SK, M, N) _
  refine g_if_eq (tgt := 20) (pc' := 18) dX11_copy_15 (by decide) rfl (fun _ => ?_) (fun hc => absurd rfl hc)
  refine g_aload_n (j := 0) (pc' := 21) dX11_copy_20 rfl rfl ?_
  refine g_getR (pc' := 24) dX11_copy_21 fX11_61 rfl rfl rfl ?_
  refine g_iload_n (j := 1) (pc' := 25) dX11_copy_24 rfl rfl ?_
  refine g_aald (n := a) (pc' := 26) dX11_copy_25 rfl ⟨rfl, rfl, by decide⟩ rfl (shRef (by omega)) rfl ?_
  refine g_astore (L' := [(0, .ref 0), (1, .int (nI a)), (2, .int i), (3, .int (nI b)), (4, .int j), (5, .int z), (6, .ref (181 + 2 * a))]) (pc' := 28) dX11_copy_26 (by decide) rfl rfl ?_
  refine g_aload_n (j := 0) (pc' := 29) dX11_copy_28 rfl rfl ?_
  refine g_getR (pc' := 32) dX11_copy_29 fX11_61 rfl rfl rfl ?_
  refine g_iload_n (j := 3) (pc' := 33) dX11_copy_32 rfl rfl ?_
  refine g_aald (n := b) (pc' := 34) dX11_copy_33 rfl ⟨rfl, rfl, by decide⟩ rfl (shRef (by omega)) rfl ?_
  refine g_astore (L' := [(0, .ref 0), (1, .int (nI a)), (2, .int i), (3, .int (nI b)), (4, .int j), (5, .int z), (6, .ref (181 + 2 * a)), (7, .ref (181 + 2 * b))]) (pc' := 36) dX11_copy_34 (by decide) rfl rfl ?_
  refine g_aload (j := 6) (pc' := 38) dX11_copy_36 rfl rfl ?_
  refine g_getI (pc' := 41) dX11_copy_38 fX11_250 (shAt (i := a) (by omega)).1 rfl rfl ?_
  obtain ⟨g1, g2, g3, g4⟩ : M (181 + 2 * a) 0 = 0 ∧ M (181 + 2 * a) 1 = nI la ∧ M (181 + 2 * a) 2 = nI ln ∧ ∀ j, j < 24 → N (182 + 2 * a) j = f j := by have h9 := hI.2.2.2 a ha; rw [show (((n, k, P, pa), kp, tp, sh) : AS).2.2.2 a = some (la, ln, f) from hs] at h9; exact h9
  obtain ⟨m1, m2, m3, m4⟩ : M (181 + 2 * b) 0 = 0 ∧ M (181 + 2 * b) 1 = nI lb ∧ M (181 + 2 * b) 2 = nI lm ∧ ∀ j, j < 24 → N (182 + 2 * b) j = g j := by have h9 := hI.2.2.2 b hb; rw [show (((n, k, P, pa), kp, tp, sh) : AS).2.2.2 b = some (lb, lm, g) from hs2] at h9; exact h9
  rw [g1]
  refine g_if_ne (tgt := 52) (pc' := 44) dX11_copy_41 (by decide) rfl (fun hc => absurd rfl hc) (fun _ => ?_)
  refine g_aload (j := 7) (pc' := 46) dX11_copy_44 rfl rfl ?_
  refine g_getI (pc' := 49) dX11_copy_46 fX11_250 (shAt (i := b) (by omega)).1 rfl rfl ?_
  rw [m1]
  refine g_if_eq (tgt := 55) (pc' := 52) dX11_copy_49 (by decide) rfl (fun _ => ?_) (fun hc => absurd rfl hc)
  refine g_aload (j := 6) (pc' := 57) dX11_copy_55 rfl rfl ?_
  refine g_getI (pc' := 60) dX11_copy_57 fX11_254 (shAt (i := a) (by omega)).1 rfl rfl ?_
  refine g_top (y := nI la) (g2) ?_
  refine g_aload (j := 7) (pc' := 62) dX11_copy_60 rfl rfl ?_
  refine g_getI (pc' := 65) dX11_copy_62 fX11_254 (shAt (i := b) (by omega)).1 rfl rfl ?_
  refine g_top (y := nI lb) (m2) ?_
  subst hne
  refine g_icmp_eq (tgt := 71) (pc' := 68) dX11_copy_65 (by decide) rfl (fun hc => ?_) (fun hc => (absurd rfl hc))
  refine g_aload (j := 6) (pc' := 73) dX11_copy_71 rfl rfl ?_
  refine g_iload_n (j := 2) (pc' := 74) dX11_copy_73 rfl rfl ?_
  refine g_iload (j := 5) (pc' := 76) dX11_copy_74 rfl rfl ?_
  refine g_callV (my := mX9_has) (k := 181 + 2 * a) (st := []) (av := [.int i, .int z]) (mcr := 0) (msr := 0) (mc := 0) (ms := 0) (pc' := 79) dX11_copy_76 kX9_has wX11_257 (shAt (i := a) (by omega)).1 ⟨rfl, rfl⟩ rfl (Nat.le_of_ble_eq_true rfl) (by decide) (s_has i z (shAt (by omega))) rfl ?_
  rintro _ _ ⟨rfl, rfl⟩
  show Go mX11_copy _ _ _ 79 [(0, .ref 0), (1, .int (nI a)), (2, .int i), (3, .int (nI b)), (4, .int j), (5, .int z), (6, .ref (181 + 2 * a)), (7, .ref (181 + 2 * b))] [.int (if 0 ≤ i ∧ 0 ≤ z ∧ i ≤ M (181 + 2 * a) 2 - z then 1 else 0)] (SK, M, N) _
  refine g_top (y := 0) (if_neg (by rw [g3]; exact h1)) ?_
  refine g_if_eq (tgt := 94) (pc' := 82) dX11_copy_79 (by decide) rfl (fun _ => ?_) (fun hc => absurd rfl hc)
  refine g_bipush (v := (-13)) (pc' := 96) dX11_copy_94 (by decide) rfl ?_
  exact g_iret dX11_copy_96 rfl rfl (CQ.same hI)
set_option maxRecDepth 100000 in
set_option maxHeartbeats 1000000 in
theorem c_copy_i2 {M : Nat → Nat → Int32} {N : Nat → Nat → Int64} {n k : Nat} {P : Nat → Int32} {pa : List (Nat → Int32)} {kp : Option YS} {tp : List Int32} {sh : Nat → Option (Nat × Nat × (Nat → Int64))} (hA : AOk ((n, k, P, pa), kp, tp, sh)) (hI : CI M N ((n, k, P, pa), kp, tp, sh)) {a b la ln lb lm : Nat} {f g : Nat → Int64} {i j z : Int32} (ha : a < 4) (hb : b < 4) (hs : sh a = some (la, ln, f)) (hs2 : sh b = some (lb, lm, g)) (hne : lb = la) (h1 : 0 ≤ i ∧ 0 ≤ z ∧ i ≤ nI ln - z) (h2 : ¬ (0 ≤ j ∧ 0 ≤ z ∧ j ≤ nI lm - z)) : Run mX11_copy 30 0 0 [.ref 0, .int (nI a), .int i, .int (nI b), .int j, .int z] (SK, M, N) (CQ M N (-13) ((n, k, P, pa), kp, tp, sh)) := by
  refine Run.of (by decide) (Nat.le_of_ble_eq_true rfl) ?_
  have hok : OkP n k P := hA.1.1.1
  have hc0 : IsC M 14 n k P := hI.1.1
  have hn6 := hok.1
  have hk6 := hok.2.1
  refine g_iload_n (j := 1) (pc' := 1) dX11_copy_0 rfl rfl ?_
  refine g_iconst (v := 0) (pc' := 2) dX11_copy_1 (by decide) rfl ?_
  refine g_iconst (v := 3) (pc' := 3) dX11_copy_2 (by decide) rfl ?_
  refine g_callS (my := mX11_outside) (st := []) (av := [.int (nI a), .int 0, .int 3]) (mcr := 0) (msr := 0) (mc := 0) (ms := 0) (pc' := 6) dX11_copy_3 kX11_outside wX11_71 rfl (Nat.le_of_ble_eq_true rfl) (by decide) (s_out0 (rng2 (lo := 0) (hi := 3) (Nat.zero_le _) (show a ≤ 3 by omega) (by omega))) rfl ?_
  rintro _ _ ⟨rfl, rfl⟩
  show Go mX11_copy _ _ _ 6 [(0, .ref 0), (1, .int (nI a)), (2, .int i), (3, .int (nI b)), (4, .int j), (5, .int z)] [.int 0] (SK, M, N) _
  refine g_if_ne (tgt := 18) (pc' := 9) dX11_copy_6 (by decide) rfl (fun hc => absurd rfl hc) (fun _ => ?_)
  refine g_iload_n (j := 3) (pc' := 10) dX11_copy_9 rfl rfl ?_
  refine g_iconst (v := 0) (pc' := 11) dX11_copy_10 (by decide) rfl ?_
  refine g_iconst (v := 3) (pc' := 12) dX11_copy_11 (by decide) rfl ?_
  refine g_callS (my := mX11_outside) (st := []) (av := [.int (nI b), .int 0, .int 3]) (mcr := 0) (msr := 0) (mc := 0) (ms := 0) (pc' := 15) dX11_copy_12 kX11_outside wX11_71 rfl (Nat.le_of_ble_eq_true rfl) (by decide) (s_out0 (rng2 (lo := 0) (hi := 3) (Nat.zero_le _) (show b ≤ 3 by omega) (by omega))) rfl ?_
  rintro _ _ ⟨rfl, rfl⟩
  show Go mX11_copy _ _ _ 15 [(0, .ref 0), (1, .int (nI a)), (2, .int i), (3, .int (nI b)), (4, .int j), (5, .int z)] [.int 0] (SK, M, N) _
  refine g_if_eq (tgt := 20) (pc' := 18) dX11_copy_15 (by decide) rfl (fun _ => ?_) (fun hc => absurd rfl hc)
  refine g_aload_n (j := 0) (pc' := 21) dX11_copy_20 rfl rfl ?_
  refine g_getR (pc' := 24) dX11_copy_21 fX11_61 rfl rfl rfl ?_
  refine g_iload_n (j := 1) (pc' := 25) dX11_copy_24 rfl rfl ?_
  refine g_aald (n := a) (pc' := 26) dX11_copy_25 rfl ⟨rfl, rfl, by decide⟩ rfl (shRef (by omega)) rfl ?_
  refine g_astore (L' := [(0, .ref 0), (1, .int (nI a)), (2, .int i), (3, .int (nI b)), (4, .int j), (5, .int z), (6, .ref (181 + 2 * a))]) (pc' := 28) dX11_copy_26 (by decide) rfl rfl ?_
  refine g_aload_n (j := 0) (pc' := 29) dX11_copy_28 rfl rfl ?_
  refine g_getR (pc' := 32) dX11_copy_29 fX11_61 rfl rfl rfl ?_
  refine g_iload_n (j := 3) (pc' := 33) dX11_copy_32 rfl rfl ?_
  refine g_aald (n := b) (pc' := 34) dX11_copy_33 rfl ⟨rfl, rfl, by decide⟩ rfl (shRef (by omega)) rfl ?_
  refine g_astore (L' := [(0, .ref 0), (1, .int (nI a)), (2, .int i), (3, .int (nI b)), (4, .int j), (5, .int z), (6, .ref (181 + 2 * a)), (7, .ref (181 + 2 * b))]) (pc' := 36) dX11_copy_34 (by decide) rfl rfl ?_
  refine g_aload (j := 6) (pc' := 38) dX11_copy_36 rfl rfl ?_
  refine g_getI (pc' := 41) dX11_copy_38 fX11_250 (shAt (i := a) (by omega)).1 rfl rfl ?_
  obtain ⟨g1, g2, g3, g4⟩ : M (181 + 2 * a) 0 = 0 ∧ M (181 + 2 * a) 1 = nI la ∧ M (181 + 2 * a) 2 = nI ln ∧ ∀ j, j < 24 → N (182 + 2 * a) j = f j := by have h9 := hI.2.2.2 a ha; rw [show (((n, k, P, pa), kp, tp, sh) : AS).2.2.2 a = some (la, ln, f) from hs] at h9; exact h9
  obtain ⟨m1, m2, m3, m4⟩ : M (181 + 2 * b) 0 = 0 ∧ M (181 + 2 * b) 1 = nI lb ∧ M (181 + 2 * b) 2 = nI lm ∧ ∀ j, j < 24 → N (182 + 2 * b) j = g j := by have h9 := hI.2.2.2 b hb; rw [show (((n, k, P, pa), kp, tp, sh) : AS).2.2.2 b = some (lb, lm, g) from hs2] at h9; exact h9
  rw [g1]
  refine g_if_ne (tgt := 52) (pc' := 44) dX11_copy_41 (by decide) rfl (fun hc => absurd rfl hc) (fun _ => ?_)
  refine g_aload (j := 7) (pc' := 46) dX11_copy_44 rfl rfl ?_
  refine g_getI (pc' := 49) dX11_copy_46 fX11_250 (shAt (i := b) (by omega)).1 rfl rfl ?_
  rw [m1]
  refine g_if_eq (tgt := 55) (pc' := 52) dX11_copy_49 (by decide) rfl (fun _ => ?_) (fun hc => absurd rfl hc)
  refine g_aload (j := 6) (pc' := 57) dX11_copy_55 rfl rfl ?_
  refine g_getI (pc' := 60) dX11_copy_57 fX11_254 (shAt (i := a) (by omega)).1 rfl rfl ?_
  refine g_top (y := nI la) (g2) ?_
  refine g_aload (j := 7) (pc' := 62) dX11_copy_60 rfl rfl ?_
  refine g_getI (pc' := 65) dX11_copy_62 fX11_254 (shAt (i := b) (by omega)).1 rfl rfl ?_
  refine g_top (y := nI lb) (m2) ?_
  subst hne
  refine g_icmp_eq (tgt := 71) (pc' := 68) dX11_copy_65 (by decide) rfl (fun hc => ?_) (fun hc => (absurd rfl hc))
  refine g_aload (j := 6) (pc' := 73) dX11_copy_71 rfl rfl ?_
  refine g_iload_n (j := 2) (pc' := 74) dX11_copy_73 rfl rfl ?_
  refine g_iload (j := 5) (pc' := 76) dX11_copy_74 rfl rfl ?_
  refine g_callV (my := mX9_has) (k := 181 + 2 * a) (st := []) (av := [.int i, .int z]) (mcr := 0) (msr := 0) (mc := 0) (ms := 0) (pc' := 79) dX11_copy_76 kX9_has wX11_257 (shAt (i := a) (by omega)).1 ⟨rfl, rfl⟩ rfl (Nat.le_of_ble_eq_true rfl) (by decide) (s_has i z (shAt (by omega))) rfl ?_
  rintro _ _ ⟨rfl, rfl⟩
  show Go mX11_copy _ _ _ 79 [(0, .ref 0), (1, .int (nI a)), (2, .int i), (3, .int (nI b)), (4, .int j), (5, .int z), (6, .ref (181 + 2 * a)), (7, .ref (181 + 2 * b))] [.int (if 0 ≤ i ∧ 0 ≤ z ∧ i ≤ M (181 + 2 * a) 2 - z then 1 else 0)] (SK, M, N) _
  refine g_top (y := 1) (if_pos (by rw [g3]; exact h1)) ?_
  refine g_if_eq (tgt := 94) (pc' := 82) dX11_copy_79 (by decide) rfl (fun hc => absurd hc (by decide)) (fun _ => ?_)
  refine g_aload (j := 7) (pc' := 84) dX11_copy_82 rfl rfl ?_
  refine g_iload (j := 4) (pc' := 86) dX11_copy_84 rfl rfl ?_
  refine g_iload (j := 5) (pc' := 88) dX11_copy_86 rfl rfl ?_
  refine g_callV (my := mX9_has) (k := 181 + 2 * b) (st := []) (av := [.int j, .int z]) (mcr := 0) (msr := 0) (mc := 0) (ms := 0) (pc' := 91) dX11_copy_88 kX9_has wX11_257 (shAt (i := b) (by omega)).1 ⟨rfl, rfl⟩ rfl (Nat.le_of_ble_eq_true rfl) (by decide) (s_has j z (shAt (by omega))) rfl ?_
  rintro _ _ ⟨rfl, rfl⟩
  show Go mX11_copy _ _ _ 91 [(0, .ref 0), (1, .int (nI a)), (2, .int i), (3, .int (nI b)), (4, .int j), (5, .int z), (6, .ref (181 + 2 * a)), (7, .ref (181 + 2 * b))] [.int (if 0 ≤ j ∧ 0 ≤ z ∧ j ≤ M (181 + 2 * b) 2 - z then 1 else 0)] (SK, M, N) _
  refine g_top (y := 0) (if_neg (by rw [m3]; exact h2)) ?_
  refine g_if_ne (tgt := 97) (pc' := 94) dX11_copy_91 (by decide) rfl (fun hc => absurd rfl hc) (fun _ => ?_)
  refine g_bipush (v := (-13)) (pc' := 96) dX11_copy_94 (by decide) rfl ?_
  exact g_iret dX11_copy_96 rfl rfl (CQ.same hI)
theorem has_of {q c ln : Nat} (h : q + c ≤ ln) (hl : ln ≤ 24) : 0 ≤ nI q ∧ 0 ≤ nI c ∧ nI q ≤ nI ln - nI c := by
  refine ⟨nI_pos' (by omega), nI_pos' (by omega), ?_⟩
  rw [pk_sub (by omega)]
  exact nI_le (by omega) (by omega)
set_option maxRecDepth 100000 in
set_option maxHeartbeats 1000000 in
theorem c_copy {M : Nat → Nat → Int32} {N : Nat → Nat → Int64} {n k : Nat} {P : Nat → Int32} {pa : List (Nat → Int32)} {kp : Option YS} {tp : List Int32} {sh : Nat → Option (Nat × Nat × (Nat → Int64))} (hA : AOk ((n, k, P, pa), kp, tp, sh)) (hI : CI M N ((n, k, P, pa), kp, tp, sh)) {a b la ln lb lm : Nat} {f g : Nat → Int64} {q t c : Nat} (ha : a < 4) (hb : b < 4) (hs : sh a = some (la, ln, f)) (hs2 : sh b = some (lb, lm, g)) (hne : lb = la) (h1 : q + c ≤ ln) (hl1 : ln ≤ 24) (h2 : t + c ≤ lm) (hl2 : lm ≤ 24) : Run mX11_copy 30 0 0 [.ref 0, .int (nI a), .int (nI q), .int (nI b), .int (nI t), .int (nI c)] (SK, M, N) (CQ M N (nI c) ((n, k, P, pa), kp, tp, upS sh b (some (lb, lm, fun j => if t ≤ j ∧ j < t + c then f (q + (j - t)) else g j)))) := by
  refine Run.of (by decide) (Nat.le_of_ble_eq_true rfl) ?_
  have hok : OkP n k P := hA.1.1.1
  have hc0 : IsC M 14 n k P := hI.1.1
  have hn6 := hok.1
  have hk6 := hok.2.1
  refine g_iload_n (j := 1) (pc' := 1) dX11_copy_0 rfl rfl ?_
  refine g_iconst (v := 0) (pc' := 2) dX11_copy_1 (by decide) rfl ?_
  refine g_iconst (v := 3) (pc' := 3) dX11_copy_2 (by decide) rfl ?_
  refine g_callS (my := mX11_outside) (st := []) (av := [.int (nI a), .int 0, .int 3]) (mcr := 0) (msr := 0) (mc := 0) (ms := 0) (pc' := 6) dX11_copy_3 kX11_outside wX11_71 rfl (Nat.le_of_ble_eq_true rfl) (by decide) (s_out0 (rng2 (lo := 0) (hi := 3) (Nat.zero_le _) (show a ≤ 3 by omega) (by omega))) rfl ?_
  rintro _ _ ⟨rfl, rfl⟩
  show Go mX11_copy _ _ _ 6 [(0, .ref 0), (1, .int (nI a)), (2, .int (nI q)), (3, .int (nI b)), (4, .int (nI t)), (5, .int (nI c))] [.int 0] (SK, M, N) _
  refine g_if_ne (tgt := 18) (pc' := 9) dX11_copy_6 (by decide) rfl (fun hc => absurd rfl hc) (fun _ => ?_)
  refine g_iload_n (j := 3) (pc' := 10) dX11_copy_9 rfl rfl ?_
  refine g_iconst (v := 0) (pc' := 11) dX11_copy_10 (by decide) rfl ?_
  refine g_iconst (v := 3) (pc' := 12) dX11_copy_11 (by decide) rfl ?_
  refine g_callS (my := mX11_outside) (st := []) (av := [.int (nI b), .int 0, .int 3]) (mcr := 0) (msr := 0) (mc := 0) (ms := 0) (pc' := 15) dX11_copy_12 kX11_outside wX11_71 rfl (Nat.le_of_ble_eq_true rfl) (by decide) (s_out0 (rng2 (lo := 0) (hi := 3) (Nat.zero_le _) (show b ≤ 3 by omega) (by omega))) rfl ?_
  rintro _ _ ⟨rfl, rfl⟩
  show Go mX11_copy _ _ _ 15 [(0, .ref 0), (1, .int (nI a)), (2, .int (nI q)), (3, .int (nI b)), (4, .int (nI t)), (5, .int (nI c))] [.int 0] (SK, M, N) _
  refine g_if_eq (tgt := 20) (pc' := 18) dX11_copy_15 (by decide) rfl (fun _ => ?_) (fun hc => absurd rfl hc)
  refine g_aload_n (j := 0) (pc' := 21) dX11_copy_20 rfl rfl ?_
  refine g_getR (pc' := 24) dX11_copy_21 fX11_61 rfl rfl rfl ?_
  refine g_iload_n (j := 1) (pc' := 25) dX11_copy_24 rfl rfl ?_
  refine g_aald (n := a) (pc' := 26) dX11_copy_25 rfl ⟨rfl, rfl, by decide⟩ rfl (shRef (by omega)) rfl ?_
  refine g_astore (L' := [(0, .ref 0), (1, .int (nI a)), (2, .int (nI q)), (3, .int (nI b)), (4, .int (nI t)), (5, .int (nI c)), (6, .ref (181 + 2 * a))]) (pc' := 28) dX11_copy_26 (by decide) rfl rfl ?_
  refine g_aload_n (j := 0) (pc' := 29) dX11_copy_28 rfl rfl ?_
  refine g_getR (pc' := 32) dX11_copy_29 fX11_61 rfl rfl rfl ?_
  refine g_iload_n (j := 3) (pc' := 33) dX11_copy_32 rfl rfl ?_
  refine g_aald (n := b) (pc' := 34) dX11_copy_33 rfl ⟨rfl, rfl, by decide⟩ rfl (shRef (by omega)) rfl ?_
  refine g_astore (L' := [(0, .ref 0), (1, .int (nI a)), (2, .int (nI q)), (3, .int (nI b)), (4, .int (nI t)), (5, .int (nI c)), (6, .ref (181 + 2 * a)), (7, .ref (181 + 2 * b))]) (pc' := 36) dX11_copy_34 (by decide) rfl rfl ?_
  refine g_aload (j := 6) (pc' := 38) dX11_copy_36 rfl rfl ?_
  refine g_getI (pc' := 41) dX11_copy_38 fX11_250 (shAt (i := a) (by omega)).1 rfl rfl ?_
  obtain ⟨g1, g2, g3, g4⟩ : M (181 + 2 * a) 0 = 0 ∧ M (181 + 2 * a) 1 = nI la ∧ M (181 + 2 * a) 2 = nI ln ∧ ∀ j, j < 24 → N (182 + 2 * a) j = f j := by have h9 := hI.2.2.2 a ha; rw [show (((n, k, P, pa), kp, tp, sh) : AS).2.2.2 a = some (la, ln, f) from hs] at h9; exact h9
  obtain ⟨m1, m2, m3, m4⟩ : M (181 + 2 * b) 0 = 0 ∧ M (181 + 2 * b) 1 = nI lb ∧ M (181 + 2 * b) 2 = nI lm ∧ ∀ j, j < 24 → N (182 + 2 * b) j = g j := by have h9 := hI.2.2.2 b hb; rw [show (((n, k, P, pa), kp, tp, sh) : AS).2.2.2 b = some (lb, lm, g) from hs2] at h9; exact h9
  rw [g1]
  refine g_if_ne (tgt := 52) (pc' := 44) dX11_copy_41 (by decide) rfl (fun hc => absurd rfl hc) (fun _ => ?_)
  refine g_aload (j := 7) (pc' := 46) dX11_copy_44 rfl rfl ?_
  refine g_getI (pc' := 49) dX11_copy_46 fX11_250 (shAt (i := b) (by omega)).1 rfl rfl ?_
  rw [m1]
  refine g_if_eq (tgt := 55) (pc' := 52) dX11_copy_49 (by decide) rfl (fun _ => ?_) (fun hc => absurd rfl hc)
  refine g_aload (j := 6) (pc' := 57) dX11_copy_55 rfl rfl ?_
  refine g_getI (pc' := 60) dX11_copy_57 fX11_254 (shAt (i := a) (by omega)).1 rfl rfl ?_
  refine g_top (y := nI la) (g2) ?_
  refine g_aload (j := 7) (pc' := 62) dX11_copy_60 rfl rfl ?_
  refine g_getI (pc' := 65) dX11_copy_62 fX11_254 (shAt (i := b) (by omega)).1 rfl rfl ?_
  refine g_top (y := nI lb) (m2) ?_
  subst hne
  refine g_icmp_eq (tgt := 71) (pc' := 68) dX11_copy_65 (by decide) rfl (fun hc => ?_) (fun hc => (absurd rfl hc))
  refine g_aload (j := 6) (pc' := 73) dX11_copy_71 rfl rfl ?_
  refine g_iload_n (j := 2) (pc' := 74) dX11_copy_73 rfl rfl ?_
  refine g_iload (j := 5) (pc' := 76) dX11_copy_74 rfl rfl ?_
  refine g_callV (my := mX9_has) (k := 181 + 2 * a) (st := []) (av := [.int (nI q), .int (nI c)]) (mcr := 0) (msr := 0) (mc := 0) (ms := 0) (pc' := 79) dX11_copy_76 kX9_has wX11_257 (shAt (i := a) (by omega)).1 ⟨rfl, rfl⟩ rfl (Nat.le_of_ble_eq_true rfl) (by decide) (s_has (nI q) (nI c) (shAt (by omega))) rfl ?_
  rintro _ _ ⟨rfl, rfl⟩
  show Go mX11_copy _ _ _ 79 [(0, .ref 0), (1, .int (nI a)), (2, .int (nI q)), (3, .int (nI b)), (4, .int (nI t)), (5, .int (nI c)), (6, .ref (181 + 2 * a)), (7, .ref (181 + 2 * b))] [.int (if 0 ≤ nI q ∧ 0 ≤ nI c ∧ nI q ≤ M (181 + 2 * a) 2 - nI c then 1 else 0)] (SK, M, N) _
  refine g_top (y := 1) (if_pos (by rw [g3]; exact has_of h1 hl1)) ?_
  refine g_if_eq (tgt := 94) (pc' := 82) dX11_copy_79 (by decide) rfl (fun hc => absurd hc (by decide)) (fun _ => ?_)
  refine g_aload (j := 7) (pc' := 84) dX11_copy_82 rfl rfl ?_
  refine g_iload (j := 4) (pc' := 86) dX11_copy_84 rfl rfl ?_
  refine g_iload (j := 5) (pc' := 88) dX11_copy_86 rfl rfl ?_
  refine g_callV (my := mX9_has) (k := 181 + 2 * b) (st := []) (av := [.int (nI t), .int (nI c)]) (mcr := 0) (msr := 0) (mc := 0) (ms := 0) (pc' := 91) dX11_copy_88 kX9_has wX11_257 (shAt (i := b) (by omega)).1 ⟨rfl, rfl⟩ rfl (Nat.le_of_ble_eq_true rfl) (by decide) (s_has (nI t) (nI c) (shAt (by omega))) rfl ?_
  rintro _ _ ⟨rfl, rfl⟩
  show Go mX11_copy _ _ _ 91 [(0, .ref 0), (1, .int (nI a)), (2, .int (nI q)), (3, .int (nI b)), (4, .int (nI t)), (5, .int (nI c)), (6, .ref (181 + 2 * a)), (7, .ref (181 + 2 * b))] [.int (if 0 ≤ nI t ∧ 0 ≤ nI c ∧ nI t ≤ M (181 + 2 * b) 2 - nI c then 1 else 0)] (SK, M, N) _
  refine g_top (y := 1) (if_pos (by rw [m3]; exact has_of h2 hl2)) ?_
  refine g_if_ne (tgt := 97) (pc' := 94) dX11_copy_91 (by decide) rfl (fun _ => ?_) (fun hc => absurd hc (by decide))
  refine g_aload (j := 6) (pc' := 99) dX11_copy_97 rfl rfl ?_
  refine g_getR (pc' := 102) dX11_copy_99 fX11_235 (shAt (i := a) (by omega)).1 rfl rfl ?_
  refine g_iload_n (j := 2) (pc' := 103) dX11_copy_102 rfl rfl ?_
  refine g_aload (j := 7) (pc' := 105) dX11_copy_103 rfl rfl ?_
  refine g_getR (pc' := 108) dX11_copy_105 fX11_235 (shAt (i := b) (by omega)).1 rfl rfl ?_
  refine g_iload (j := 4) (pc' := 110) dX11_copy_108 rfl rfl ?_
  refine g_iload (j := 5) (pc' := 112) dX11_copy_110 rfl rfl ?_
  refine g_acopyL (sp := q) (dp := t) (n := c) (st := []) (pc' := 115) dX11_copy_112 wX11_260 (shAt (i := a) (by omega)).2 (shAt (i := b) (by omega)).2 rfl rfl rfl (by omega) (by omega) (Nat.le_of_ble_eq_true rfl) (by decide) rfl ?_
  refine g_iload (j := 5) (pc' := 117) dX11_copy_115 rfl rfl ?_
  refine g_iret dX11_copy_117 rfl rfl (CQ.sheet hI hb ⟨m1, m2, m3, fun j hj => ?_⟩ (fun c hc _ => rfl) (fun c hc => cpy2_ne (by omega)))
  show _ = if t ≤ j ∧ j < t + c then f (q + (j - t)) else g j
  rw [show 182 + 2 * b = 181 + 2 * b + 1 by omega]
  by_cases e : t ≤ j ∧ j < t + c
  · rw [cpy2_in e.1 e.2, if_pos e, show 181 + 2 * a + 1 = 182 + 2 * a by omega]; exact g4 _ (by omega)
  · rw [cpy2_out (by omega), if_neg e, show 181 + 2 * b + 1 = 182 + 2 * b by omega]; exact m4 j hj
/-- of kind q, would man m be called so in the next nn Marches? -/
def ldB (P : Nat → Int32) (n k m : Nat) (f : Nat → Int64) (i nn q : Nat) : Bool := decide (∀ t, t < nn → (unN (foreP n k (upP P (4 + m) (nI q)) (t + 1) (28 + m))).toInt64 = f (i + t))
set_option maxRecDepth 100000 in
set_option maxHeartbeats 1000000 in
theorem c_ledger_b1 {M : Nat → Nat → Int32} {N : Nat → Nat → Int64} {n k : Nat} {P : Nat → Int32} {pa : List (Nat → Int32)} {kp : Option YS} {tp : List Int32} {sh : Nat → Option (Nat × Nat × (Nat → Int64))} (hA : AOk ((n, k, P, pa), kp, tp, sh)) (hI : CI M N ((n, k, P, pa), kp, tp, sh)) {v : Int32} (u z i x : Int32) (h1 : ∀ m, m < n → v ≠ nI m) : Run mX11_ledger 30 0 0 [.ref 0, .int v, .int u, .int z, .int i, .int x] (SK, M, N) (CQ M N (-1) ((n, k, P, pa), kp, tp, sh)) := by
  refine Run.of (by decide) (Nat.le_of_ble_eq_true rfl) ?_
  have hok : OkP n k P := hA.1.1.1
  have hc0 : IsC M 14 n k P := hI.1.1
  have hn6 := hok.1
  have hk6 := hok.2.1
  refine g_aload_n (j := 0) (pc' := 1) dX11_ledger_0 rfl rfl ?_
  refine g_iload_n (j := 1) (pc' := 2) dX11_ledger_1 rfl rfl ?_
  refine g_callV (my := mX11_noMan) (k := 0) (st := []) (av := [.int v]) (mcr := 0) (msr := 0) (mc := 0) (ms := 0) (pc' := 5) dX11_ledger_2 kX11_noMan wX11_93 rfl ⟨rfl, rfl⟩ rfl (Nat.le_of_ble_eq_true rfl) (by decide) (s_noMan1 hc0.1 hn6 (h1)) rfl ?_
  rintro _ _ ⟨rfl, rfl⟩
  show Go mX11_ledger _ _ _ 5 [(0, .ref 0), (1, .int v), (2, .int u), (3, .int z), (4, .int i), (5, .int x)] [.int 1] (SK, M, N) _
  refine g_if_ne (tgt := 19) (pc' := 8) dX11_ledger_5 (by decide) rfl (fun _ => ?_) (fun hc => absurd hc (by decide))
  refine g_iconst (v := (-1)) (pc' := 20) dX11_ledger_19 (by decide) rfl ?_
  exact g_iret dX11_ledger_20 rfl rfl (CQ.same hI)
set_option maxRecDepth 100000 in
set_option maxHeartbeats 1000000 in
theorem c_ledger_b2 {M : Nat → Nat → Int32} {N : Nat → Nat → Int64} {n k : Nat} {P : Nat → Int32} {pa : List (Nat → Int32)} {kp : Option YS} {tp : List Int32} {sh : Nat → Option (Nat × Nat × (Nat → Int64))} (hA : AOk ((n, k, P, pa), kp, tp, sh)) (hI : CI M N ((n, k, P, pa), kp, tp, sh)) {m : Nat} (u z i : Int32) {x : Int32} (hm : m < n) (h1 : x < 1 ∨ 8 < x) : Run mX11_ledger 30 0 0 [.ref 0, .int (nI m), .int u, .int z, .int i, .int x] (SK, M, N) (CQ M N (-1) ((n, k, P, pa), kp, tp, sh)) := by
  refine Run.of (by decide) (Nat.le_of_ble_eq_true rfl) ?_
  have hok : OkP n k P := hA.1.1.1
  have hc0 : IsC M 14 n k P := hI.1.1
  have hn6 := hok.1
  have hk6 := hok.2.1
  refine g_aload_n (j := 0) (pc' := 1) dX11_ledger_0 rfl rfl ?_
  refine g_iload_n (j := 1) (pc' := 2) dX11_ledger_1 rfl rfl ?_
  refine g_callV (my := mX11_noMan) (k := 0) (st := []) (av := [.int (nI m)]) (mcr := 0) (msr := 0) (mc := 0) (ms := 0) (pc' := 5) dX11_ledger_2 kX11_noMan wX11_93 rfl ⟨rfl, rfl⟩ rfl (Nat.le_of_ble_eq_true rfl) (by decide) (s_noMan0 hc0.1 hn6 (hm)) rfl ?_
  rintro _ _ ⟨rfl, rfl⟩
  show Go mX11_ledger _ _ _ 5 [(0, .ref 0), (1, .int (nI m)), (2, .int u), (3, .int z), (4, .int i), (5, .int x)] [.int 0] (SK, M, N) _
  refine g_if_ne (tgt := 19) (pc' := 8) dX11_ledger_5 (by decide) rfl (fun hc => absurd rfl hc) (fun _ => ?_)
  refine g_iload (j := 5) (pc' := 10) dX11_ledger_8 rfl rfl ?_
  refine g_iconst (v := 1) (pc' := 11) dX11_ledger_10 (by decide) rfl ?_
  refine g_bipush (v := 8) (pc' := 13) dX11_ledger_11 (by decide) rfl ?_
  refine g_callS (my := mX11_outside) (st := []) (av := [.int x, .int 1, .int 8]) (mcr := 0) (msr := 0) (mc := 0) (ms := 0) (pc' := 16) dX11_ledger_13 kX11_outside wX11_71 rfl (Nat.le_of_ble_eq_true rfl) (by decide) (s_out1 (h1)) rfl ?_
  rintro _ _ ⟨rfl, rfl⟩
  show Go mX11_ledger _ _ _ 16 [(0, .ref 0), (1, .int (nI m)), (2, .int u), (3, .int z), (4, .int i), (5, .int x)] [.int 1] (SK, M, N) _
  refine g_if_eq (tgt := 21) (pc' := 19) dX11_ledger_16 (by decide) rfl (fun hc => absurd hc (by decide)) (fun _ => ?_)
  refine g_iconst (v := (-1)) (pc' := 20) dX11_ledger_19 (by decide) rfl ?_
  exact g_iret dX11_ledger_20 rfl rfl (CQ.same hI)
set_option maxRecDepth 100000 in
set_option maxHeartbeats 1000000 in
theorem c_ledger_b3 {M : Nat → Nat → Int32} {N : Nat → Nat → Int64} {n k : Nat} {P : Nat → Int32} {pa : List (Nat → Int32)} {kp : Option YS} {tp : List Int32} {sh : Nat → Option (Nat × Nat × (Nat → Int64))} (hA : AOk ((n, k, P, pa), kp, tp, sh)) (hI : CI M N ((n, k, P, pa), kp, tp, sh)) {m : Nat} {u z : Int32} (i : Int32) {x : Int32} (hm : m < n) (h1 : ¬ (x < 1 ∨ 8 < x)) (h2 : (∀ a, a < 4 → u ≠ nI a) ∨ ∀ b, b < 4 → z ≠ nI b) : Run mX11_ledger 30 0 0 [.ref 0, .int (nI m), .int u, .int z, .int i, .int x] (SK, M, N) (CQ M N (-1) ((n, k, P, pa), kp, tp, sh)) := by
  refine Run.of (by decide) (Nat.le_of_ble_eq_true rfl) ?_
  have hok : OkP n k P := hA.1.1.1
  have hc0 : IsC M 14 n k P := hI.1.1
  have hn6 := hok.1
  have hk6 := hok.2.1
  refine g_aload_n (j := 0) (pc' := 1) dX11_ledger_0 rfl rfl ?_
  refine g_iload_n (j := 1) (pc' := 2) dX11_ledger_1 rfl rfl ?_
  refine g_callV (my := mX11_noMan) (k := 0) (st := []) (av := [.int (nI m)]) (mcr := 0) (msr := 0) (mc := 0) (ms := 0) (pc' := 5) dX11_ledger_2 kX11_noMan wX11_93 rfl ⟨rfl, rfl⟩ rfl (Nat.le_of_ble_eq_true rfl) (by decide) (s_noMan0 hc0.1 hn6 (hm)) rfl ?_
  rintro _ _ ⟨rfl, rfl⟩
  show Go mX11_ledger _ _ _ 5 [(0, .ref 0), (1, .int (nI m)), (2, .int u), (3, .int z), (4, .int i), (5, .int x)] [.int 0] (SK, M, N) _
  refine g_if_ne (tgt := 19) (pc' := 8) dX11_ledger_5 (by decide) rfl (fun hc => absurd rfl hc) (fun _ => ?_)
  refine g_iload (j := 5) (pc' := 10) dX11_ledger_8 rfl rfl ?_
  refine g_iconst (v := 1) (pc' := 11) dX11_ledger_10 (by decide) rfl ?_
  refine g_bipush (v := 8) (pc' := 13) dX11_ledger_11 (by decide) rfl ?_
  refine g_callS (my := mX11_outside) (st := []) (av := [.int x, .int 1, .int 8]) (mcr := 0) (msr := 0) (mc := 0) (ms := 0) (pc' := 16) dX11_ledger_13 kX11_outside wX11_71 rfl (Nat.le_of_ble_eq_true rfl) (by decide) (s_out0 (h1)) rfl ?_
  rintro _ _ ⟨rfl, rfl⟩
  show Go mX11_ledger _ _ _ 16 [(0, .ref 0), (1, .int (nI m)), (2, .int u), (3, .int z), (4, .int i), (5, .int x)] [.int 0] (SK, M, N) _
  refine g_if_eq (tgt := 21) (pc' := 19) dX11_ledger_16 (by decide) rfl (fun _ => ?_) (fun hc => absurd rfl hc)
  refine g_aload_n (j := 0) (pc' := 22) dX11_ledger_21 rfl rfl ?_
  refine g_iload_n (j := 2) (pc' := 23) dX11_ledger_22 rfl rfl ?_
  refine g_iload_n (j := 3) (pc' := 24) dX11_ledger_23 rfl rfl ?_
  refine g_iload (j := 4) (pc' := 26) dX11_ledger_24 rfl rfl ?_
  refine g_iload (j := 5) (pc' := 28) dX11_ledger_26 rfl rfl ?_
  refine g_callV (my := mX11_wrongWith) (k := 0) (st := []) (av := [.int u, .int z, .int i, .int x]) (mcr := 0) (msr := 0) (mc := 0) (ms := 0) (pc' := 31) dX11_ledger_28 kX11_wrongWith wX11_231 rfl ⟨rfl, rfl⟩ rfl (Nat.le_of_ble_eq_true rfl) (by decide) (s_wr1 i x h2) rfl ?_
  rintro _ _ ⟨rfl, rfl⟩
  show Go mX11_ledger _ _ _ 31 [(0, .ref 0), (1, .int (nI m)), (2, .int u), (3, .int z), (4, .int i), (5, .int x)] [.int (-1)] (SK, M, N) _
  refine g_istore (L' := [(0, .ref 0), (1, .int (nI m)), (2, .int u), (3, .int z), (4, .int i), (5, .int x), (6, .int (-1))]) (pc' := 33) dX11_ledger_31 (by decide) rfl rfl ?_
  refine g_iload (j := 6) (pc' := 35) dX11_ledger_33 rfl rfl ?_
  refine g_if_eq (tgt := 41) (pc' := 38) dX11_ledger_35 (by decide) rfl (fun hc => (absurd hc (by decide))) (fun hc => ?_)
  refine g_iload (j := 6) (pc' := 40) dX11_ledger_38 rfl rfl ?_
  exact g_iret dX11_ledger_40 rfl rfl (CQ.same hI)
set_option maxRecDepth 100000 in
set_option maxHeartbeats 1000000 in
theorem c_ledger_w {M : Nat → Nat → Int32} {N : Nat → Nat → Int64} {n k : Nat} {P : Nat → Int32} {pa : List (Nat → Int32)} {kp : Option YS} {tp : List Int32} {sh : Nat → Option (Nat × Nat × (Nat → Int64))} (hA : AOk ((n, k, P, pa), kp, tp, sh)) (hI : CI M N ((n, k, P, pa), kp, tp, sh)) {m a b : Nat} {i x : Int32} (hm : m < n) (h1 : ¬ (x < 1 ∨ 8 < x)) (ha : a < 4) (hb : b < 4) (h2 : ¬ wrS (sh a) b i x = 0) : Run mX11_ledger 30 0 0 [.ref 0, .int (nI m), .int (nI a), .int (nI b), .int i, .int x] (SK, M, N) (CQ M N (wrS (sh a) b i x) ((n, k, P, pa), kp, tp, sh)) := by
  refine Run.of (by decide) (Nat.le_of_ble_eq_true rfl) ?_
  have hok : OkP n k P := hA.1.1.1
  have hc0 : IsC M 14 n k P := hI.1.1
  have hn6 := hok.1
  have hk6 := hok.2.1
  refine g_aload_n (j := 0) (pc' := 1) dX11_ledger_0 rfl rfl ?_
  refine g_iload_n (j := 1) (pc' := 2) dX11_ledger_1 rfl rfl ?_
  refine g_callV (my := mX11_noMan) (k := 0) (st := []) (av := [.int (nI m)]) (mcr := 0) (msr := 0) (mc := 0) (ms := 0) (pc' := 5) dX11_ledger_2 kX11_noMan wX11_93 rfl ⟨rfl, rfl⟩ rfl (Nat.le_of_ble_eq_true rfl) (by decide) (s_noMan0 hc0.1 hn6 (hm)) rfl ?_
  rintro _ _ ⟨rfl, rfl⟩
  show Go mX11_ledger _ _ _ 5 [(0, .ref 0), (1, .int (nI m)), (2, .int (nI a)), (3, .int (nI b)), (4, .int i), (5, .int x)] [.int 0] (SK, M, N) _
  refine g_if_ne (tgt := 19) (pc' := 8) dX11_ledger_5 (by decide) rfl (fun hc => absurd rfl hc) (fun _ => ?_)
  refine g_iload (j := 5) (pc' := 10) dX11_ledger_8 rfl rfl ?_
  refine g_iconst (v := 1) (pc' := 11) dX11_ledger_10 (by decide) rfl ?_
  refine g_bipush (v := 8) (pc' := 13) dX11_ledger_11 (by decide) rfl ?_
  refine g_callS (my := mX11_outside) (st := []) (av := [.int x, .int 1, .int 8]) (mcr := 0) (msr := 0) (mc := 0) (ms := 0) (pc' := 16) dX11_ledger_13 kX11_outside wX11_71 rfl (Nat.le_of_ble_eq_true rfl) (by decide) (s_out0 (h1)) rfl ?_
  rintro _ _ ⟨rfl, rfl⟩
  show Go mX11_ledger _ _ _ 16 [(0, .ref 0), (1, .int (nI m)), (2, .int (nI a)), (3, .int (nI b)), (4, .int i), (5, .int x)] [.int 0] (SK, M, N) _
  refine g_if_eq (tgt := 21) (pc' := 19) dX11_ledger_16 (by decide) rfl (fun _ => ?_) (fun hc => absurd rfl hc)
  refine g_aload_n (j := 0) (pc' := 22) dX11_ledger_21 rfl rfl ?_
  refine g_iload_n (j := 2) (pc' := 23) dX11_ledger_22 rfl rfl ?_
  refine g_iload_n (j := 3) (pc' := 24) dX11_ledger_23 rfl rfl ?_
  refine g_iload (j := 4) (pc' := 26) dX11_ledger_24 rfl rfl ?_
  refine g_iload (j := 5) (pc' := 28) dX11_ledger_26 rfl rfl ?_
  refine g_callV (my := mX11_wrongWith) (k := 0) (st := []) (av := [.int (nI a), .int (nI b), .int i, .int x]) (mcr := 0) (msr := 0) (mc := 0) (ms := 0) (pc' := 31) dX11_ledger_28 kX11_wrongWith wX11_231 rfl ⟨rfl, rfl⟩ rfl (Nat.le_of_ble_eq_true rfl) (by decide) (s_wrS hA hI ha hb i x) rfl ?_
  rintro _ _ ⟨rfl, rfl⟩
  show Go mX11_ledger _ _ _ 31 [(0, .ref 0), (1, .int (nI m)), (2, .int (nI a)), (3, .int (nI b)), (4, .int i), (5, .int x)] [.int (wrS (sh a) b i x)] (SK, M, N) _
  refine g_istore (L' := [(0, .ref 0), (1, .int (nI m)), (2, .int (nI a)), (3, .int (nI b)), (4, .int i), (5, .int x), (6, .int (wrS (sh a) b i x))]) (pc' := 33) dX11_ledger_31 (by decide) rfl rfl ?_
  refine g_iload (j := 6) (pc' := 35) dX11_ledger_33 rfl rfl ?_
  refine g_if_eq (tgt := 41) (pc' := 38) dX11_ledger_35 (by decide) rfl (fun hc => (absurd hc h2)) (fun hc => ?_)
  refine g_iload (j := 6) (pc' := 40) dX11_ledger_38 rfl rfl ?_
  exact g_iret dX11_ledger_40 rfl rfl (CQ.same hI)
set_option maxRecDepth 100000 in
set_option maxHeartbeats 1000000 in
theorem c_ledger {M : Nat → Nat → Int32} {N : Nat → Nat → Int64} {n k : Nat} {P : Nat → Int32} {pa : List (Nat → Int32)} {kp : Option YS} {tp : List Int32} {sh : Nat → Option (Nat × Nat × (Nat → Int64))} (hA : AOk ((n, k, P, pa), kp, tp, sh)) (hI : CI M N ((n, k, P, pa), kp, tp, sh)) {m a b q c ln : Nat} {f : Nat → Int64} (hm : m < n) (hc1 : 1 ≤ c) (hc8 : c ≤ 8) (ha : a < 4) (hb : b < 4) (hs : sh a = some (b, ln, f)) (hq : q + c ≤ ln) (hl : ln ≤ 24) : Run mX11_ledger 30 0 0 [.ref 0, .int (nI m), .int (nI a), .int (nI b), .int (nI q), .int (nI c)] (SK, M, N) (CQ M N (setF (ldB P n k m f q c) 5) ((n, k, P, pa), kp, tp, sh)) := by
  refine Run.of (by decide) (Nat.le_of_ble_eq_true rfl) ?_
  have hok : OkP n k P := hA.1.1.1
  have hc0 : IsC M 14 n k P := hI.1.1
  have hn6 := hok.1
  have hk6 := hok.2.1
  refine g_aload_n (j := 0) (pc' := 1) dX11_ledger_0 rfl rfl ?_
  refine g_iload_n (j := 1) (pc' := 2) dX11_ledger_1 rfl rfl ?_
  refine g_callV (my := mX11_noMan) (k := 0) (st := []) (av := [.int (nI m)]) (mcr := 0) (msr := 0) (mc := 0) (ms := 0) (pc' := 5) dX11_ledger_2 kX11_noMan wX11_93 rfl ⟨rfl, rfl⟩ rfl (Nat.le_of_ble_eq_true rfl) (by decide) (s_noMan0 hc0.1 hn6 (hm)) rfl ?_
  rintro _ _ ⟨rfl, rfl⟩
  show Go mX11_ledger _ _ _ 5 [(0, .ref 0), (1, .int (nI m)), (2, .int (nI a)), (3, .int (nI b)), (4, .int (nI q)), (5, .int (nI c))] [.int 0] (SK, M, N) _
  refine g_if_ne (tgt := 19) (pc' := 8) dX11_ledger_5 (by decide) rfl (fun hc => absurd rfl hc) (fun _ => ?_)
  refine g_iload (j := 5) (pc' := 10) dX11_ledger_8 rfl rfl ?_
  refine g_iconst (v := 1) (pc' := 11) dX11_ledger_10 (by decide) rfl ?_
  refine g_bipush (v := 8) (pc' := 13) dX11_ledger_11 (by decide) rfl ?_
  refine g_callS (my := mX11_outside) (st := []) (av := [.int (nI c), .int 1, .int 8]) (mcr := 0) (msr := 0) (mc := 0) (ms := 0) (pc' := 16) dX11_ledger_13 kX11_outside wX11_71 rfl (Nat.le_of_ble_eq_true rfl) (by decide) (s_out0 (rng2 (lo := 1) (hi := 8) hc1 hc8 (by omega))) rfl ?_
  rintro _ _ ⟨rfl, rfl⟩
  show Go mX11_ledger _ _ _ 16 [(0, .ref 0), (1, .int (nI m)), (2, .int (nI a)), (3, .int (nI b)), (4, .int (nI q)), (5, .int (nI c))] [.int 0] (SK, M, N) _
  refine g_if_eq (tgt := 21) (pc' := 19) dX11_ledger_16 (by decide) rfl (fun _ => ?_) (fun hc => absurd rfl hc)
  obtain ⟨g1, g2, g3, g4⟩ : M (181 + 2 * a) 0 = 0 ∧ M (181 + 2 * a) 1 = nI b ∧ M (181 + 2 * a) 2 = nI ln ∧ ∀ j, j < 24 → N (182 + 2 * a) j = f j := by have h9 := hI.2.2.2 a ha; rw [show (((n, k, P, pa), kp, tp, sh) : AS).2.2.2 a = some (b, ln, f) from hs] at h9; exact h9
  have h0 : wrS (sh a) b (nI q) (nI c) = 0 := by
    unfold wrS; rw [hs]; simp only
    rw [if_neg (not_not.mpr rfl), if_pos (has_of hq hl)]
  refine g_aload_n (j := 0) (pc' := 22) dX11_ledger_21 rfl rfl ?_
  refine g_iload_n (j := 2) (pc' := 23) dX11_ledger_22 rfl rfl ?_
  refine g_iload_n (j := 3) (pc' := 24) dX11_ledger_23 rfl rfl ?_
  refine g_iload (j := 4) (pc' := 26) dX11_ledger_24 rfl rfl ?_
  refine g_iload (j := 5) (pc' := 28) dX11_ledger_26 rfl rfl ?_
  refine g_callV (my := mX11_wrongWith) (k := 0) (st := []) (av := [.int (nI a), .int (nI b), .int (nI q), .int (nI c)]) (mcr := 0) (msr := 0) (mc := 0) (ms := 0) (pc' := 31) dX11_ledger_28 kX11_wrongWith wX11_231 rfl ⟨rfl, rfl⟩ rfl (Nat.le_of_ble_eq_true rfl) (by decide) (s_wrS hA hI ha hb (nI q) (nI c)) rfl ?_
  rintro _ _ ⟨rfl, rfl⟩
  show Go mX11_ledger _ _ _ 31 [(0, .ref 0), (1, .int (nI m)), (2, .int (nI a)), (3, .int (nI b)), (4, .int (nI q)), (5, .int (nI c))] [.int (wrS (sh a) b (nI q) (nI c))] (SK, M, N) _
  refine g_top (y := 0) (h0) ?_
  refine g_istore (L' := [(0, .ref 0), (1, .int (nI m)), (2, .int (nI a)), (3, .int (nI b)), (4, .int (nI q)), (5, .int (nI c)), (6, .int 0)]) (pc' := 33) dX11_ledger_31 (by decide) rfl rfl ?_
  refine g_iload (j := 6) (pc' := 35) dX11_ledger_33 rfl rfl ?_
  refine g_if_eq (tgt := 41) (pc' := 38) dX11_ledger_35 (by decide) rfl (fun _ => ?_) (fun hc => absurd rfl hc)
  refine g_iconst (v := 0) (pc' := 42) dX11_ledger_41 (by decide) rfl ?_
  refine g_istore (L' := [(0, .ref 0), (1, .int (nI m)), (2, .int (nI a)), (3, .int (nI b)), (4, .int (nI q)), (5, .int (nI c)), (6, .int 0), (7, .int 0)]) (pc' := 44) dX11_ledger_42 (by decide) rfl rfl ?_
  refine g_iconst (v := 0) (pc' := 45) dX11_ledger_44 (by decide) rfl ?_
  refine g_istore (L' := [(0, .ref 0), (1, .int (nI m)), (2, .int (nI a)), (3, .int (nI b)), (4, .int (nI q)), (5, .int (nI c)), (6, .int 0), (7, .int 0), (8, .int 0)]) (pc' := 47) dX11_ledger_45 (by decide) rfl rfl ?_
  have loop : ∀ (u j : Nat) (M1 : Nat → Nat → Int32), j + u = 5 → (∀ a, ¬ tmpC a → M1 a = M a) → Go mX11_ledger 30 0 0 47 [(0, .ref 0), (1, .int (nI m)), (2, .int (nI a)), (3, .int (nI b)), (4, .int (nI q)), (5, .int (nI c)), (6, .int 0), (7, .int (setF (ldB P n k m f q c) j)), (8, .int (nI j))] [] (SK, M1, N) (CQ M N (setF (ldB P n k m f q c) 5) ((n, k, P, pa), kp, tp, sh)) := by
    intro u
    induction u with
    | zero =>
      intro j M1 hj hf
      have h5 : j = 5 := by omega
      subst h5
      refine g_iload (j := 8) (pc' := 49) dX11_ledger_47 rfl rfl ?_
      refine g_iconst (v := 4) (pc' := 50) dX11_ledger_49 (by decide) rfl ?_
      refine g_icmp_gt (tgt := 91) (pc' := 53) dX11_ledger_50 (by decide) rfl (fun hc => ?_) (fun hc => (absurd (nI_lt (a := 4) (b := 5) (by omega) (by omega)) hc))
      refine g_iload (j := 7) (pc' := 93) dX11_ledger_91 rfl rfl ?_
      exact g_iret dX11_ledger_93 rfl rfl (CQ.tmp hI hf)
    | succ u ih =>
      intro j M1 hj hf
      refine g_iload (j := 8) (pc' := 49) dX11_ledger_47 rfl rfl ?_
      refine g_iconst (v := 4) (pc' := 50) dX11_ledger_49 (by decide) rfl ?_
      refine g_icmp_gt (tgt := 91) (pc' := 53) dX11_ledger_50 (by decide) rfl (fun hc => (absurd hc (nI_nlt (a := 4) (b := j) (by omega) (by omega)))) (fun hc => ?_)
      have hcM : IsC M1 14 n k P := hc0.keep (fun a a1 a2 => hf a (by unfold tmpC; omega))
      refine g_aload_n (j := 0) (pc' := 54) dX11_ledger_53 rfl rfl ?_
      refine g_iload_n (j := 1) (pc' := 55) dX11_ledger_54 rfl rfl ?_
      refine g_iload (j := 8) (pc' := 57) dX11_ledger_55 rfl rfl ?_
      refine g_aload_n (j := 0) (pc' := 58) dX11_ledger_57 rfl rfl ?_
      refine g_getR (pc' := 61) dX11_ledger_58 fX11_61 rfl rfl rfl ?_
      refine g_iload_n (j := 2) (pc' := 62) dX11_ledger_61 rfl rfl ?_
      refine g_aald (n := a) (pc' := 63) dX11_ledger_62 rfl ⟨rfl, rfl, by decide⟩ rfl (shRef (by omega)) rfl ?_
      refine g_getR (pc' := 66) dX11_ledger_63 fX11_235 (shAt (i := a) (by omega)).1 rfl rfl ?_
      refine g_iload (j := 4) (pc' := 68) dX11_ledger_66 rfl rfl ?_
      refine g_iload (j := 5) (pc' := 70) dX11_ledger_68 rfl rfl ?_
      refine g_callV (my := mX11_isCalledSo) (k := 0) (st := []) (av := [.int (nI m), .int (nI j), .ref (181 + 2 * a + 1), .int (nI q), .int (nI c)]) (mcr := 0) (msr := 0) (mc := 0) (ms := 0) (pc' := 73) dX11_ledger_70 kX11_isCalledSo wX11_239 rfl ⟨rfl, rfl⟩ rfl (Nat.le_of_ble_eq_true rfl) (by decide) (s_isCalledSo hok hcM hm (show j ≤ 4 by omega) (shAt (i := a) ha).2 (show q + c ≤ 24 by omega)) rfl ?_
      rintro _ _ ⟨M2, rfl, ⟨zz, rfl, hz⟩, hf2⟩
      show Go mX11_ledger _ _ _ 73 [(0, .ref 0), (1, .int (nI m)), (2, .int (nI a)), (3, .int (nI b)), (4, .int (nI q)), (5, .int (nI c)), (6, .int 0), (7, .int (setF (ldB P n k m f q c) j)), (8, .int (nI j))] [.int zz] (SK, M2, N) _
      have hf3 : ∀ a, ¬ tmpC a → M2 a = M a := fun a ha => (hf2 a (by unfold tmpC at ha; omega) (by unfold tmpC at ha; omega) (by unfold tmpC at ha; omega) (by unfold tmpC at ha; omega)).trans (hf a ha)
      have heq : (∀ t, t < c → (unN (foreP n k (upP P (4 + m) (nI j)) (t + 1) (28 + m))).toInt64 = N (181 + 2 * a + 1) (q + t)) ↔ (∀ t, t < c → (unN (foreP n k (upP P (4 + m) (nI j)) (t + 1) (28 + m))).toInt64 = f (q + t)) := by
        have e : ∀ t, t < c → N (181 + 2 * a + 1) (q + t) = f (q + t) := fun t ht => by rw [show 181 + 2 * a + 1 = 182 + 2 * a by omega]; exact g4 _ (by omega)
        exact ⟨fun h t ht => (h t ht).trans (e t ht), fun h t ht => (h t ht).trans (e t ht).symm⟩
      have h9 := ih (j + 1) M2 (by omega) hf3
      rcases hz with ⟨hz, rfl⟩ | ⟨hz, rfl⟩
      · have hb9 : ldB P n k m f q c j = true := decide_eq_true (heq.mp hz)
        rw [show setF (ldB P n k m f q c) (j + 1) = setF (ldB P n k m f q c) j ||| (1 : Int32) <<< (nI j &&& 31) by show (if ldB P n k m f q c j then _ else _) = _; rw [hb9]; rfl] at h9
        refine g_if_eq (tgt := 85) (pc' := 76) dX11_ledger_73 (by decide) rfl (fun hc => absurd hc (by decide)) (fun _ => ?_)
        refine g_iload (j := 7) (pc' := 78) dX11_ledger_76 rfl rfl ?_
        refine g_iconst (v := 1) (pc' := 79) dX11_ledger_78 (by decide) rfl ?_
        refine g_iload (j := 8) (pc' := 81) dX11_ledger_79 rfl rfl ?_
        refine g_ishl (pc' := 82) dX11_ledger_81 rfl ?_
        refine g_ior (pc' := 83) dX11_ledger_82 rfl ?_
        refine g_istore (L' := [(0, .ref 0), (1, .int (nI m)), (2, .int (nI a)), (3, .int (nI b)), (4, .int (nI q)), (5, .int (nI c)), (6, .int 0), (7, .int ((setF (ldB P n k m f q c) j) ||| (1 <<< ((nI j) &&& 31)))), (8, .int (nI j))]) (pc' := 85) dX11_ledger_83 (by decide) rfl rfl ?_
        refine g_iinc (j := 8) (v := nI (j + 1)) (L' := [(0, .ref 0), (1, .int (nI m)), (2, .int (nI a)), (3, .int (nI b)), (4, .int (nI q)), (5, .int (nI c)), (6, .int 0), (7, .int ((setF (ldB P n k m f q c) j) ||| (1 <<< ((nI j) &&& 31)))), (8, .int (nI (j + 1)))]) (pc' := 88) dX11_ledger_85 rfl (nI_1 j) (by decide) rfl rfl ?_
        refine g_goto (tgt := 47) dX11_ledger_88 (by decide) ?_
        exact h9
      · have hb9 : ldB P n k m f q c j = false := decide_eq_false (fun h => hz (heq.mpr h))
        rw [show setF (ldB P n k m f q c) (j + 1) = setF (ldB P n k m f q c) j by show (if ldB P n k m f q c j then _ else _) = _; rw [hb9]; rfl] at h9
        refine g_if_eq (tgt := 85) (pc' := 76) dX11_ledger_73 (by decide) rfl (fun _ => ?_) (fun hc => absurd rfl hc)
        refine g_iinc (j := 8) (v := nI (j + 1)) (L' := [(0, .ref 0), (1, .int (nI m)), (2, .int (nI a)), (3, .int (nI b)), (4, .int (nI q)), (5, .int (nI c)), (6, .int 0), (7, .int (setF (ldB P n k m f q c) j)), (8, .int (nI (j + 1)))]) (pc' := 88) dX11_ledger_85 rfl (nI_1 j) (by decide) rfl rfl ?_
        refine g_goto (tgt := 47) dX11_ledger_88 (by decide) ?_
        exact h9
  exact loop 5 0 M (by omega) (fun a _ => rfl)
set_option maxRecDepth 100000 in
set_option maxHeartbeats 1000000 in
theorem c_film_b1 {M : Nat → Nat → Int32} {N : Nat → Nat → Int64} {n k : Nat} {P : Nat → Int32} {pa : List (Nat → Int32)} {kp : Option YS} {tp : List Int32} {sh : Nat → Option (Nat × Nat × (Nat → Int64))} (hA : AOk ((n, k, P, pa), kp, tp, sh)) (hI : CI M N ((n, k, P, pa), kp, tp, sh)) {v : Int32} (x u z i : Int32) (h1 : ∀ m, m < n → v ≠ nI m) : Run mX11_film 30 0 0 [.ref 0, .int v, .int x, .int u, .int z, .int i] (SK, M, N) (CQ M N (-1) ((n, k, P, pa), kp, tp, sh)) := by
  refine Run.of (by decide) (Nat.le_of_ble_eq_true rfl) ?_
  have hok : OkP n k P := hA.1.1.1
  have hc0 : IsC M 14 n k P := hI.1.1
  have hn6 := hok.1
  have hk6 := hok.2.1
  refine g_aload_n (j := 0) (pc' := 1) dX11_film_0 rfl rfl ?_
  refine g_iload_n (j := 1) (pc' := 2) dX11_film_1 rfl rfl ?_
  refine g_callV (my := mX11_noMan) (k := 0) (st := []) (av := [.int v]) (mcr := 0) (msr := 0) (mc := 0) (ms := 0) (pc' := 5) dX11_film_2 kX11_noMan wX11_93 rfl ⟨rfl, rfl⟩ rfl (Nat.le_of_ble_eq_true rfl) (by decide) (s_noMan1 hc0.1 hn6 (h1)) rfl ?_
  rintro _ _ ⟨rfl, rfl⟩
  show Go mX11_film _ _ _ 5 [(0, .ref 0), (1, .int v), (2, .int x), (3, .int u), (4, .int z), (5, .int i)] [.int 1] (SK, M, N) _
  refine g_if_ne (tgt := 18) (pc' := 8) dX11_film_5 (by decide) rfl (fun _ => ?_) (fun hc => absurd hc (by decide))
  refine g_iconst (v := (-1)) (pc' := 19) dX11_film_18 (by decide) rfl ?_
  exact g_iret dX11_film_19 rfl rfl (CQ.same hI)
set_option maxRecDepth 100000 in
set_option maxHeartbeats 1000000 in
theorem c_film_b2 {M : Nat → Nat → Int32} {N : Nat → Nat → Int64} {n k : Nat} {P : Nat → Int32} {pa : List (Nat → Int32)} {kp : Option YS} {tp : List Int32} {sh : Nat → Option (Nat × Nat × (Nat → Int64))} (hA : AOk ((n, k, P, pa), kp, tp, sh)) (hI : CI M N ((n, k, P, pa), kp, tp, sh)) {m : Nat} {x : Int32} (u z i : Int32) (hm : m < n) (h1 : x < 1 ∨ 24 < x) : Run mX11_film 30 0 0 [.ref 0, .int (nI m), .int x, .int u, .int z, .int i] (SK, M, N) (CQ M N (-1) ((n, k, P, pa), kp, tp, sh)) := by
  refine Run.of (by decide) (Nat.le_of_ble_eq_true rfl) ?_
  have hok : OkP n k P := hA.1.1.1
  have hc0 : IsC M 14 n k P := hI.1.1
  have hn6 := hok.1
  have hk6 := hok.2.1
  refine g_aload_n (j := 0) (pc' := 1) dX11_film_0 rfl rfl ?_
  refine g_iload_n (j := 1) (pc' := 2) dX11_film_1 rfl rfl ?_
  refine g_callV (my := mX11_noMan) (k := 0) (st := []) (av := [.int (nI m)]) (mcr := 0) (msr := 0) (mc := 0) (ms := 0) (pc' := 5) dX11_film_2 kX11_noMan wX11_93 rfl ⟨rfl, rfl⟩ rfl (Nat.le_of_ble_eq_true rfl) (by decide) (s_noMan0 hc0.1 hn6 (hm)) rfl ?_
  rintro _ _ ⟨rfl, rfl⟩
  show Go mX11_film _ _ _ 5 [(0, .ref 0), (1, .int (nI m)), (2, .int x), (3, .int u), (4, .int z), (5, .int i)] [.int 0] (SK, M, N) _
  refine g_if_ne (tgt := 18) (pc' := 8) dX11_film_5 (by decide) rfl (fun hc => absurd rfl hc) (fun _ => ?_)
  refine g_iload_n (j := 2) (pc' := 9) dX11_film_8 rfl rfl ?_
  refine g_iconst (v := 1) (pc' := 10) dX11_film_9 (by decide) rfl ?_
  refine g_bipush (v := 24) (pc' := 12) dX11_film_10 (by decide) rfl ?_
  refine g_callS (my := mX11_outside) (st := []) (av := [.int x, .int 1, .int 24]) (mcr := 0) (msr := 0) (mc := 0) (ms := 0) (pc' := 15) dX11_film_12 kX11_outside wX11_71 rfl (Nat.le_of_ble_eq_true rfl) (by decide) (s_out1 (h1)) rfl ?_
  rintro _ _ ⟨rfl, rfl⟩
  show Go mX11_film _ _ _ 15 [(0, .ref 0), (1, .int (nI m)), (2, .int x), (3, .int u), (4, .int z), (5, .int i)] [.int 1] (SK, M, N) _
  refine g_if_eq (tgt := 20) (pc' := 18) dX11_film_15 (by decide) rfl (fun hc => absurd hc (by decide)) (fun _ => ?_)
  refine g_iconst (v := (-1)) (pc' := 19) dX11_film_18 (by decide) rfl ?_
  exact g_iret dX11_film_19 rfl rfl (CQ.same hI)
set_option maxRecDepth 100000 in
set_option maxHeartbeats 1000000 in
theorem c_film_b3 {M : Nat → Nat → Int32} {N : Nat → Nat → Int64} {n k : Nat} {P : Nat → Int32} {pa : List (Nat → Int32)} {kp : Option YS} {tp : List Int32} {sh : Nat → Option (Nat × Nat × (Nat → Int64))} (hA : AOk ((n, k, P, pa), kp, tp, sh)) (hI : CI M N ((n, k, P, pa), kp, tp, sh)) {m : Nat} {x u z : Int32} (i : Int32) (hm : m < n) (h1 : ¬ (x < 1 ∨ 24 < x)) (h2 : (∀ a, a < 4 → u ≠ nI a) ∨ ∀ b, b < 4 → z ≠ nI b) : Run mX11_film 30 0 0 [.ref 0, .int (nI m), .int x, .int u, .int z, .int i] (SK, M, N) (CQ M N (-1) ((n, k, P, pa), kp, tp, sh)) := by
  refine Run.of (by decide) (Nat.le_of_ble_eq_true rfl) ?_
  have hok : OkP n k P := hA.1.1.1
  have hc0 : IsC M 14 n k P := hI.1.1
  have hn6 := hok.1
  have hk6 := hok.2.1
  refine g_aload_n (j := 0) (pc' := 1) dX11_film_0 rfl rfl ?_
  refine g_iload_n (j := 1) (pc' := 2) dX11_film_1 rfl rfl ?_
  refine g_callV (my := mX11_noMan) (k := 0) (st := []) (av := [.int (nI m)]) (mcr := 0) (msr := 0) (mc := 0) (ms := 0) (pc' := 5) dX11_film_2 kX11_noMan wX11_93 rfl ⟨rfl, rfl⟩ rfl (Nat.le_of_ble_eq_true rfl) (by decide) (s_noMan0 hc0.1 hn6 (hm)) rfl ?_
  rintro _ _ ⟨rfl, rfl⟩
  show Go mX11_film _ _ _ 5 [(0, .ref 0), (1, .int (nI m)), (2, .int x), (3, .int u), (4, .int z), (5, .int i)] [.int 0] (SK, M, N) _
  refine g_if_ne (tgt := 18) (pc' := 8) dX11_film_5 (by decide) rfl (fun hc => absurd rfl hc) (fun _ => ?_)
  refine g_iload_n (j := 2) (pc' := 9) dX11_film_8 rfl rfl ?_
  refine g_iconst (v := 1) (pc' := 10) dX11_film_9 (by decide) rfl ?_
  refine g_bipush (v := 24) (pc' := 12) dX11_film_10 (by decide) rfl ?_
  refine g_callS (my := mX11_outside) (st := []) (av := [.int x, .int 1, .int 24]) (mcr := 0) (msr := 0) (mc := 0) (ms := 0) (pc' := 15) dX11_film_12 kX11_outside wX11_71 rfl (Nat.le_of_ble_eq_true rfl) (by decide) (s_out0 (h1)) rfl ?_
  rintro _ _ ⟨rfl, rfl⟩
  show Go mX11_film _ _ _ 15 [(0, .ref 0), (1, .int (nI m)), (2, .int x), (3, .int u), (4, .int z), (5, .int i)] [.int 0] (SK, M, N) _
  refine g_if_eq (tgt := 20) (pc' := 18) dX11_film_15 (by decide) rfl (fun _ => ?_) (fun hc => absurd rfl hc)
  refine g_aload_n (j := 0) (pc' := 21) dX11_film_20 rfl rfl ?_
  refine g_iload_n (j := 3) (pc' := 22) dX11_film_21 rfl rfl ?_
  refine g_iload (j := 4) (pc' := 24) dX11_film_22 rfl rfl ?_
  refine g_iload (j := 5) (pc' := 26) dX11_film_24 rfl rfl ?_
  refine g_iload_n (j := 2) (pc' := 27) dX11_film_26 rfl rfl ?_
  refine g_callV (my := mX11_wrongWith) (k := 0) (st := []) (av := [.int u, .int z, .int i, .int x]) (mcr := 0) (msr := 0) (mc := 0) (ms := 0) (pc' := 30) dX11_film_27 kX11_wrongWith wX11_231 rfl ⟨rfl, rfl⟩ rfl (Nat.le_of_ble_eq_true rfl) (by decide) (s_wr1 i x h2) rfl ?_
  rintro _ _ ⟨rfl, rfl⟩
  show Go mX11_film _ _ _ 30 [(0, .ref 0), (1, .int (nI m)), (2, .int x), (3, .int u), (4, .int z), (5, .int i)] [.int (-1)] (SK, M, N) _
  refine g_istore (L' := [(0, .ref 0), (1, .int (nI m)), (2, .int x), (3, .int u), (4, .int z), (5, .int i), (6, .int (-1))]) (pc' := 32) dX11_film_30 (by decide) rfl rfl ?_
  refine g_iload (j := 6) (pc' := 34) dX11_film_32 rfl rfl ?_
  refine g_if_eq (tgt := 40) (pc' := 37) dX11_film_34 (by decide) rfl (fun hc => (absurd hc (by decide))) (fun hc => ?_)
  refine g_iload (j := 6) (pc' := 39) dX11_film_37 rfl rfl ?_
  exact g_iret dX11_film_39 rfl rfl (CQ.same hI)
set_option maxRecDepth 100000 in
set_option maxHeartbeats 1000000 in
theorem c_film_w {M : Nat → Nat → Int32} {N : Nat → Nat → Int64} {n k : Nat} {P : Nat → Int32} {pa : List (Nat → Int32)} {kp : Option YS} {tp : List Int32} {sh : Nat → Option (Nat × Nat × (Nat → Int64))} (hA : AOk ((n, k, P, pa), kp, tp, sh)) (hI : CI M N ((n, k, P, pa), kp, tp, sh)) {m a b : Nat} {x i : Int32} (hm : m < n) (h1 : ¬ (x < 1 ∨ 24 < x)) (ha : a < 4) (hb : b < 4) (h2 : ¬ wrS (sh a) b i x = 0) : Run mX11_film 30 0 0 [.ref 0, .int (nI m), .int x, .int (nI a), .int (nI b), .int i] (SK, M, N) (CQ M N (wrS (sh a) b i x) ((n, k, P, pa), kp, tp, sh)) := by
  refine Run.of (by decide) (Nat.le_of_ble_eq_true rfl) ?_
  have hok : OkP n k P := hA.1.1.1
  have hc0 : IsC M 14 n k P := hI.1.1
  have hn6 := hok.1
  have hk6 := hok.2.1
  refine g_aload_n (j := 0) (pc' := 1) dX11_film_0 rfl rfl ?_
  refine g_iload_n (j := 1) (pc' := 2) dX11_film_1 rfl rfl ?_
  refine g_callV (my := mX11_noMan) (k := 0) (st := []) (av := [.int (nI m)]) (mcr := 0) (msr := 0) (mc := 0) (ms := 0) (pc' := 5) dX11_film_2 kX11_noMan wX11_93 rfl ⟨rfl, rfl⟩ rfl (Nat.le_of_ble_eq_true rfl) (by decide) (s_noMan0 hc0.1 hn6 (hm)) rfl ?_
  rintro _ _ ⟨rfl, rfl⟩
  show Go mX11_film _ _ _ 5 [(0, .ref 0), (1, .int (nI m)), (2, .int x), (3, .int (nI a)), (4, .int (nI b)), (5, .int i)] [.int 0] (SK, M, N) _
  refine g_if_ne (tgt := 18) (pc' := 8) dX11_film_5 (by decide) rfl (fun hc => absurd rfl hc) (fun _ => ?_)
  refine g_iload_n (j := 2) (pc' := 9) dX11_film_8 rfl rfl ?_
  refine g_iconst (v := 1) (pc' := 10) dX11_film_9 (by decide) rfl ?_
  refine g_bipush (v := 24) (pc' := 12) dX11_film_10 (by decide) rfl ?_
  refine g_callS (my := mX11_outside) (st := []) (av := [.int x, .int 1, .int 24]) (mcr := 0) (msr := 0) (mc := 0) (ms := 0) (pc' := 15) dX11_film_12 kX11_outside wX11_71 rfl (Nat.le_of_ble_eq_true rfl) (by decide) (s_out0 (h1)) rfl ?_
  rintro _ _ ⟨rfl, rfl⟩
  show Go mX11_film _ _ _ 15 [(0, .ref 0), (1, .int (nI m)), (2, .int x), (3, .int (nI a)), (4, .int (nI b)), (5, .int i)] [.int 0] (SK, M, N) _
  refine g_if_eq (tgt := 20) (pc' := 18) dX11_film_15 (by decide) rfl (fun _ => ?_) (fun hc => absurd rfl hc)
  refine g_aload_n (j := 0) (pc' := 21) dX11_film_20 rfl rfl ?_
  refine g_iload_n (j := 3) (pc' := 22) dX11_film_21 rfl rfl ?_
  refine g_iload (j := 4) (pc' := 24) dX11_film_22 rfl rfl ?_
  refine g_iload (j := 5) (pc' := 26) dX11_film_24 rfl rfl ?_
  refine g_iload_n (j := 2) (pc' := 27) dX11_film_26 rfl rfl ?_
  refine g_callV (my := mX11_wrongWith) (k := 0) (st := []) (av := [.int (nI a), .int (nI b), .int i, .int x]) (mcr := 0) (msr := 0) (mc := 0) (ms := 0) (pc' := 30) dX11_film_27 kX11_wrongWith wX11_231 rfl ⟨rfl, rfl⟩ rfl (Nat.le_of_ble_eq_true rfl) (by decide) (s_wrS hA hI ha hb i x) rfl ?_
  rintro _ _ ⟨rfl, rfl⟩
  show Go mX11_film _ _ _ 30 [(0, .ref 0), (1, .int (nI m)), (2, .int x), (3, .int (nI a)), (4, .int (nI b)), (5, .int i)] [.int (wrS (sh a) b i x)] (SK, M, N) _
  refine g_istore (L' := [(0, .ref 0), (1, .int (nI m)), (2, .int x), (3, .int (nI a)), (4, .int (nI b)), (5, .int i), (6, .int (wrS (sh a) b i x))]) (pc' := 32) dX11_film_30 (by decide) rfl rfl ?_
  refine g_iload (j := 6) (pc' := 34) dX11_film_32 rfl rfl ?_
  refine g_if_eq (tgt := 40) (pc' := 37) dX11_film_34 (by decide) rfl (fun hc => (absurd hc h2)) (fun hc => ?_)
  refine g_iload (j := 6) (pc' := 39) dX11_film_37 rfl rfl ?_
  exact g_iret dX11_film_39 rfl rfl (CQ.same hI)
/-- a sheet with what a man will be called in c Marches put from q on -/
def flmF (P : Nat → Int32) (n k m q : Nat) (f : Nat → Int64) (c : Nat) : Nat → Int64 := fun j => if q ≤ j ∧ j < q + c then (unN (foreP n k P (j - q + 1) (28 + m))).toInt64 else f j
theorem cut_small : ∀ b, b < 4 → ∀ i, i < 7 → cutL (nI b) (nI i - 1).toInt64 = (nI i - 1).toInt64 := by decide
theorem cut_un {n k : Nat} {P : Nat → Int32} (h : OkP n k P) {m b : Nat} (hm : m < n) (hb : b < 4) : cutL (nI b) (unN (P (28 + m))).toInt64 = (unN (P (28 + m))).toInt64 := by
  have hk := h.2.1
  rcases clP_of h hm with ⟨-, -, c2⟩ | ⟨i, hi, -, -, c2⟩
  · rw [c2, show (-1 : Int32) = nI 0 - 1 by decide]; exact cut_small b hb 0 (by omega)
  · rw [c2, ← nI_pred i]; exact cut_small b hb (i + 1) (by omega)
set_option maxRecDepth 100000 in
set_option maxHeartbeats 1000000 in
theorem c_film {M : Nat → Nat → Int32} {N : Nat → Nat → Int64} {n k : Nat} {P : Nat → Int32} {pa : List (Nat → Int32)} {kp : Option YS} {tp : List Int32} {sh : Nat → Option (Nat × Nat × (Nat → Int64))} (hA : AOk ((n, k, P, pa), kp, tp, sh)) (hI : CI M N ((n, k, P, pa), kp, tp, sh)) {m a b q c ln : Nat} {f : Nat → Int64} (hm : m < n) (hc1 : 1 ≤ c) (hc8 : c ≤ 24) (ha : a < 4) (hb : b < 4) (hs : sh a = some (b, ln, f)) (hq : q + c ≤ ln) (hl : ln ≤ 24) : Run mX11_film 30 0 0 [.ref 0, .int (nI m), .int (nI c), .int (nI a), .int (nI b), .int (nI q)] (SK, M, N) (CQ M N (nI c) ((n, k, P, pa), kp, tp, upS sh a (some (b, ln, flmF P n k m q f c)))) := by
  refine Run.of (by decide) (Nat.le_of_ble_eq_true rfl) ?_
  have hok : OkP n k P := hA.1.1.1
  have hc0 : IsC M 14 n k P := hI.1.1
  have hn6 := hok.1
  have hk6 := hok.2.1
  refine g_aload_n (j := 0) (pc' := 1) dX11_film_0 rfl rfl ?_
  refine g_iload_n (j := 1) (pc' := 2) dX11_film_1 rfl rfl ?_
  refine g_callV (my := mX11_noMan) (k := 0) (st := []) (av := [.int (nI m)]) (mcr := 0) (msr := 0) (mc := 0) (ms := 0) (pc' := 5) dX11_film_2 kX11_noMan wX11_93 rfl ⟨rfl, rfl⟩ rfl (Nat.le_of_ble_eq_true rfl) (by decide) (s_noMan0 hc0.1 hn6 (hm)) rfl ?_
  rintro _ _ ⟨rfl, rfl⟩
  show Go mX11_film _ _ _ 5 [(0, .ref 0), (1, .int (nI m)), (2, .int (nI c)), (3, .int (nI a)), (4, .int (nI b)), (5, .int (nI q))] [.int 0] (SK, M, N) _
  refine g_if_ne (tgt := 18) (pc' := 8) dX11_film_5 (by decide) rfl (fun hc => absurd rfl hc) (fun _ => ?_)
  refine g_iload_n (j := 2) (pc' := 9) dX11_film_8 rfl rfl ?_
  refine g_iconst (v := 1) (pc' := 10) dX11_film_9 (by decide) rfl ?_
  refine g_bipush (v := 24) (pc' := 12) dX11_film_10 (by decide) rfl ?_
  refine g_callS (my := mX11_outside) (st := []) (av := [.int (nI c), .int 1, .int 24]) (mcr := 0) (msr := 0) (mc := 0) (ms := 0) (pc' := 15) dX11_film_12 kX11_outside wX11_71 rfl (Nat.le_of_ble_eq_true rfl) (by decide) (s_out0 (rng2 (lo := 1) (hi := 24) hc1 hc8 (by omega))) rfl ?_
  rintro _ _ ⟨rfl, rfl⟩
  show Go mX11_film _ _ _ 15 [(0, .ref 0), (1, .int (nI m)), (2, .int (nI c)), (3, .int (nI a)), (4, .int (nI b)), (5, .int (nI q))] [.int 0] (SK, M, N) _
  refine g_if_eq (tgt := 20) (pc' := 18) dX11_film_15 (by decide) rfl (fun _ => ?_) (fun hc => absurd rfl hc)
  obtain ⟨g1, g2, g3, g4⟩ : M (181 + 2 * a) 0 = 0 ∧ M (181 + 2 * a) 1 = nI b ∧ M (181 + 2 * a) 2 = nI ln ∧ ∀ j, j < 24 → N (182 + 2 * a) j = f j := by have h9 := hI.2.2.2 a ha; rw [show (((n, k, P, pa), kp, tp, sh) : AS).2.2.2 a = some (b, ln, f) from hs] at h9; exact h9
  have h0 : wrS (sh a) b (nI q) (nI c) = 0 := by
    unfold wrS; rw [hs]; simp only
    rw [if_neg (not_not.mpr rfl), if_pos (has_of hq hl)]
  refine g_aload_n (j := 0) (pc' := 21) dX11_film_20 rfl rfl ?_
  refine g_iload_n (j := 3) (pc' := 22) dX11_film_21 rfl rfl ?_
  refine g_iload (j := 4) (pc' := 24) dX11_film_22 rfl rfl ?_
  refine g_iload (j := 5) (pc' := 26) dX11_film_24 rfl rfl ?_
  refine g_iload_n (j := 2) (pc' := 27) dX11_film_26 rfl rfl ?_
  refine g_callV (my := mX11_wrongWith) (k := 0) (st := []) (av := [.int (nI a), .int (nI b), .int (nI q), .int (nI c)]) (mcr := 0) (msr := 0) (mc := 0) (ms := 0) (pc' := 30) dX11_film_27 kX11_wrongWith wX11_231 rfl ⟨rfl, rfl⟩ rfl (Nat.le_of_ble_eq_true rfl) (by decide) (s_wrS hA hI ha hb (nI q) (nI c)) rfl ?_
  rintro _ _ ⟨rfl, rfl⟩
  show Go mX11_film _ _ _ 30 [(0, .ref 0), (1, .int (nI m)), (2, .int (nI c)), (3, .int (nI a)), (4, .int (nI b)), (5, .int (nI q))] [.int (wrS (sh a) b (nI q) (nI c))] (SK, M, N) _
  refine g_top (y := 0) (h0) ?_
  refine g_istore (L' := [(0, .ref 0), (1, .int (nI m)), (2, .int (nI c)), (3, .int (nI a)), (4, .int (nI b)), (5, .int (nI q)), (6, .int 0)]) (pc' := 32) dX11_film_30 (by decide) rfl rfl ?_
  refine g_iload (j := 6) (pc' := 34) dX11_film_32 rfl rfl ?_
  refine g_if_eq (tgt := 40) (pc' := 37) dX11_film_34 (by decide) rfl (fun _ => ?_) (fun hc => absurd rfl hc)
  refine g_aload_n (j := 0) (pc' := 41) dX11_film_40 rfl rfl ?_
  refine g_getR (pc' := 44) dX11_film_41 fX11_49 rfl rfl rfl ?_
  refine g_aload_n (j := 0) (pc' := 45) dX11_film_44 rfl rfl ?_
  refine g_getR (pc' := 48) dX11_film_45 fX11_28 rfl rfl rfl ?_
  refine g_callV (my := mX4_become) (k := 162) (st := []) (av := [.ref 14]) (mcr := 0) (msr := 0) (mc := 0) (ms := 0) (pc' := 51) dX11_film_48 kX4_become wX11_160 rfl ⟨rfl, rfl⟩ rfl (Nat.le_of_ble_eq_true rfl) (by decide) (s_become par162 par14 (by omega)) rfl ?_
  rintro _ _ ⟨M1, rfl, rfl, hcp⟩
  show Go mX11_film _ _ _ 51 [(0, .ref 0), (1, .int (nI m)), (2, .int (nI c)), (3, .int (nI a)), (4, .int (nI b)), (5, .int (nI q)), (6, .int 0)] [] (SK, M1, N) _
  have h0 : Told M M1 n k P := ⟨hc0.copied hok.1 hok.2.1 hcp, fun a _ _ _ ha => hcp.2.2 a (by omega)⟩
  refine g_iconst (v := 0) (pc' := 52) dX11_film_51 (by decide) rfl ?_
  refine g_istore (L' := [(0, .ref 0), (1, .int (nI m)), (2, .int (nI c)), (3, .int (nI a)), (4, .int (nI b)), (5, .int (nI q)), (6, .int 0), (7, .int 0)]) (pc' := 54) dX11_film_52 (by decide) rfl rfl ?_
  have loop : ∀ (u j : Nat) (M2 : Nat → Nat → Int32) (N2 : Nat → Nat → Int64), j + u = c → Told M M2 n k (foreP n k P j) → (∀ z, z < 24 → N2 (182 + 2 * a) z = flmF P n k m q f j z) → (∀ z, z ≠ 182 + 2 * a → N2 z = N z) → Go mX11_film 30 0 0 54 [(0, .ref 0), (1, .int (nI m)), (2, .int (nI c)), (3, .int (nI a)), (4, .int (nI b)), (5, .int (nI q)), (6, .int 0), (7, .int (nI j))] [] (SK, M2, N2) (CQ M N (nI c) ((n, k, P, pa), kp, tp, upS sh a (some (b, ln, flmF P n k m q f c)))) := by
    intro u
    induction u with
    | zero =>
      intro j M2 N2 hj hT hn1 hn2
      have hjc : c = j := by omega
      subst hjc
      refine g_iload (j := 7) (pc' := 56) dX11_film_54 rfl rfl ?_
      refine g_iload_n (j := 2) (pc' := 57) dX11_film_56 rfl rfl ?_
      refine g_icmp_ge (tgt := 108) (pc' := 60) dX11_film_57 (by decide) rfl (fun hc => ?_) (fun hc => (absurd (nI_le (Nat.le_refl _) (by omega)) hc))
      have hfr := tmp_told hT
      refine g_iload_n (j := 2) (pc' := 109) dX11_film_108 rfl rfl ?_
      exact g_iret dX11_film_109 rfl rfl (CQ.sheet hI ha ⟨by rw [hfr _ (by unfold tmpC; omega)]; exact g1, by rw [hfr _ (by unfold tmpC; omega)]; exact g2, by rw [hfr _ (by unfold tmpC; omega)]; exact g3, hn1⟩ (fun c hc ht => hfr c ht) hn2)
    | succ u ih =>
      intro j M2 N2 hj hT hn1 hn2
      refine g_iload (j := 7) (pc' := 56) dX11_film_54 rfl rfl ?_
      refine g_iload_n (j := 2) (pc' := 57) dX11_film_56 rfl rfl ?_
      refine g_icmp_ge (tgt := 108) (pc' := 60) dX11_film_57 (by decide) rfl (fun hc => (absurd hc (nI_ge (by omega) (by omega)))) (fun hc => ?_)
      refine g_aload_n (j := 0) (pc' := 61) dX11_film_60 rfl rfl ?_
      refine g_getR (pc' := 64) dX11_film_61 fX11_10 rfl rfl rfl ?_
      refine g_aload_n (j := 0) (pc' := 65) dX11_film_64 rfl rfl ?_
      refine g_getR (pc' := 68) dX11_film_65 fX11_49 rfl rfl rfl ?_
      refine g_aload_n (j := 0) (pc' := 69) dX11_film_68 rfl rfl ?_
      refine g_getR (pc' := 72) dX11_film_69 fX11_49 rfl rfl rfl ?_
      refine g_getI (pc' := 75) dX11_film_72 fX11_117 rfl rfl rfl ?_
      rw [hT.1.2.2.1, foreP_2 hok]
      refine g_callV (my := mX0_hold) (k := 1) (st := []) (av := [.ref 162, .int (P 2)]) (mcr := 0) (msr := 0) (mc := 0) (ms := 0) (pc' := 78) dX11_film_75 kX0_hold wX11_186 rfl ⟨rfl, rfl⟩ rfl (Nat.le_of_ble_eq_true rfl) (by decide) (s_hold isPar162 (foreP_ok hok j) hT.1 (P 2)) rfl ?_
      rintro _ _ ⟨M3, rfl, rfl, hH⟩
      show Go mX11_film _ _ _ 78 [(0, .ref 0), (1, .int (nI m)), (2, .int (nI c)), (3, .int (nI a)), (4, .int (nI b)), (5, .int (nI q)), (6, .int 0), (7, .int (nI j))] [] (SK, M3, N2) _
      have hT3 : Told M M3 n k (foreP n k P (j + 1)) := ⟨hH.1, fun a a8 a9 a10 ha => (hH.2 a a8 a9 a10 ha).trans (hT.2 a a8 a9 a10 ha)⟩
      have hla : M3 (181 + 2 * a) 1 = nI b := by rw [tmp_told hT3 _ (by unfold tmpC; omega)]; exact g2
      refine g_aload_n (j := 0) (pc' := 79) dX11_film_78 rfl rfl ?_
      refine g_getR (pc' := 82) dX11_film_79 fX11_61 rfl rfl rfl ?_
      refine g_iload_n (j := 3) (pc' := 83) dX11_film_82 rfl rfl ?_
      refine g_aald (n := a) (pc' := 84) dX11_film_83 rfl ⟨rfl, rfl, by decide⟩ rfl (shRef (by omega)) rfl ?_
      refine g_iload (j := 5) (pc' := 86) dX11_film_84 rfl rfl ?_
      refine g_iload (j := 7) (pc' := 88) dX11_film_86 rfl rfl ?_
      refine g_iadd (pc' := 89) dX11_film_88 rfl ?_
      refine g_top (y := nI (q + j)) (nI_add q j) ?_
      refine g_aload_n (j := 0) (pc' := 90) dX11_film_89 rfl rfl ?_
      refine g_getR (pc' := 93) dX11_film_90 fX11_49 rfl rfl rfl ?_
      refine g_getR (pc' := 96) dX11_film_93 fX11_110 rfl rfl rfl ?_
      refine g_iload_n (j := 1) (pc' := 97) dX11_film_96 rfl rfl ?_
      refine g_iald (n := m) (pc' := 98) dX11_film_97 rfl rfl (by omega) rfl ?_
      refine g_top (y := unN (foreP n k P (j + 1) (28 + m))) ((hT3.1.2.2.2.2.2.1 m hm).2.2.2.2) ?_
      refine g_i2l (pc' := 99) dX11_film_98 rfl ?_
      refine g_callV (my := mX9_put) (k := 181 + 2 * a) (st := []) (av := [.int (nI (q + j)), .long (Int32.toInt64 (unN (foreP n k P (j + 1) (28 + m))))]) (mcr := 0) (msr := 0) (mc := 0) (ms := 0) (pc' := 102) dX11_film_99 kX9_put wX11_243 (shAt (i := a) (by omega)).1 ⟨rfl, rfl⟩ rfl (Nat.le_of_ble_eq_true rfl) (by decide) (s_put _ (shAt (by omega)) (show q + j < 24 by omega)) rfl ?_
      rintro _ _ ⟨rfl, rfl⟩
      show Go mX11_film _ _ _ 102 [(0, .ref 0), (1, .int (nI m)), (2, .int (nI c)), (3, .int (nI a)), (4, .int (nI b)), (5, .int (nI q)), (6, .int 0), (7, .int (nI j))] [] (SK, M3, (um N2 (181 + 2 * a + 1) (q + j) (cutL (M3 (181 + 2 * a) 1) (Int32.toInt64 (unN (foreP n k P (j + 1) (28 + m))))))) _
      refine g_iinc (j := 7) (v := nI (j + 1)) (L' := [(0, .ref 0), (1, .int (nI m)), (2, .int (nI c)), (3, .int (nI a)), (4, .int (nI b)), (5, .int (nI q)), (6, .int 0), (7, .int (nI (j + 1)))]) (pc' := 105) dX11_film_102 rfl (nI_1 j) (by decide) rfl rfl ?_
      refine g_goto (tgt := 54) dX11_film_105 (by decide) ?_
      refine ih (j + 1) M3 _ (by omega) hT3 (fun z hz => ?_) (fun z hz => by rw [um_ne (by omega)]; exact hn2 z hz)
      rw [hla, cut_un (foreP_ok hok (j + 1)) hm hb, show 182 + 2 * a = 181 + 2 * a + 1 by omega]
      by_cases e : z = q + j
      · subst e
        rw [um_at]; unfold flmF; rw [if_pos (by omega), show q + j - q + 1 = j + 1 by omega]
      · rw [um_at2 e, show 181 + 2 * a + 1 = 182 + 2 * a by omega, hn1 z hz]
        unfold flmF
        by_cases e2 : q ≤ z ∧ z < q + j
        · rw [if_pos e2, if_pos (by omega)]
        · rw [if_neg e2, if_neg (by omega)]
  exact loop c 0 M1 N (by omega) h0 (fun z hz => by unfold flmF; rw [if_neg (by omega)]; exact g4 z hz) (fun z _ => rfl)
