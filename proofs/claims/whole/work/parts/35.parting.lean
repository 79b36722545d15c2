theorem nI_ne_m4F : ∀ i : Fin 6, ¬ nI i = -4 := by decide
theorem nI_ne_m4 {i : Nat} (h : i < 6) : ¬ nI i = -4 := nI_ne_m4F ⟨i, h⟩
/-- the first name by which a man and all behind him have cur together -/
def fbP (v later : Nat → Nat) (cur g k : Nat) : Option Nat := firstIx (fun i => !g.testBit i && v i + later (g ||| 2 ^ i) == cur) 0 k
/-- the names gone, and the last man's, when j men have parted -/
def pgF (v : Nat → Nat → Nat) (n k : Nat) : Nat → Nat × Option Nat
  | 0 => (0, none)
  | j + 1 => (match fbP (v j) (pT v k (n - (j + 1)) (j + 1)) (pT v k (n - j) j (pgF v n k j).1) (pgF v n k j).1 k with
    | none => (pgF v n k j).1
    | some i => (pgF v n k j).1 ||| 2 ^ i, fbP (v j) (pT v k (n - (j + 1)) (j + 1)) (pT v k (n - j) j (pgF v n k j).1) (pgF v n k j).1 k)
theorem fbP_lt {v later : Nat → Nat} {cur g k i : Nat} (h : fbP v later cur g k = some i) : i < k := by
  have := (firstIx_lt h).2.1
  omega
theorem pgF_lt {v : Nat → Nat → Nat} {n k : Nat} : ∀ j, (pgF v n k j).1 < 2 ^ k
  | 0 => Nat.pow_pos (by omega)
  | j + 1 => by
    have h := pgF_lt (v := v) (n := n) (k := k) j
    show (match fbP (v j) (pT v k (n - (j + 1)) (j + 1)) (pT v k (n - j) j (pgF v n k j).1) (pgF v n k j).1 k with
    | none => (pgF v n k j).1
    | some i => (pgF v n k j).1 ||| 2 ^ i) < 2 ^ k
    split
    · exact h
    · rename_i i hi
      exact or_lt h (fbP_lt hi)
theorem pgF_name {v : Nat → Nat → Nat} {n k : Nat} {j i : Nat} (h : (pgF v n k j).2 = some i) : i < k := by
  cases j with
  | zero => cases h
  | succ j => exact fbP_lt h
set_option maxRecDepth 100000 in
set_option maxHeartbeats 1000000 in
theorem s_firstBest {M : Nat → Nat → Int32} {N : Nat → Nat → Int64} {n k : Nat} {P : Nat → Int32} (hok : OkP n k P) (hc0 : IsC M 14 n k P) (hT : TabC M (vN P) n k 0) {m g : Nat} (hm : m < n) (hg : g < 2 ^ k) : Run mX11_firstBest 5 0 0 [.ref 0, .int (nI m), .int (nI g)] (SK, M, N) (fun r h' => h' = (SK, M, N) ∧ r = some (.int (optI (-1) (fbP (vN P m) (pT (vN P) k (n - (m + 1)) (m + 1)) (pT (vN P) k (n - m) m g) g k)))) := by
  refine Run.of (by decide) (Nat.le_of_ble_eq_true rfl) ?_
  have hn6 := hok.1
  have hk6 := hok.2.1
  have hS64 := pow64 hk6
  have hv := @vN_le P
  have hvq : ∀ {m i : Nat}, m < n → i < k → valP P m i + 100 = nI (vN P m i) := fun h1 h2 => vN_eq hok h1 h2
  generalize vN P = v at hv hvq hT
  have h1 := hT m (by omega) (by omega) g hg
  have h2 := fun g => hT (m + 1) (by omega) (by omega) g
  have hlate : ∀ g, pT v k (n - (m + 1)) (m + 1) g ≤ 149 * 6 := fun g => Nat.le_trans (pT_le hv _ _ g) (by omega)
  have hcur : pT v k (n - m) m g ≤ 149 * 6 := Nat.le_trans (pT_le hv _ _ g) (by omega)
  unfold fbP
  generalize pT v k (n - (m + 1)) (m + 1) = later at h2 hlate
  generalize pT v k (n - m) m g = cur at h1 hcur
  refine g_iconst (v := 0) (pc' := 1) dX11_firstBest_0 (by decide) rfl ?_
  refine g_istore_n (L' := [(0, .ref 0), (1, .int (nI m)), (2, .int (nI g)), (3, .int 0)]) (pc' := 2) dX11_firstBest_1 (by decide) rfl rfl ?_
  have loop : ∀ (j i : Nat), i + j = k → Go mX11_firstBest 5 0 0 2 [(0, .ref 0), (1, .int (nI m)), (2, .int (nI g)), (3, .int (nI i))] [] (SK, M, N) (fun r h' => h' = (SK, M, N) ∧ r = some (.int (optI (-1) (firstIx (fun i => !g.testBit i && v m i + later (g ||| 2 ^ i) == cur) i j)))) := by
    intro j
    induction j with
    | zero =>
      intro i hij
      refine g_iload_n (j := 3) (pc' := 3) dX11_firstBest_2 rfl rfl ?_
      refine g_aload_n (j := 0) (pc' := 4) dX11_firstBest_3 rfl rfl ?_
      refine g_getR (pc' := 7) dX11_firstBest_4 fX11_28 rfl rfl rfl ?_
      refine g_getI (pc' := 10) dX11_firstBest_7 fX11_86 rfl rfl rfl ?_
      refine g_top (y := nI k) (hc0.2.1) ?_
      refine g_icmp_ge (tgt := 75) (pc' := 13) dX11_firstBest_10 (by decide) rfl (fun hc => ?_) (fun hc => (absurd (nI_le (a := k) (b := i) (by omega) (by omega)) hc))
      refine g_iconst (v := (-1)) (pc' := 76) dX11_firstBest_75 (by decide) rfl ?_
      exact g_iret dX11_firstBest_76 rfl rfl (⟨rfl, rfl⟩)
    | succ j ih =>
      intro i hij
      refine g_iload_n (j := 3) (pc' := 3) dX11_firstBest_2 rfl rfl ?_
      refine g_aload_n (j := 0) (pc' := 4) dX11_firstBest_3 rfl rfl ?_
      refine g_getR (pc' := 7) dX11_firstBest_4 fX11_28 rfl rfl rfl ?_
      refine g_getI (pc' := 10) dX11_firstBest_7 fX11_86 rfl rfl rfl ?_
      refine g_top (y := nI k) (hc0.2.1) ?_
      refine g_icmp_ge (tgt := 75) (pc' := 13) dX11_firstBest_10 (by decide) rfl (fun hc => (absurd hc (nI_ge (a := i) (b := k) (by omega) (by omega)))) (fun hc => ?_)
      unfold firstIx
      refine g_iload_n (j := 2) (pc' := 14) dX11_firstBest_13 rfl rfl ?_
      refine g_iload_n (j := 3) (pc' := 15) dX11_firstBest_14 rfl rfl ?_
      refine g_ishr (pc' := 16) dX11_firstBest_15 rfl ?_
      refine g_iconst (v := 1) (pc' := 17) dX11_firstBest_16 (by decide) rfl ?_
      refine g_iand (pc' := 18) dX11_firstBest_17 rfl ?_
      refine g_if_ne (tgt := 69) (pc' := 21) dX11_firstBest_18 (by decide) rfl (fun hc6 => ?_) (fun hc6 => ?_)
      · have hbit : g.testBit i = true := by
          cases hb : g.testBit i with
          | true => rfl
          | false => exact absurd ((bitN (by omega) (by omega)).mpr hb) hc6
        have hfal : (!g.testBit i && v m i + later (g ||| 2 ^ i) == cur) = false := by rw [hbit]; rfl
        rw [if_neg (by rw [hfal]; decide)]
        refine g_iinc (j := 3) (v := nI (i + 1)) (L' := [(0, .ref 0), (1, .int (nI m)), (2, .int (nI g)), (3, .int (nI (i + 1)))]) (pc' := 72) dX11_firstBest_69 rfl (nI_1 i) (by decide) rfl rfl ?_
        refine g_goto (tgt := 2) dX11_firstBest_72 (by decide) ?_
        exact ih (i + 1) (by omega)
      · have hbit : g.testBit i = false := (bitN (by omega) (by omega)).mp hc6
        have hb0 := or_lt hg (show i < k by omega)
        have hbo : nI g ||| ((1 : Int32) <<< (nI i &&& 31)) = nI (g ||| 2 ^ i) := orbN (by omega) (by omega)
        have hQ : (!g.testBit i && v m i + later (g ||| 2 ^ i) == cur) = (v m i + later (g ||| 2 ^ i) == cur) := by rw [hbit]; rfl
        rw [hQ]
        generalize hb : g ||| 2 ^ i = b at hb0 hbo
        have hlb := hlate b
        have hvt := hv m i
        obtain ⟨qk, hqk, eqk⟩ := (hok.2.2.2.2.1 m (by omega)).1
        refine g_aload_n (j := 0) (pc' := 22) dX11_firstBest_21 rfl rfl ?_
        refine g_getR (pc' := 25) dX11_firstBest_22 fX11_10 rfl rfl rfl ?_
        refine g_aload_n (j := 0) (pc' := 26) dX11_firstBest_25 rfl rfl ?_
        refine g_getR (pc' := 29) dX11_firstBest_26 fX11_28 rfl rfl rfl ?_
        refine g_iload_n (j := 1) (pc' := 30) dX11_firstBest_29 rfl rfl ?_
        refine g_iload_n (j := 3) (pc' := 31) dX11_firstBest_30 rfl rfl ?_
        refine g_callV (my := mX0_esteem) (k := 1) (st := []) (av := [.ref 14, .int (nI m), .int (nI i)]) (mcr := 0) (msr := 0) (mc := 0) (ms := 0) (pc' := 34) dX11_firstBest_31 kX0_esteem wX11_140 rfl ⟨rfl, rfl⟩ rfl (Nat.le_of_ble_eq_true rfl) (by decide) (s_esteem (p := 14) par14 (m := m) (n := i) (by omega) (by omega) (by rw [(hc0.2.2.2.2.2.1 m (by omega)).1]; exact eqk) hqk) rfl ?_
        rintro _ _ ⟨rfl, rfl⟩
        show Go mX11_firstBest _ _ _ 34 [(0, .ref 0), (1, .int (nI m)), (2, .int (nI g)), (3, .int (nI i))] [.int (valK (M (14 + 1) m) (M (14 + 6) i) (M (14 + 7) i) (decide (m = i)))] (SK, M, N) _
        refine g_bipush (v := 100) (pc' := 36) dX11_firstBest_34 (by decide) rfl ?_
        refine g_iadd (pc' := 37) dX11_firstBest_36 rfl ?_
        refine g_top (y := nI (v m i)) (by rw [(hc0.2.2.2.2.2.1 m (by omega)).1, (hc0.2.2.2.2.2.2 i (by omega)).1, (hc0.2.2.2.2.2.2 i (by omega)).2]; exact hvq (by omega) (by omega)) ?_
        refine g_istore (L' := [(0, .ref 0), (1, .int (nI m)), (2, .int (nI g)), (3, .int (nI i)), (4, .int (nI (v m i)))]) (pc' := 39) dX11_firstBest_37 (by decide) rfl rfl ?_
        refine g_iload (j := 4) (pc' := 41) dX11_firstBest_39 rfl rfl ?_
        refine g_aload_n (j := 0) (pc' := 42) dX11_firstBest_41 rfl rfl ?_
        refine g_getR (pc' := 45) dX11_firstBest_42 fX11_67 rfl rfl rfl ?_
        refine g_iload_n (j := 1) (pc' := 46) dX11_firstBest_45 rfl rfl ?_
        refine g_iconst (v := 1) (pc' := 47) dX11_firstBest_46 (by decide) rfl ?_
        refine g_iadd (pc' := 48) dX11_firstBest_47 rfl ?_
        refine g_aald (n := m + 1) (pc' := 49) dX11_firstBest_48 rfl ⟨rfl, rfl, by decide⟩ (nI_addE rfl rfl) (togRef (by omega)) rfl ?_
        refine g_iload_n (j := 2) (pc' := 50) dX11_firstBest_49 rfl rfl ?_
        refine g_iconst (v := 1) (pc' := 51) dX11_firstBest_50 (by decide) rfl ?_
        refine g_iload_n (j := 3) (pc' := 52) dX11_firstBest_51 rfl rfl ?_
        refine g_ishl (pc' := 53) dX11_firstBest_52 rfl ?_
        refine g_ior (pc' := 54) dX11_firstBest_53 rfl ?_
        refine g_top (y := nI b) (hbo) ?_
        refine g_iald (n := b) (pc' := 55) dX11_firstBest_54 (togAt (by omega)) rfl (by omega) rfl ?_
        refine g_top (y := nI (later b)) (h2 b hb0) ?_
        refine g_iadd (pc' := 56) dX11_firstBest_55 rfl ?_
        refine g_top (y := nI (v m i + later b)) (nI_add _ _) ?_
        refine g_aload_n (j := 0) (pc' := 57) dX11_firstBest_56 rfl rfl ?_
        refine g_getR (pc' := 60) dX11_firstBest_57 fX11_67 rfl rfl rfl ?_
        refine g_iload_n (j := 1) (pc' := 61) dX11_firstBest_60 rfl rfl ?_
        refine g_aald (n := m) (pc' := 62) dX11_firstBest_61 rfl ⟨rfl, rfl, by decide⟩ rfl (togRef (by omega)) rfl ?_
        refine g_iload_n (j := 2) (pc' := 63) dX11_firstBest_62 rfl rfl ?_
        refine g_iald (n := g) (pc' := 64) dX11_firstBest_63 (togAt (by omega)) rfl (by omega) rfl ?_
        refine g_top (y := nI cur) (h1) ?_
        refine g_icmp_ne (tgt := 69) (pc' := 67) dX11_firstBest_64 (by decide) rfl (fun hc8 => ?_) (fun hc8 => ?_)
        · have hfal : (v m i + later b == cur) = false := by rw [beq_eq_false_iff_ne]; exact fun q => hc8 (by rw [q])
          rw [hfal]
          rw [if_neg (by decide)]
          refine g_iinc (j := 3) (v := nI (i + 1)) (L' := [(0, .ref 0), (1, .int (nI m)), (2, .int (nI g)), (3, .int (nI (i + 1))), (4, .int (nI (v m i)))]) (pc' := 72) dX11_firstBest_69 rfl (nI_1 i) (by decide) rfl rfl ?_
          refine g_goto (tgt := 2) dX11_firstBest_72 (by decide) ?_
          refine g_less (L' := [(0, .ref 0), (1, .int (nI m)), (2, .int (nI g)), (3, .int (nI (i + 1)))]) [0, 1, 2, 3] rfl ?_
          exact ih (i + 1) (by omega)
        · have htru : (v m i + later b == cur) = true := by rw [beq_iff_eq]; exact (nI_eq (by omega) (by omega)).mp hc8
          rw [htru]
          rw [if_pos rfl]
          refine g_iload_n (j := 3) (pc' := 68) dX11_firstBest_67 rfl rfl ?_
          exact g_iret dX11_firstBest_68 rfl rfl (⟨rfl, rfl⟩)
  exact loop k 0 (by omega)
set_option maxRecDepth 100000 in
set_option maxHeartbeats 1000000 in
theorem c_parting_b {M : Nat → Nat → Int32} {N : Nat → Nat → Int64} {n k : Nat} {P : Nat → Int32} {pa : List (Nat → Int32)} {kp : Option YS} {tp : List Int32} {sh : Nat → Option (Nat × Nat × (Nat → Int64))} (hA : AOk ((n, k, P, pa), kp, tp, sh)) (hI : CI M N ((n, k, P, pa), kp, tp, sh)) {v : Int32} (h0 : v ≠ -4) (h1 : ∀ m, m < n → v ≠ nI m) : Run mX11_parting 30 0 0 [.ref 0, .int v] (SK, M, N) (CQ M N (-1) ((n, k, P, pa), kp, tp, sh)) := by
  refine Run.of (by decide) (Nat.le_of_ble_eq_true rfl) ?_
  have hok : OkP n k P := hA.1.1.1
  have hc0 : IsC M 14 n k P := hI.1.1
  have hn6 := hok.1
  have hk6 := hok.2.1
  refine g_iload_n (j := 1) (pc' := 1) dX11_parting_0 rfl rfl ?_
  refine g_bipush (v := (-4)) (pc' := 3) dX11_parting_1 (by decide) rfl ?_
  refine g_icmp_eq (tgt := 16) (pc' := 6) dX11_parting_3 (by decide) rfl (fun hc => (absurd hc h0)) (fun hc => ?_)
  refine g_aload_n (j := 0) (pc' := 7) dX11_parting_6 rfl rfl ?_
  refine g_iload_n (j := 1) (pc' := 8) dX11_parting_7 rfl rfl ?_
  refine g_callV (my := mX11_noMan) (k := 0) (st := []) (av := [.int v]) (mcr := 0) (msr := 0) (mc := 0) (ms := 0) (pc' := 11) dX11_parting_8 kX11_noMan wX11_93 rfl ⟨rfl, rfl⟩ rfl (Nat.le_of_ble_eq_true rfl) (by decide) (s_noMan1 hc0.1 hn6 (h1)) rfl ?_
  rintro _ _ ⟨rfl, rfl⟩
  show Go mX11_parting _ _ _ 11 [(0, .ref 0), (1, .int v)] [.int 1] (SK, M, N) _
  refine g_if_eq (tgt := 16) (pc' := 14) dX11_parting_11 (by decide) rfl (fun hc => absurd hc (by decide)) (fun _ => ?_)
  refine g_iconst (v := (-1)) (pc' := 15) dX11_parting_14 (by decide) rfl ?_
  exact g_iret dX11_parting_15 rfl rfl (CQ.same hI)
set_option maxRecDepth 100000 in
set_option maxHeartbeats 1000000 in
theorem c_parting_n {M : Nat → Nat → Int32} {N : Nat → Nat → Int64} {n k : Nat} {P : Nat → Int32} {pa : List (Nat → Int32)} {kp : Option YS} {tp : List Int32} {sh : Nat → Option (Nat × Nat × (Nat → Int64))} (hA : AOk ((n, k, P, pa), kp, tp, sh)) (hI : CI M N ((n, k, P, pa), kp, tp, sh))  : Run mX11_parting 30 0 0 [.ref 0, .int (-4)] (SK, M, N) (CQ M N (nI (pT (vN P) k n 0 0)) ((n, k, P, pa), kp, tp, sh)) := by
  refine Run.of (by decide) (Nat.le_of_ble_eq_true rfl) ?_
  have hok : OkP n k P := hA.1.1.1
  have hc0 : IsC M 14 n k P := hI.1.1
  have hn6 := hok.1
  have hk6 := hok.2.1
  refine g_iload_n (j := 1) (pc' := 1) dX11_parting_0 rfl rfl ?_
  refine g_bipush (v := (-4)) (pc' := 3) dX11_parting_1 (by decide) rfl ?_
  refine g_icmp_eq (tgt := 16) (pc' := 6) dX11_parting_3 (by decide) rfl (fun hc => ?_) (fun hc => (absurd rfl hc))
  refine g_aload_n (j := 0) (pc' := 17) dX11_parting_16 rfl rfl ?_
  refine g_callV (my := mX11_weighPartings) (k := 0) (st := []) (av := []) (mcr := 0) (msr := 0) (mc := 0) (ms := 0) (pc' := 20) dX11_parting_17 kX11_weighPartings wX11_211 rfl ⟨rfl, rfl⟩ rfl (Nat.le_of_ble_eq_true rfl) (by decide) (s_weigh hok hc0) rfl ?_
  rintro _ _ ⟨M1, rfl, rfl, hT, hf1⟩
  show Go mX11_parting _ _ _ 20 [(0, .ref 0), (1, .int (-4))] [] (SK, M1, N) _
  have hc1 : IsC M1 14 n k P := hc0.keep (fun a a1 a2 => hf1 a (by omega))
  refine g_iload_n (j := 1) (pc' := 21) dX11_parting_20 rfl rfl ?_
  refine g_bipush (v := (-4)) (pc' := 23) dX11_parting_21 (by decide) rfl ?_
  refine g_icmp_ne (tgt := 35) (pc' := 26) dX11_parting_23 (by decide) rfl (fun hc => (absurd rfl hc)) (fun hc => ?_)
  refine g_aload_n (j := 0) (pc' := 27) dX11_parting_26 rfl rfl ?_
  refine g_getR (pc' := 30) dX11_parting_27 fX11_67 rfl rfl rfl ?_
  refine g_iconst (v := 0) (pc' := 31) dX11_parting_30 (by decide) rfl ?_
  refine g_aald (n := 0) (pc' := 32) dX11_parting_31 rfl ⟨rfl, rfl, by decide⟩ rfl rfl rfl ?_
  refine g_iconst (v := 0) (pc' := 33) dX11_parting_32 (by decide) rfl ?_
  refine g_iald (n := 0) (pc' := 34) dX11_parting_33 rfl rfl (by omega) rfl ?_
  refine g_top (y := nI (pT (vN P) k n 0 0)) (hT 0 (by omega) (by omega) 0 (Nat.pow_pos (by omega))) ?_
  exact g_iret dX11_parting_34 rfl rfl (CQ.tmp hI (fun a ta => by unfold tmpC at ta; exact hf1 a (by omega)))
set_option maxRecDepth 100000 in
set_option maxHeartbeats 1000000 in
theorem c_parting {M : Nat → Nat → Int32} {N : Nat → Nat → Int64} {n k : Nat} {P : Nat → Int32} {pa : List (Nat → Int32)} {kp : Option YS} {tp : List Int32} {sh : Nat → Option (Nat × Nat × (Nat → Int64))} (hA : AOk ((n, k, P, pa), kp, tp, sh)) (hI : CI M N ((n, k, P, pa), kp, tp, sh)) {m : Nat} (hm : m < n) : Run mX11_parting 30 0 0 [.ref 0, .int (nI m)] (SK, M, N) (CQ M N (optI (-4) (pgF (vN P) n k (m + 1)).2) ((n, k, P, pa), kp, tp, sh)) := by
  refine Run.of (by decide) (Nat.le_of_ble_eq_true rfl) ?_
  have hok : OkP n k P := hA.1.1.1
  have hc0 : IsC M 14 n k P := hI.1.1
  have hn6 := hok.1
  have hk6 := hok.2.1
  have hS64 := pow64 hk6
  refine g_iload_n (j := 1) (pc' := 1) dX11_parting_0 rfl rfl ?_
  refine g_bipush (v := (-4)) (pc' := 3) dX11_parting_1 (by decide) rfl ?_
  refine g_icmp_eq (tgt := 16) (pc' := 6) dX11_parting_3 (by decide) rfl (fun hc => (absurd hc (nI_ne_m4 (by omega)))) (fun hc => ?_)
  refine g_aload_n (j := 0) (pc' := 7) dX11_parting_6 rfl rfl ?_
  refine g_iload_n (j := 1) (pc' := 8) dX11_parting_7 rfl rfl ?_
  refine g_callV (my := mX11_noMan) (k := 0) (st := []) (av := [.int (nI m)]) (mcr := 0) (msr := 0) (mc := 0) (ms := 0) (pc' := 11) dX11_parting_8 kX11_noMan wX11_93 rfl ⟨rfl, rfl⟩ rfl (Nat.le_of_ble_eq_true rfl) (by decide) (s_noMan0 hc0.1 hn6 (hm)) rfl ?_
  rintro _ _ ⟨rfl, rfl⟩
  show Go mX11_parting _ _ _ 11 [(0, .ref 0), (1, .int (nI m))] [.int 0] (SK, M, N) _
  refine g_if_eq (tgt := 16) (pc' := 14) dX11_parting_11 (by decide) rfl (fun _ => ?_) (fun hc => absurd rfl hc)
  refine g_aload_n (j := 0) (pc' := 17) dX11_parting_16 rfl rfl ?_
  refine g_callV (my := mX11_weighPartings) (k := 0) (st := []) (av := []) (mcr := 0) (msr := 0) (mc := 0) (ms := 0) (pc' := 20) dX11_parting_17 kX11_weighPartings wX11_211 rfl ⟨rfl, rfl⟩ rfl (Nat.le_of_ble_eq_true rfl) (by decide) (s_weigh hok hc0) rfl ?_
  rintro _ _ ⟨M1, rfl, rfl, hT, hf1⟩
  show Go mX11_parting _ _ _ 20 [(0, .ref 0), (1, .int (nI m))] [] (SK, M1, N) _
  have hc1 : IsC M1 14 n k P := hc0.keep (fun a a1 a2 => hf1 a (by omega))
  refine g_iload_n (j := 1) (pc' := 21) dX11_parting_20 rfl rfl ?_
  refine g_bipush (v := (-4)) (pc' := 23) dX11_parting_21 (by decide) rfl ?_
  refine g_icmp_ne (tgt := 35) (pc' := 26) dX11_parting_23 (by decide) rfl (fun hc => ?_) (fun hc => (absurd hc (nI_ne_m4 (by omega))))
  refine g_iconst (v := 0) (pc' := 36) dX11_parting_35 (by decide) rfl ?_
  refine g_istore_n (L' := [(0, .ref 0), (1, .int (nI m)), (2, .int 0)]) (pc' := 37) dX11_parting_36 (by decide) rfl rfl ?_
  refine g_iconst (v := (-1)) (pc' := 38) dX11_parting_37 (by decide) rfl ?_
  refine g_istore_n (L' := [(0, .ref 0), (1, .int (nI m)), (2, .int 0), (3, .int (-1))]) (pc' := 39) dX11_parting_38 (by decide) rfl rfl ?_
  refine g_iconst (v := 0) (pc' := 40) dX11_parting_39 (by decide) rfl ?_
  refine g_istore (L' := [(0, .ref 0), (1, .int (nI m)), (2, .int 0), (3, .int (-1)), (4, .int 0)]) (pc' := 42) dX11_parting_40 (by decide) rfl rfl ?_
  have hlt := @pgF_lt (vN P) n k
  have loop : ∀ (l j : Nat), j + l = m + 1 → Go mX11_parting 30 0 0 42 [(0, .ref 0), (1, .int (nI m)), (2, .int (nI (pgF (vN P) n k j).1)), (3, .int (optI (-1) (pgF (vN P) n k j).2)), (4, .int (nI j))] [] (SK, M1, N) (CQ M N (optI (-4) (pgF (vN P) n k (m + 1)).2) ((n, k, P, pa), kp, tp, sh)) := by
    intro l
    induction l with
    | zero =>
      intro j hj
      obtain rfl : j = m + 1 := by omega
      refine g_iload (j := 4) (pc' := 44) dX11_parting_42 rfl rfl ?_
      refine g_iload_n (j := 1) (pc' := 45) dX11_parting_44 rfl rfl ?_
      refine g_icmp_gt (tgt := 73) (pc' := 48) dX11_parting_45 (by decide) rfl (fun hc => ?_) (fun hc => (absurd (nI_lt (a := m) (b := m + 1) (by omega) (by omega)) hc))
      refine g_iload_n (j := 3) (pc' := 74) dX11_parting_73 rfl rfl ?_
      refine g_callS (my := mX11_orNone) (st := []) (av := [.int (optI (-1) (pgF (vN P) n k (m + 1)).2)]) (mcr := 0) (msr := 0) (mc := 0) (ms := 0) (pc' := 77) dX11_parting_74 kX11_orNone wX11_113 rfl (Nat.le_of_ble_eq_true rfl) (by decide) (s_orNone _ _) rfl ?_
      rintro _ _ ⟨rfl, rfl⟩
      show Go mX11_parting _ _ _ 77 [(0, .ref 0), (1, .int (nI m)), (2, .int (nI ((pgF (vN P) n k (m + 1)).1))), (3, .int (optI (-1) (pgF (vN P) n k (m + 1)).2)), (4, .int (nI (m + 1)))] [.int (if optI (-1) (pgF (vN P) n k (m + 1)).2 = -1 then -4 else optI (-1) (pgF (vN P) n k (m + 1)).2)] (SK, M1, N) _
      refine g_top (y := optI (-4) (pgF (vN P) n k (m + 1)).2) (orNone_opt (n := k) (fun i hi => pgF_name hi) hk6) ?_
      exact g_iret dX11_parting_77 rfl rfl (CQ.tmp hI (fun a ta => by unfold tmpC at ta; exact hf1 a (by omega)))
    | succ l ih =>
      intro j hj
      refine g_iload (j := 4) (pc' := 44) dX11_parting_42 rfl rfl ?_
      refine g_iload_n (j := 1) (pc' := 45) dX11_parting_44 rfl rfl ?_
      refine g_icmp_gt (tgt := 73) (pc' := 48) dX11_parting_45 (by decide) rfl (fun hc => (absurd hc (nI_nlt (a := m) (b := j) (by omega) (by omega)))) (fun hc => ?_)
      have hih := ih (j + 1) (by omega)
      have hg := hlt j
      refine g_aload_n (j := 0) (pc' := 49) dX11_parting_48 rfl rfl ?_
      refine g_iload (j := 4) (pc' := 51) dX11_parting_49 rfl rfl ?_
      refine g_iload_n (j := 2) (pc' := 52) dX11_parting_51 rfl rfl ?_
      refine g_callV (my := mX11_firstBest) (k := 0) (st := []) (av := [.int (nI j), .int (nI ((pgF (vN P) n k j).1))]) (mcr := 0) (msr := 0) (mc := 0) (ms := 0) (pc' := 55) dX11_parting_52 kX11_firstBest wX11_214 rfl ⟨rfl, rfl⟩ rfl (Nat.le_of_ble_eq_true rfl) (by decide) (s_firstBest hok hc1 hT (show j < n by omega) hg) rfl ?_
      rintro _ _ ⟨rfl, rfl⟩
      show Go mX11_parting _ _ _ 55 [(0, .ref 0), (1, .int (nI m)), (2, .int (nI ((pgF (vN P) n k j).1))), (3, .int (optI (-1) (pgF (vN P) n k j).2)), (4, .int (nI j))] [.int (optI (-1) (fbP (vN P j) (pT (vN P) k (n - (j + 1)) (j + 1)) (pT (vN P) k (n - j) j (pgF (vN P) n k j).1) (pgF (vN P) n k j).1 k))] (SK, M1, N) _
      unfold pgF at hih
      have hbl := @fbP_lt (vN P j) (pT (vN P) k (n - (j + 1)) (j + 1)) (pT (vN P) k (n - j) j (pgF (vN P) n k j).1) (pgF (vN P) n k j).1 k
      generalize fbP (vN P j) (pT (vN P) k (n - (j + 1)) (j + 1)) (pT (vN P) k (n - j) j (pgF (vN P) n k j).1) (pgF (vN P) n k j).1 k = o at hih hbl
      generalize (pgF (vN P) n k j).1 = g at hih hg
      refine g_less (L' := [(0, .ref 0), (1, .int (nI m)), (2, .int (nI g)), (4, .int (nI j))]) [0, 1, 2, 4] rfl ?_
      cases o with
      | none =>
        show Go mX11_parting _ _ _ 55 [(0, .ref 0), (1, .int (nI m)), (2, .int (nI g)), (4, .int (nI j))] [.int (-1)] (SK, M1, N) _
        refine g_istore_n (L' := [(0, .ref 0), (1, .int (nI m)), (2, .int (nI g)), (3, .int (-1)), (4, .int (nI j))]) (pc' := 56) dX11_parting_55 (by decide) rfl rfl ?_
        refine g_iload_n (j := 3) (pc' := 57) dX11_parting_56 rfl rfl ?_
        refine g_iconst (v := (-1)) (pc' := 58) dX11_parting_57 (by decide) rfl ?_
        refine g_icmp_eq (tgt := 67) (pc' := 61) dX11_parting_58 (by decide) rfl (fun hc => ?_) (fun hc => (absurd rfl hc))
        refine g_iinc (j := 4) (v := nI (j + 1)) (L' := [(0, .ref 0), (1, .int (nI m)), (2, .int (nI g)), (3, .int (-1)), (4, .int (nI (j + 1)))]) (pc' := 70) dX11_parting_67 rfl (nI_1 j) (by decide) rfl rfl ?_
        refine g_goto (tgt := 42) dX11_parting_70 (by decide) ?_
        exact hih
      | some i =>
        show Go mX11_parting _ _ _ 55 [(0, .ref 0), (1, .int (nI m)), (2, .int (nI g)), (4, .int (nI j))] [.int (nI i)] (SK, M1, N) _
        have hik := hbl rfl
        refine g_istore_n (L' := [(0, .ref 0), (1, .int (nI m)), (2, .int (nI g)), (3, .int (nI i)), (4, .int (nI j))]) (pc' := 56) dX11_parting_55 (by decide) rfl rfl ?_
        refine g_iload_n (j := 3) (pc' := 57) dX11_parting_56 rfl rfl ?_
        refine g_iconst (v := (-1)) (pc' := 58) dX11_parting_57 (by decide) rfl ?_
        refine g_icmp_eq (tgt := 67) (pc' := 61) dX11_parting_58 (by decide) rfl (fun hc => (absurd hc (nI_ne_m1 (by omega)))) (fun hc => ?_)
        refine g_iload_n (j := 2) (pc' := 62) dX11_parting_61 rfl rfl ?_
        refine g_iconst (v := 1) (pc' := 63) dX11_parting_62 (by decide) rfl ?_
        refine g_iload_n (j := 3) (pc' := 64) dX11_parting_63 rfl rfl ?_
        refine g_ishl (pc' := 65) dX11_parting_64 rfl ?_
        refine g_ior (pc' := 66) dX11_parting_65 rfl ?_
        refine g_top (y := nI (g ||| 2 ^ i)) (orbN (by omega) (by omega)) ?_
        refine g_istore_n (L' := [(0, .ref 0), (1, .int (nI m)), (2, .int (nI (g ||| 2 ^ i))), (3, .int (nI i)), (4, .int (nI j))]) (pc' := 67) dX11_parting_66 (by decide) rfl rfl ?_
        refine g_iinc (j := 4) (v := nI (j + 1)) (L' := [(0, .ref 0), (1, .int (nI m)), (2, .int (nI (g ||| 2 ^ i))), (3, .int (nI i)), (4, .int (nI (j + 1)))]) (pc' := 70) dX11_parting_67 rfl (nI_1 j) (by decide) rfl rfl ?_
        refine g_goto (tgt := 42) dX11_parting_70 (by decide) ?_
        exact hih
  exact loop (m + 1) 0 (by omega)
