/-! ===== the reference's partings ===== -/
def hB (v later : Nat → Nat) : Nat → Nat → Nat
  | 0, _ => 0
  | i + 1, g => if g.testBit i then hB v later i g else max (hB v later i g) (v i + later (g ||| 2 ^ i))
theorem hB_tB {v later : Nat → Nat} : ∀ i g, max (hB v later i g) (later g) = tB v later i g
  | 0, g => by unfold hB tB; omega
  | i + 1, g => by
    have ih := hB_tB (v := v) (later := later) i g
    unfold hB tB
    split
    · exact ih
    · rw [← ih]; omega
theorem hB_le {v later : Nat → Nat} (i g : Nat) : hB v later i g ≤ tB v later i g := by rw [← hB_tB]; exact Nat.le_max_left _ _
theorem tB_att {v later : Nat → Nat} : ∀ k g, tB v later k g = later g ∨ ∃ i, i < k ∧ g.testBit i = false ∧ v i + later (g ||| 2 ^ i) = tB v later k g
  | 0, g => Or.inl rfl
  | k + 1, g => by
    have ih := tB_att (v := v) (later := later) k g
    unfold tB
    split
    · rcases ih with h | ⟨i, h1, h2, h3⟩
      · exact Or.inl h
      · exact Or.inr ⟨i, by omega, h2, h3⟩
    · rename_i hb
      have hb : g.testBit k = false := by cases h : g.testBit k with
        | false => rfl
        | true => exact absurd h hb
      by_cases e : tB v later k g ≤ v k + later (g ||| 2 ^ k)
      · exact Or.inr ⟨k, by omega, hb, by omega⟩
      · rw [Nat.max_eq_left (by omega)]
        rcases ih with h | ⟨i, h1, h2, h3⟩
        · exact Or.inl h
        · exact Or.inr ⟨i, by omega, h2, h3⟩
theorem firstIx_noF {f : Nat → Bool} : ∀ {k i : Nat}, firstIx f i k = none → ∀ j, i ≤ j → j < i + k → f j = false
  | 0, i, _, j, h1, h2 => absurd h1 (by omega)
  | k + 1, i, h, j, h1, h2 => by
    unfold firstIx at h
    split at h
    · cases h
    · rename_i hf
      by_cases e : j = i
      · subst e
        cases hj : f j with
        | false => rfl
        | true => exact absurd hj hf
      · exact firstIx_noF h j (by omega) (by omega)
theorem fbP_none {v later : Nat → Nat} {g k : Nat} (h : fbP v later (tB v later k g) g k = none) : tB v later k g = later g := by
  rcases tB_att (v := v) (later := later) k g with e | ⟨i, h1, h2, h3⟩
  · exact e
  · have h9 := firstIx_noF h i (by omega) (by omega)
    rw [h2, h3] at h9
    simp at h9
def hasI (v later : Nat → Nat) (k g i : Nat) : Int32 := if i = k then nI (later g) else if g.testBit i then -1 else nI (v i + later (g ||| 2 ^ i))
def TabR (M : Nat → Nat → Int32) (v : Nat → Nat → Nat) (n k t : Nat) : Prop := ∀ m, t ≤ m → m ≤ n → ∀ g, g < 2 ^ k → M 201 (64 * m + g) = nI (pT v k (n - m) m g)
theorem bit1 {g i : Nat} (hg : g < 64) (hi : i < 6) (h : Nat.testBit g i = true) : (nI g >>> (nI i &&& 31)) &&& 1 = 1 := by
  rcases and1 (nI g >>> (nI i &&& 31)) with e | e
  · have := (bitN hg hi).mp e
    rw [h] at this
    cases this
  · exact e
set_option maxRecDepth 100000 in
set_option maxHeartbeats 1000000 in
theorem r_has {M : Nat → Nat → Int32} {N : Nat → Nat → Int64} {n k : Nat} {P : Nat → Int32} (hok : OkP n k P) (hP : ∀ j, j < 47 → M 190 j = P j) {m g : Nat} (hm : m < n) (hg : g < 2 ^ k) {later : Nat → Nat} (ht : ∀ g, g < 2 ^ k → M 201 (64 * (m + 1) + g) = nI (later g)) {i : Nat} (hi : i ≤ k) : Run mX12_has 1 0 0 [.ref 189, .int (nI m), .int (nI g), .int (nI i)] (SK, M, N) (fun r h' => h' = (SK, M, N) ∧ r = some (.int (hasI (vN P m) later k g i))) := by
  refine Run.of (by decide) (Nat.le_of_ble_eq_true rfl) ?_
  have hn6 := hok.1
  have hk6 := hok.2.1
  have hS64 := pow64 hk6
  refine g_iload_n (j := 3) (pc' := 1) dX12_has_0 rfl rfl ?_
  refine g_aload_n (j := 0) (pc' := 2) dX12_has_1 rfl rfl ?_
  refine g_getR (pc' := 5) dX12_has_2 fX12_7 rfl rfl rfl ?_
  refine g_iconst (v := 1) (pc' := 6) dX12_has_5 (by decide) rfl ?_
  refine g_iald (n := 1) (pc' := 7) dX12_has_6 rfl rfl (by omega) rfl ?_
  refine g_top (y := nI k) ((hP 1 (by omega)).trans hok.2.2.2.1) ?_
  by_cases hik : i = k
  · rw [show hasI (vN P m) later k g i = nI (later g) from if_pos hik]
    refine g_icmp_ne (tgt := 24) (pc' := 10) dX12_has_7 (by decide) rfl (fun hc => (absurd (by rw [hik]) hc)) (fun hc => ?_)
    refine g_aload_n (j := 0) (pc' := 11) dX12_has_10 rfl rfl ?_
    refine g_getR (pc' := 14) dX12_has_11 fX12_44 rfl rfl rfl ?_
    refine g_bipush (v := 64) (pc' := 16) dX12_has_14 (by decide) rfl ?_
    refine g_iload_n (j := 1) (pc' := 17) dX12_has_16 rfl rfl ?_
    refine g_iconst (v := 1) (pc' := 18) dX12_has_17 (by decide) rfl ?_
    refine g_iadd (pc' := 19) dX12_has_18 rfl ?_
    refine g_imul (pc' := 20) dX12_has_19 rfl ?_
    refine g_iload_n (j := 2) (pc' := 21) dX12_has_20 rfl rfl ?_
    refine g_iadd (pc' := 22) dX12_has_21 rfl ?_
    refine g_iald (n := (64 * (m + 1)) + g) (pc' := 23) dX12_has_22 rfl (nI_addE (nI_mulE rfl (nI_addE rfl rfl)) rfl) (by omega) rfl ?_
    refine g_top (y := nI (later g)) (ht g hg) ?_
    exact g_iret dX12_has_23 rfl rfl (⟨rfl, rfl⟩)
  · have hlt : i < k := by omega
    refine g_icmp_ne (tgt := 24) (pc' := 10) dX12_has_7 (by decide) rfl (fun hc => ?_) (fun hc => (absurd ((nI_eq (by omega) (by omega)).mp hc) hik))
    cases hb : Nat.testBit g i with
    | true =>
      rw [show hasI (vN P m) later k g i = -1 by unfold hasI; rw [if_neg hik, if_pos hb]]
      refine g_iload_n (j := 2) (pc' := 25) dX12_has_24 rfl rfl ?_
      refine g_iload_n (j := 3) (pc' := 26) dX12_has_25 rfl rfl ?_
      refine g_ishr (pc' := 27) dX12_has_26 rfl ?_
      refine g_iconst (v := 1) (pc' := 28) dX12_has_27 (by decide) rfl ?_
      refine g_iand (pc' := 29) dX12_has_28 rfl ?_
      refine g_top (y := 1) (bit1 (by omega) (by omega) hb) ?_
      refine g_iconst (v := 1) (pc' := 30) dX12_has_29 (by decide) rfl ?_
      refine g_icmp_ne (tgt := 37) (pc' := 33) dX12_has_30 (by decide) rfl (fun hc => (absurd rfl hc)) (fun hc => ?_)
      refine g_iconst (v := (-1)) (pc' := 34) dX12_has_33 (by decide) rfl ?_
      refine g_goto (tgt := 67) dX12_has_34 (by decide) ?_
      exact g_iret dX12_has_67 rfl rfl (⟨rfl, rfl⟩)
    | false =>
      rw [show hasI (vN P m) later k g i = nI (vN P m i + later (g ||| 2 ^ i)) by unfold hasI; rw [if_neg hik, if_neg (by rw [hb]; decide)]]
      refine g_iload_n (j := 2) (pc' := 25) dX12_has_24 rfl rfl ?_
      refine g_iload_n (j := 3) (pc' := 26) dX12_has_25 rfl rfl ?_
      refine g_ishr (pc' := 27) dX12_has_26 rfl ?_
      refine g_iconst (v := 1) (pc' := 28) dX12_has_27 (by decide) rfl ?_
      refine g_iand (pc' := 29) dX12_has_28 rfl ?_
      refine g_top (y := 0) ((bitN (by omega) (by omega)).mpr hb) ?_
      refine g_iconst (v := 1) (pc' := 30) dX12_has_29 (by decide) rfl ?_
      refine g_icmp_ne (tgt := 37) (pc' := 33) dX12_has_30 (by decide) rfl (fun hc => ?_) (fun hc => (absurd hc (by decide)))
      refine g_aload_n (j := 0) (pc' := 38) dX12_has_37 rfl rfl ?_
      refine g_getR (pc' := 41) dX12_has_38 fX12_7 rfl rfl rfl ?_
      refine g_iload_n (j := 1) (pc' := 42) dX12_has_41 rfl rfl ?_
      refine g_iload_n (j := 3) (pc' := 43) dX12_has_42 rfl rfl ?_
      refine g_callS (my := mX12_valueOf) (st := []) (av := [.ref 190, .int (nI m), .int (nI i)]) (mcr := 0) (msr := 0) (mc := 0) (ms := 0) (pc' := 46) dX12_has_43 kX12_valueOf wX12_67 rfl (Nat.le_of_ble_eq_true rfl) (by decide) (r_valueOf (c := 190) rfl hok hP hm hlt) rfl ?_
      rintro _ _ ⟨rfl, rfl⟩
      show Go mX12_has _ _ _ 46 [(0, .ref 189), (1, .int (nI m)), (2, .int (nI g)), (3, .int (nI i))] [.int (valP P m i)] (SK, M, N) _
      refine g_bipush (v := 100) (pc' := 48) dX12_has_46 (by decide) rfl ?_
      refine g_iadd (pc' := 49) dX12_has_48 rfl ?_
      refine g_top (y := nI (vN P m i)) (vN_eq hok hm hlt) ?_
      have hgi := or_lt hg hlt
      refine g_aload_n (j := 0) (pc' := 50) dX12_has_49 rfl rfl ?_
      refine g_getR (pc' := 53) dX12_has_50 fX12_44 rfl rfl rfl ?_
      refine g_bipush (v := 64) (pc' := 55) dX12_has_53 (by decide) rfl ?_
      refine g_iload_n (j := 1) (pc' := 56) dX12_has_55 rfl rfl ?_
      refine g_iconst (v := 1) (pc' := 57) dX12_has_56 (by decide) rfl ?_
      refine g_iadd (pc' := 58) dX12_has_57 rfl ?_
      refine g_imul (pc' := 59) dX12_has_58 rfl ?_
      refine g_iload_n (j := 2) (pc' := 60) dX12_has_59 rfl rfl ?_
      refine g_iconst (v := 1) (pc' := 61) dX12_has_60 (by decide) rfl ?_
      refine g_iload_n (j := 3) (pc' := 62) dX12_has_61 rfl rfl ?_
      refine g_ishl (pc' := 63) dX12_has_62 rfl ?_
      refine g_ior (pc' := 64) dX12_has_63 rfl ?_
      refine g_top (y := nI (g ||| 2 ^ i)) (orbN (by omega) (by omega)) ?_
      generalize g ||| 2 ^ i = gg at hgi ⊢
      refine g_iadd (pc' := 65) dX12_has_64 rfl ?_
      refine g_iald (n := (64 * (m + 1)) + gg) (pc' := 66) dX12_has_65 rfl (nI_addE (nI_mulE rfl (nI_addE rfl rfl)) rfl) (by omega) rfl ?_
      refine g_top (y := nI (later gg)) (ht gg hgi) ?_
      refine g_iadd (pc' := 67) dX12_has_66 rfl ?_
      refine g_top (y := nI (vN P m i + later gg)) (nI_add _ _) ?_
      exact g_iret dX12_has_67 rfl rfl (⟨rfl, rfl⟩)
set_option maxRecDepth 100000 in
set_option maxHeartbeats 1000000 in
theorem r_layTable {M : Nat → Nat → Int32} {N : Nat → Nat → Int64} {n k : Nat} {P : Nat → Int32} (hok : OkP n k P) (hP : ∀ j, j < 47 → M 190 j = P j) : Run mX12_layTable 10 0 0 [.ref 189] (SK, M, N) (fun r h' => ∃ M', h' = (SK, M', N) ∧ r = none ∧ TabR M' (vN P) n k 0 ∧ ∀ a, a ≠ 201 → M' a = M a) := by
  refine Run.of (by decide) (Nat.le_of_ble_eq_true rfl) ?_
  have hn6 := hok.1
  have hk6 := hok.2.1
  have hS64 := pow64 hk6
  have hpl := @pT_le (vN P) k (fun m i => vN_le m i)
  refine g_iconst (v := 0) (pc' := 1) dX12_layTable_0 (by decide) rfl ?_
  refine g_istore_n (L' := [(0, .ref 189), (1, .int 0)]) (pc' := 2) dX12_layTable_1 (by decide) rfl rfl ?_
  have outer : ∀ (t : Nat) (M1 : Nat → Nat → Int32), t ≤ n → TabR M1 (vN P) n k t → (∀ a, a ≠ 201 → M1 a = M a) → Go mX12_layTable 10 0 0 40 [(0, .ref 189), (1, .int (nI t - 1))] [] (SK, M1, N) (fun r h' => ∃ M', h' = (SK, M', N) ∧ r = none ∧ TabR M' (vN P) n k 0 ∧ ∀ a, a ≠ 201 → M' a = M a) := by
    intro t
    induction t with
    | zero =>
      intro M1 ht hT hf
      refine g_iload_n (j := 1) (pc' := 41) dX12_layTable_40 rfl rfl ?_
      refine g_if_lt (tgt := 127) (pc' := 44) dX12_layTable_41 (by decide) rfl (fun hc => ?_) (fun hc => (absurd (by decide) hc))
      exact g_vret dX12_layTable_127 rfl (⟨M1, rfl, rfl, hT, hf⟩)
    | succ t ih =>
      intro M1 ht hT hf
      rw [nI_pred t]
      refine g_iload_n (j := 1) (pc' := 41) dX12_layTable_40 rfl rfl ?_
      refine g_if_lt (tgt := 127) (pc' := 44) dX12_layTable_41 (by decide) rfl (fun hc => (absurd hc (nI_pos (by omega)))) (fun hc => ?_)
      refine g_iconst (v := 0) (pc' := 45) dX12_layTable_44 (by decide) rfl ?_
      refine g_istore_n (L' := [(0, .ref 189), (1, .int (nI t)), (2, .int 0)]) (pc' := 46) dX12_layTable_45 (by decide) rfl rfl ?_
      have mid : ∀ (u g : Nat) (M1 : Nat → Nat → Int32), g + u = 2 ^ k → TabR M1 (vN P) n k (t + 1) → (∀ g2, g2 < g → M1 201 (64 * t + g2) = nI (tB (vN P t) (pT (vN P) k (n - (t + 1)) (t + 1)) k g2)) → (∀ a, a ≠ 201 → M1 a = M a) → Go mX12_layTable 10 0 0 46 [(0, .ref 189), (1, .int (nI t)), (2, .int (nI g))] [] (SK, M1, N) (fun r h' => ∃ M', h' = (SK, M', N) ∧ r = none ∧ TabR M' (vN P) n k 0 ∧ ∀ a, a ≠ 201 → M' a = M a) := by
        intro u
        induction u with
        | zero =>
          intro g M1 hgu hT hr hf
          have hP1 : ∀ j, j < 47 → M1 190 j = P j := fun j hj => by rw [hf 190 (by omega)]; exact hP j hj
          refine g_iload_n (j := 2) (pc' := 47) dX12_layTable_46 rfl rfl ?_
          refine g_iconst (v := 1) (pc' := 48) dX12_layTable_47 (by decide) rfl ?_
          refine g_aload_n (j := 0) (pc' := 49) dX12_layTable_48 rfl rfl ?_
          refine g_getR (pc' := 52) dX12_layTable_49 fX12_7 rfl rfl rfl ?_
          refine g_iconst (v := 1) (pc' := 53) dX12_layTable_52 (by decide) rfl ?_
          refine g_iald (n := 1) (pc' := 54) dX12_layTable_53 rfl rfl (by omega) rfl ?_
          refine g_top (y := nI k) ((hP1 1 (by omega)).trans hok.2.2.2.1) ?_
          refine g_ishl (pc' := 55) dX12_layTable_54 rfl ?_
          refine g_top (y := nI (2 ^ k)) (shl1 hk6) ?_
          refine g_icmp_ge (tgt := 121) (pc' := 58) dX12_layTable_55 (by decide) rfl (fun hc => ?_) (fun hc => (absurd (nI_le (a := 2 ^ k) (b := g) (by omega) (by omega)) hc))
          refine g_less (L' := [(0, .ref 189), (1, .int (nI t))]) [0, 1] rfl ?_
          refine g_iinc (j := 1) (v := nI t - 1) (L' := [(0, .ref 189), (1, .int (nI t - 1))]) (pc' := 124) dX12_layTable_121 rfl (by rw [Int32.sub_eq_add_neg]; rfl) (by decide) rfl rfl ?_
          refine g_goto (tgt := 40) dX12_layTable_124 (by decide) ?_
          refine ih M1 (by omega) (fun m h1 h2 g3 h3 => ?_) hf
          by_cases e : m = t
          · subst e; rw [hr g3 (by omega), show n - m = (n - (m + 1)) + 1 by omega]; rfl
          · exact hT m (by omega) h2 g3 h3
        | succ u ih2 =>
          intro g M1 hgu hT hr hf
          have hP1 : ∀ j, j < 47 → M1 190 j = P j := fun j hj => by rw [hf 190 (by omega)]; exact hP j hj
          refine g_iload_n (j := 2) (pc' := 47) dX12_layTable_46 rfl rfl ?_
          refine g_iconst (v := 1) (pc' := 48) dX12_layTable_47 (by decide) rfl ?_
          refine g_aload_n (j := 0) (pc' := 49) dX12_layTable_48 rfl rfl ?_
          refine g_getR (pc' := 52) dX12_layTable_49 fX12_7 rfl rfl rfl ?_
          refine g_iconst (v := 1) (pc' := 53) dX12_layTable_52 (by decide) rfl ?_
          refine g_iald (n := 1) (pc' := 54) dX12_layTable_53 rfl rfl (by omega) rfl ?_
          refine g_top (y := nI k) ((hP1 1 (by omega)).trans hok.2.2.2.1) ?_
          refine g_ishl (pc' := 55) dX12_layTable_54 rfl ?_
          refine g_top (y := nI (2 ^ k)) (shl1 hk6) ?_
          refine g_icmp_ge (tgt := 121) (pc' := 58) dX12_layTable_55 (by decide) rfl (fun hc => (absurd hc (nI_ge (a := g) (b := 2 ^ k) (by omega) (by omega)))) (fun hc => ?_)
          have hg : g < 2 ^ k := by omega
          have htl : ∀ g3, g3 < 2 ^ k → M1 201 (64 * (t + 1) + g3) = nI ((pT (vN P) k (n - (t + 1)) (t + 1)) g3) := fun g3 h3 => hT (t + 1) (by omega) (by omega) g3 h3
          have hlb : ∀ g3, (pT (vN P) k (n - (t + 1)) (t + 1)) g3 ≤ 149 * (n - (t + 1)) := fun g3 => hpl _ _ g3
          have htb : ∀ i g3, tB (vN P t) (pT (vN P) k (n - (t + 1)) (t + 1)) i g3 ≤ 149 * (n - (t + 1)) + 149 := fun i g3 => tB_le hlb (fun i => vN_le t i) i g3
          have hnx : ∀ M2 : Nat → Nat → Int32, M2 = um M1 201 (64 * t + g) (nI (tB (vN P t) (pT (vN P) k (n - (t + 1)) (t + 1)) k g)) → Go mX12_layTable 10 0 0 46 [(0, .ref 189), (1, .int (nI t)), (2, .int (nI (g + 1)))] [] (SK, M2, N) (fun r h' => ∃ M', h' = (SK, M', N) ∧ r = none ∧ TabR M' (vN P) n k 0 ∧ ∀ a, a ≠ 201 → M' a = M a) := by
            intro M2 e2
            refine ih2 (g + 1) M2 (by omega) (fun m h1 h2 g3 h3 => ?_) (fun g3 h3 => ?_) (fun a ha => by rw [e2, um_ne ha]; exact hf a ha)
            · rw [e2, um_at2 (by omega)]; exact hT m h1 h2 g3 h3
            · rw [e2]
              by_cases e : g3 = g
              · subst e; exact um_at
              · rw [um_at2 (by omega)]; exact hr g3 (by omega)
          generalize (pT (vN P) k (n - (t + 1)) (t + 1)) = later at htl hlb htb hnx
          refine g_iconst (v := 0) (pc' := 59) dX12_layTable_58 (by decide) rfl ?_
          refine g_istore_n (L' := [(0, .ref 189), (1, .int (nI t)), (2, .int (nI g)), (3, .int 0)]) (pc' := 60) dX12_layTable_59 (by decide) rfl rfl ?_
          refine g_iconst (v := 0) (pc' := 61) dX12_layTable_60 (by decide) rfl ?_
          refine g_istore (L' := [(0, .ref 189), (1, .int (nI t)), (2, .int (nI g)), (3, .int 0), (4, .int 0)]) (pc' := 63) dX12_layTable_61 (by decide) rfl rfl ?_
          have inner : ∀ (u2 i : Nat), i + u2 = k → Go mX12_layTable 10 0 0 63 [(0, .ref 189), (1, .int (nI t)), (2, .int (nI g)), (3, .int (nI (hB (vN P t) later i g))), (4, .int (nI i))] [] (SK, M1, N) (fun r h' => ∃ M', h' = (SK, M', N) ∧ r = none ∧ TabR M' (vN P) n k 0 ∧ ∀ a, a ≠ 201 → M' a = M a) := by
            intro u2
            induction u2 with
            | zero =>
              intro i hi
              have hh1 := htb i g
              have hh2 := hB_le (v := vN P t) (later := later) i g
              refine g_iload (j := 4) (pc' := 65) dX12_layTable_63 rfl rfl ?_
              refine g_aload_n (j := 0) (pc' := 66) dX12_layTable_65 rfl rfl ?_
              refine g_getR (pc' := 69) dX12_layTable_66 fX12_7 rfl rfl rfl ?_
              refine g_iconst (v := 1) (pc' := 70) dX12_layTable_69 (by decide) rfl ?_
              refine g_iald (n := 1) (pc' := 71) dX12_layTable_70 rfl rfl (by omega) rfl ?_
              refine g_top (y := nI k) ((hP1 1 (by omega)).trans hok.2.2.2.1) ?_
              refine g_icmp_gt (tgt := 103) (pc' := 74) dX12_layTable_71 (by decide) rfl (fun hc => (absurd hc (nI_nlt (by omega) (by omega)))) (fun hc => ?_)
              refine g_aload_n (j := 0) (pc' := 75) dX12_layTable_74 rfl rfl ?_
              refine g_iload_n (j := 1) (pc' := 76) dX12_layTable_75 rfl rfl ?_
              refine g_iload_n (j := 2) (pc' := 77) dX12_layTable_76 rfl rfl ?_
              refine g_iload (j := 4) (pc' := 79) dX12_layTable_77 rfl rfl ?_
              refine g_callV (my := mX12_has) (k := 189) (st := []) (av := [.int (nI t), .int (nI g), .int (nI i)]) (mcr := 0) (msr := 0) (mc := 0) (ms := 0) (pc' := 82) dX12_layTable_79 kX12_has wX12_194 rfl ⟨rfl, rfl⟩ rfl (Nat.le_of_ble_eq_true rfl) (by decide) (r_has hok hP1 (by omega) hg htl (i := i) (by omega)) rfl ?_
              rintro _ _ ⟨rfl, rfl⟩
              show Go mX12_layTable _ _ _ 82 [(0, .ref 189), (1, .int (nI t)), (2, .int (nI g)), (3, .int (nI (hB (vN P t) later i g))), (4, .int (nI i))] [.int (hasI (vN P t) later k g i)] (SK, M1, N) _
              refine g_top (y := nI (later g)) (if_pos (by omega)) ?_
              have hlg := hlb g
              refine g_istore (L' := [(0, .ref 189), (1, .int (nI t)), (2, .int (nI g)), (3, .int (nI (hB (vN P t) later i g))), (4, .int (nI i)), (5, .int (nI (later g)))]) (pc' := 84) dX12_layTable_82 (by decide) rfl rfl ?_
              refine g_iload (j := 5) (pc' := 86) dX12_layTable_84 rfl rfl ?_
              refine g_iload_n (j := 3) (pc' := 87) dX12_layTable_86 rfl rfl ?_
              refine g_icmp_le (tgt := 95) (pc' := 90) dX12_layTable_87 (by decide) rfl (fun hc5 => ?_) (fun hc5 => ?_)
              · have hle : later g ≤ hB (vN P t) later i g := (nI_leI (by omega) (by omega)).mp hc5
                refine g_iload_n (j := 3) (pc' := 96) dX12_layTable_95 rfl rfl ?_
                refine g_istore_n (L' := [(0, .ref 189), (1, .int (nI t)), (2, .int (nI g)), (3, .int (nI (hB (vN P t) later i g))), (4, .int (nI i)), (5, .int (nI (later g)))]) (pc' := 97) dX12_layTable_96 (by decide) rfl rfl ?_
                refine g_iinc (j := 4) (v := nI (i + 1)) (L' := [(0, .ref 189), (1, .int (nI t)), (2, .int (nI g)), (3, .int (nI (hB (vN P t) later i g))), (4, .int (nI (i + 1))), (5, .int (nI (later g)))]) (pc' := 100) dX12_layTable_97 rfl (nI_1 i) (by decide) rfl rfl ?_
                refine g_less (L' := [(0, .ref 189), (1, .int (nI t)), (2, .int (nI g)), (3, .int (nI (hB (vN P t) later i g))), (4, .int (nI (i + 1)))]) [0, 1, 2, 3, 4] rfl ?_
                refine g_goto (tgt := 63) dX12_layTable_100 (by decide) ?_
                refine g_iload (j := 4) (pc' := 65) dX12_layTable_63 rfl rfl ?_
                refine g_aload_n (j := 0) (pc' := 66) dX12_layTable_65 rfl rfl ?_
                refine g_getR (pc' := 69) dX12_layTable_66 fX12_7 rfl rfl rfl ?_
                refine g_iconst (v := 1) (pc' := 70) dX12_layTable_69 (by decide) rfl ?_
                refine g_iald (n := 1) (pc' := 71) dX12_layTable_70 rfl rfl (by omega) rfl ?_
                refine g_top (y := nI k) ((hP1 1 (by omega)).trans hok.2.2.2.1) ?_
                refine g_icmp_gt (tgt := 103) (pc' := 74) dX12_layTable_71 (by decide) rfl (fun hc => ?_) (fun hc => (absurd (nI_lt (a := k) (b := i + 1) (by omega) (by omega)) hc))
                refine g_less (L' := [(0, .ref 189), (1, .int (nI t)), (2, .int (nI g)), (3, .int (nI (hB (vN P t) later i g)))]) [0, 1, 2, 3] rfl ?_
                refine g_aload_n (j := 0) (pc' := 104) dX12_layTable_103 rfl rfl ?_
                refine g_getR (pc' := 107) dX12_layTable_104 fX12_44 rfl rfl rfl ?_
                refine g_bipush (v := 64) (pc' := 109) dX12_layTable_107 (by decide) rfl ?_
                refine g_iload_n (j := 1) (pc' := 110) dX12_layTable_109 rfl rfl ?_
                refine g_imul (pc' := 111) dX12_layTable_110 rfl ?_
                refine g_iload_n (j := 2) (pc' := 112) dX12_layTable_111 rfl rfl ?_
                refine g_iadd (pc' := 113) dX12_layTable_112 rfl ?_
                refine g_iload_n (j := 3) (pc' := 114) dX12_layTable_113 rfl rfl ?_
                refine g_iast (n := (64 * t) + g) (pc' := 115) dX12_layTable_114 rfl (nI_addE (nI_mulE rfl rfl) rfl) (by omega) rfl ?_
                generalize hM2 : (um M1 201 ((64 * t) + g) (nI (hB (vN P t) later i g))) = M2
                refine g_less (L' := [(0, .ref 189), (1, .int (nI t)), (2, .int (nI g))]) [0, 1, 2] rfl ?_
                refine g_iinc (j := 2) (v := nI (g + 1)) (L' := [(0, .ref 189), (1, .int (nI t)), (2, .int (nI (g + 1)))]) (pc' := 118) dX12_layTable_115 rfl (nI_1 g) (by decide) rfl rfl ?_
                refine g_goto (tgt := 46) dX12_layTable_118 (by decide) ?_
                refine hnx M2 ?_
                obtain rfl : i = k := by omega
                rw [← hM2, ← hB_tB, Nat.max_eq_left (by omega)]
              · have hle : hB (vN P t) later i g < later g := Nat.lt_of_not_le (fun q => hc5 ((nI_leI (by omega) (by omega)).mpr q))
                refine g_iload (j := 5) (pc' := 92) dX12_layTable_90 rfl rfl ?_
                refine g_goto (tgt := 96) dX12_layTable_92 (by decide) ?_
                refine g_istore_n (L' := [(0, .ref 189), (1, .int (nI t)), (2, .int (nI g)), (3, .int (nI (later g))), (4, .int (nI i)), (5, .int (nI (later g)))]) (pc' := 97) dX12_layTable_96 (by decide) rfl rfl ?_
                refine g_iinc (j := 4) (v := nI (i + 1)) (L' := [(0, .ref 189), (1, .int (nI t)), (2, .int (nI g)), (3, .int (nI (later g))), (4, .int (nI (i + 1))), (5, .int (nI (later g)))]) (pc' := 100) dX12_layTable_97 rfl (nI_1 i) (by decide) rfl rfl ?_
                refine g_less (L' := [(0, .ref 189), (1, .int (nI t)), (2, .int (nI g)), (3, .int (nI (later g))), (4, .int (nI (i + 1)))]) [0, 1, 2, 3, 4] rfl ?_
                refine g_goto (tgt := 63) dX12_layTable_100 (by decide) ?_
                refine g_iload (j := 4) (pc' := 65) dX12_layTable_63 rfl rfl ?_
                refine g_aload_n (j := 0) (pc' := 66) dX12_layTable_65 rfl rfl ?_
                refine g_getR (pc' := 69) dX12_layTable_66 fX12_7 rfl rfl rfl ?_
                refine g_iconst (v := 1) (pc' := 70) dX12_layTable_69 (by decide) rfl ?_
                refine g_iald (n := 1) (pc' := 71) dX12_layTable_70 rfl rfl (by omega) rfl ?_
                refine g_top (y := nI k) ((hP1 1 (by omega)).trans hok.2.2.2.1) ?_
                refine g_icmp_gt (tgt := 103) (pc' := 74) dX12_layTable_71 (by decide) rfl (fun hc => ?_) (fun hc => (absurd (nI_lt (a := k) (b := i + 1) (by omega) (by omega)) hc))
                refine g_less (L' := [(0, .ref 189), (1, .int (nI t)), (2, .int (nI g)), (3, .int (nI (later g)))]) [0, 1, 2, 3] rfl ?_
                refine g_aload_n (j := 0) (pc' := 104) dX12_layTable_103 rfl rfl ?_
                refine g_getR (pc' := 107) dX12_layTable_104 fX12_44 rfl rfl rfl ?_
                refine g_bipush (v := 64) (pc' := 109) dX12_layTable_107 (by decide) rfl ?_
                refine g_iload_n (j := 1) (pc' := 110) dX12_layTable_109 rfl rfl ?_
                refine g_imul (pc' := 111) dX12_layTable_110 rfl ?_
                refine g_iload_n (j := 2) (pc' := 112) dX12_layTable_111 rfl rfl ?_
                refine g_iadd (pc' := 113) dX12_layTable_112 rfl ?_
                refine g_iload_n (j := 3) (pc' := 114) dX12_layTable_113 rfl rfl ?_
                refine g_iast (n := (64 * t) + g) (pc' := 115) dX12_layTable_114 rfl (nI_addE (nI_mulE rfl rfl) rfl) (by omega) rfl ?_
                generalize hM2 : (um M1 201 ((64 * t) + g) (nI (later g))) = M2
                refine g_less (L' := [(0, .ref 189), (1, .int (nI t)), (2, .int (nI g))]) [0, 1, 2] rfl ?_
                refine g_iinc (j := 2) (v := nI (g + 1)) (L' := [(0, .ref 189), (1, .int (nI t)), (2, .int (nI (g + 1)))]) (pc' := 118) dX12_layTable_115 rfl (nI_1 g) (by decide) rfl rfl ?_
                refine g_goto (tgt := 46) dX12_layTable_118 (by decide) ?_
                refine hnx M2 ?_
                obtain rfl : i = k := by omega
                rw [← hM2, ← hB_tB, Nat.max_eq_right (by omega)]
            | succ u2 ih3 =>
              intro i hi
              have hh1 := htb i g
              have hh2 := hB_le (v := vN P t) (later := later) i g
              refine g_iload (j := 4) (pc' := 65) dX12_layTable_63 rfl rfl ?_
              refine g_aload_n (j := 0) (pc' := 66) dX12_layTable_65 rfl rfl ?_
              refine g_getR (pc' := 69) dX12_layTable_66 fX12_7 rfl rfl rfl ?_
              refine g_iconst (v := 1) (pc' := 70) dX12_layTable_69 (by decide) rfl ?_
              refine g_iald (n := 1) (pc' := 71) dX12_layTable_70 rfl rfl (by omega) rfl ?_
              refine g_top (y := nI k) ((hP1 1 (by omega)).trans hok.2.2.2.1) ?_
              refine g_icmp_gt (tgt := 103) (pc' := 74) dX12_layTable_71 (by decide) rfl (fun hc => (absurd hc (nI_nlt (by omega) (by omega)))) (fun hc => ?_)
              have h9 := ih3 (i + 1) (by omega)
              refine g_aload_n (j := 0) (pc' := 75) dX12_layTable_74 rfl rfl ?_
              refine g_iload_n (j := 1) (pc' := 76) dX12_layTable_75 rfl rfl ?_
              refine g_iload_n (j := 2) (pc' := 77) dX12_layTable_76 rfl rfl ?_
              refine g_iload (j := 4) (pc' := 79) dX12_layTable_77 rfl rfl ?_
              refine g_callV (my := mX12_has) (k := 189) (st := []) (av := [.int (nI t), .int (nI g), .int (nI i)]) (mcr := 0) (msr := 0) (mc := 0) (ms := 0) (pc' := 82) dX12_layTable_79 kX12_has wX12_194 rfl ⟨rfl, rfl⟩ rfl (Nat.le_of_ble_eq_true rfl) (by decide) (r_has hok hP1 (by omega) hg htl (i := i) (by omega)) rfl ?_
              rintro _ _ ⟨rfl, rfl⟩
              show Go mX12_layTable _ _ _ 82 [(0, .ref 189), (1, .int (nI t)), (2, .int (nI g)), (3, .int (nI (hB (vN P t) later i g))), (4, .int (nI i))] [.int (hasI (vN P t) later k g i)] (SK, M1, N) _
              cases hb : Nat.testBit g i with
              | true =>
                rw [show hB (vN P t) later (i + 1) g = hB (vN P t) later i g from if_pos hb] at h9
                refine g_top (y := (-1)) (by unfold hasI; rw [if_neg (by omega), if_pos hb]) ?_
                refine g_istore (L' := [(0, .ref 189), (1, .int (nI t)), (2, .int (nI g)), (3, .int (nI (hB (vN P t) later i g))), (4, .int (nI i)), (5, .int (-1))]) (pc' := 84) dX12_layTable_82 (by decide) rfl rfl ?_
                refine g_iload (j := 5) (pc' := 86) dX12_layTable_84 rfl rfl ?_
                refine g_iload_n (j := 3) (pc' := 87) dX12_layTable_86 rfl rfl ?_
                refine g_icmp_le (tgt := 95) (pc' := 90) dX12_layTable_87 (by decide) rfl (fun hc => ?_) (fun hc => (absurd (m1_le (by omega)) hc))
                refine g_iload_n (j := 3) (pc' := 96) dX12_layTable_95 rfl rfl ?_
                refine g_istore_n (L' := [(0, .ref 189), (1, .int (nI t)), (2, .int (nI g)), (3, .int (nI (hB (vN P t) later i g))), (4, .int (nI i)), (5, .int (-1))]) (pc' := 97) dX12_layTable_96 (by decide) rfl rfl ?_
                refine g_iinc (j := 4) (v := nI (i + 1)) (L' := [(0, .ref 189), (1, .int (nI t)), (2, .int (nI g)), (3, .int (nI (hB (vN P t) later i g))), (4, .int (nI (i + 1))), (5, .int (-1))]) (pc' := 100) dX12_layTable_97 rfl (nI_1 i) (by decide) rfl rfl ?_
                refine g_less (L' := [(0, .ref 189), (1, .int (nI t)), (2, .int (nI g)), (3, .int (nI (hB (vN P t) later i g))), (4, .int (nI (i + 1)))]) [0, 1, 2, 3, 4] rfl ?_
                refine g_goto (tgt := 63) dX12_layTable_100 (by decide) ?_
                exact h9
              | false =>
                have hvl := vN_le (P := P) t i
                have hll := hlb (g ||| 2 ^ i)
                rw [show hB (vN P t) later (i + 1) g = max (hB (vN P t) later i g) (vN P t i + later (g ||| 2 ^ i)) from if_neg (by rw [hb]; decide)] at h9
                refine g_top (y := nI (vN P t i + later (g ||| 2 ^ i))) (by unfold hasI; rw [if_neg (by omega), if_neg (by rw [hb]; decide)]) ?_
                generalize later (g ||| 2 ^ i) = lx at h9 hll ⊢
                refine g_istore (L' := [(0, .ref 189), (1, .int (nI t)), (2, .int (nI g)), (3, .int (nI (hB (vN P t) later i g))), (4, .int (nI i)), (5, .int (nI (vN P t i + lx)))]) (pc' := 84) dX12_layTable_82 (by decide) rfl rfl ?_
                refine g_iload (j := 5) (pc' := 86) dX12_layTable_84 rfl rfl ?_
                refine g_iload_n (j := 3) (pc' := 87) dX12_layTable_86 rfl rfl ?_
                refine g_icmp_le (tgt := 95) (pc' := 90) dX12_layTable_87 (by decide) rfl (fun hc5 => ?_) (fun hc5 => ?_)
                · rw [Nat.max_eq_left ((nI_leI (by omega) (by omega)).mp hc5)] at h9
                  refine g_iload_n (j := 3) (pc' := 96) dX12_layTable_95 rfl rfl ?_
                  refine g_istore_n (L' := [(0, .ref 189), (1, .int (nI t)), (2, .int (nI g)), (3, .int (nI (hB (vN P t) later i g))), (4, .int (nI i)), (5, .int (nI (vN P t i + lx)))]) (pc' := 97) dX12_layTable_96 (by decide) rfl rfl ?_
                  refine g_iinc (j := 4) (v := nI (i + 1)) (L' := [(0, .ref 189), (1, .int (nI t)), (2, .int (nI g)), (3, .int (nI (hB (vN P t) later i g))), (4, .int (nI (i + 1))), (5, .int (nI (vN P t i + lx)))]) (pc' := 100) dX12_layTable_97 rfl (nI_1 i) (by decide) rfl rfl ?_
                  refine g_less (L' := [(0, .ref 189), (1, .int (nI t)), (2, .int (nI g)), (3, .int (nI (hB (vN P t) later i g))), (4, .int (nI (i + 1)))]) [0, 1, 2, 3, 4] rfl ?_
                  refine g_goto (tgt := 63) dX12_layTable_100 (by decide) ?_
                  exact h9
                · rw [Nat.max_eq_right (Nat.le_of_lt (Nat.lt_of_not_le (fun q => hc5 ((nI_leI (by omega) (by omega)).mpr q))))] at h9
                  refine g_iload (j := 5) (pc' := 92) dX12_layTable_90 rfl rfl ?_
                  refine g_goto (tgt := 96) dX12_layTable_92 (by decide) ?_
                  refine g_istore_n (L' := [(0, .ref 189), (1, .int (nI t)), (2, .int (nI g)), (3, .int (nI (vN P t i + lx))), (4, .int (nI i)), (5, .int (nI (vN P t i + lx)))]) (pc' := 97) dX12_layTable_96 (by decide) rfl rfl ?_
                  refine g_iinc (j := 4) (v := nI (i + 1)) (L' := [(0, .ref 189), (1, .int (nI t)), (2, .int (nI g)), (3, .int (nI (vN P t i + lx))), (4, .int (nI (i + 1))), (5, .int (nI (vN P t i + lx)))]) (pc' := 100) dX12_layTable_97 rfl (nI_1 i) (by decide) rfl rfl ?_
                  refine g_less (L' := [(0, .ref 189), (1, .int (nI t)), (2, .int (nI g)), (3, .int (nI (vN P t i + lx))), (4, .int (nI (i + 1)))]) [0, 1, 2, 3, 4] rfl ?_
                  refine g_goto (tgt := 63) dX12_layTable_100 (by decide) ?_
                  exact h9
          exact inner k 0 (by omega)
      exact mid (2 ^ k) 0 M1 (by omega) hT (fun g h => absurd h (Nat.not_lt_zero _)) hf
  have first : ∀ (u j : Nat) (M1 : Nat → Nat → Int32), j + u = 64 → (∀ g, g < j → M1 201 (64 * n + g) = 0) → (∀ a, a ≠ 201 → M1 a = M a) → Go mX12_layTable 10 0 0 2 [(0, .ref 189), (1, .int (nI j))] [] (SK, M1, N) (fun r h' => ∃ M', h' = (SK, M', N) ∧ r = none ∧ TabR M' (vN P) n k 0 ∧ ∀ a, a ≠ 201 → M' a = M a) := by
    intro u
    induction u with
    | zero =>
      intro j M1 hj hr hf
      have hP1 : ∀ j, j < 47 → M1 190 j = P j := fun j hj => by rw [hf 190 (by omega)]; exact hP j hj
      refine g_iload_n (j := 1) (pc' := 3) dX12_layTable_2 rfl rfl ?_
      refine g_bipush (v := 64) (pc' := 5) dX12_layTable_3 (by decide) rfl ?_
      refine g_icmp_ge (tgt := 31) (pc' := 8) dX12_layTable_5 (by decide) rfl (fun hc => ?_) (fun hc => (absurd (nI_le (a := 64) (b := j) (by omega) (by omega)) hc))
      refine g_aload_n (j := 0) (pc' := 32) dX12_layTable_31 rfl rfl ?_
      refine g_getR (pc' := 35) dX12_layTable_32 fX12_7 rfl rfl rfl ?_
      refine g_iconst (v := 0) (pc' := 36) dX12_layTable_35 (by decide) rfl ?_
      refine g_iald (n := 0) (pc' := 37) dX12_layTable_36 rfl rfl (by omega) rfl ?_
      refine g_top (y := nI n) ((hP1 0 (by omega)).trans hok.2.2.1) ?_
      refine g_iconst (v := 1) (pc' := 38) dX12_layTable_37 (by decide) rfl ?_
      refine g_isub (pc' := 39) dX12_layTable_38 rfl ?_
      refine g_istore_n (L' := [(0, .ref 189), (1, .int ((nI n) - 1))]) (pc' := 40) dX12_layTable_39 (by decide) rfl rfl ?_
      refine outer n M1 (Nat.le_refl _) (fun m h1 h2 g3 h3 => ?_) hf
      obtain rfl : m = n := by omega
      rw [hr g3 (by omega), Nat.sub_self]; rfl
    | succ u ih =>
      intro j M1 hj hr hf
      have hP1 : ∀ j, j < 47 → M1 190 j = P j := fun j hj => by rw [hf 190 (by omega)]; exact hP j hj
      refine g_iload_n (j := 1) (pc' := 3) dX12_layTable_2 rfl rfl ?_
      refine g_bipush (v := 64) (pc' := 5) dX12_layTable_3 (by decide) rfl ?_
      refine g_icmp_ge (tgt := 31) (pc' := 8) dX12_layTable_5 (by decide) rfl (fun hc => (absurd hc (nI_ge (a := j) (b := 64) (by omega) (by omega)))) (fun hc => ?_)
      refine g_aload_n (j := 0) (pc' := 9) dX12_layTable_8 rfl rfl ?_
      refine g_getR (pc' := 12) dX12_layTable_9 fX12_44 rfl rfl rfl ?_
      refine g_bipush (v := 64) (pc' := 14) dX12_layTable_12 (by decide) rfl ?_
      refine g_aload_n (j := 0) (pc' := 15) dX12_layTable_14 rfl rfl ?_
      refine g_getR (pc' := 18) dX12_layTable_15 fX12_7 rfl rfl rfl ?_
      refine g_iconst (v := 0) (pc' := 19) dX12_layTable_18 (by decide) rfl ?_
      refine g_iald (n := 0) (pc' := 20) dX12_layTable_19 rfl rfl (by omega) rfl ?_
      refine g_top (y := nI n) ((hP1 0 (by omega)).trans hok.2.2.1) ?_
      refine g_imul (pc' := 21) dX12_layTable_20 rfl ?_
      refine g_iload_n (j := 1) (pc' := 22) dX12_layTable_21 rfl rfl ?_
      refine g_iadd (pc' := 23) dX12_layTable_22 rfl ?_
      refine g_iconst (v := 0) (pc' := 24) dX12_layTable_23 (by decide) rfl ?_
      refine g_iast (n := (64 * n) + j) (pc' := 25) dX12_layTable_24 rfl (nI_addE (nI_mulE rfl rfl) rfl) (by omega) rfl ?_
      generalize hM2 : (um M1 201 ((64 * n) + j) 0) = M2
      refine g_iinc (j := 1) (v := nI (j + 1)) (L' := [(0, .ref 189), (1, .int (nI (j + 1)))]) (pc' := 28) dX12_layTable_25 rfl (nI_1 j) (by decide) rfl rfl ?_
      refine g_goto (tgt := 2) dX12_layTable_28 (by decide) ?_
      refine ih (j + 1) M2 (by omega) (fun g hg => ?_) (fun a ha => by rw [← hM2, um_ne ha]; exact hf a ha)
      rw [← hM2]
      by_cases e : g = j
      · subst e; exact um_at
      · rw [um_at2 (by omega)]; exact hr g (by omega)
  exact first 64 0 M (by omega) (fun g h => absurd h (Nat.not_lt_zero _)) (fun _ _ => rfl)
set_option maxRecDepth 100000 in
set_option maxHeartbeats 1000000 in
theorem r_parting_b {M : Nat → Nat → Int32} {N : Nat → Nat → Int64} {n k : Nat} {P : Nat → Int32} {pa : List (Nat → Int32)} {kp : Option YS} {tp : List Int32} {sh : Nat → Option (Nat × Nat × (Nat → Int64))} (hA : AOk ((n, k, P, pa), kp, tp, sh)) (hI : RI M N ((n, k, P, pa), kp, tp, sh)) {v : Int32} (h0 : v ≠ -4) (h1 : ∀ m, m < n → v ≠ nI m) : Run mX12_parting 30 0 0 [.ref 189, .int v] (SK, M, N) (RQ M N (-1) ((n, k, P, pa), kp, tp, sh)) := by
  refine Run.of (by decide) (Nat.le_of_ble_eq_true rfl) ?_
  have hok : OkP n k P := hA.1.1.1
  have hP : ∀ j, j < 47 → M 190 j = P j := hI.1.1
  have hn6 := hok.1
  have hk6 := hok.2.1
  have hn : M 190 0 = nI n := (hP 0 (by omega)).trans hok.2.2.1
  have hk : M 190 1 = nI k := (hP 1 (by omega)).trans hok.2.2.2.1
  refine g_iload_n (j := 1) (pc' := 1) dX12_parting_0 rfl rfl ?_
  refine g_bipush (v := (-4)) (pc' := 3) dX12_parting_1 (by decide) rfl ?_
  refine g_icmp_eq (tgt := 16) (pc' := 6) dX12_parting_3 (by decide) rfl (fun hc => (absurd hc h0)) (fun hc => ?_)
  refine g_aload_n (j := 0) (pc' := 7) dX12_parting_6 rfl rfl ?_
  refine g_iload_n (j := 1) (pc' := 8) dX12_parting_7 rfl rfl ?_
  refine g_callV (my := mX12_isMan) (k := 189) (st := []) (av := [.int v]) (mcr := 0) (msr := 0) (mc := 0) (ms := 0) (pc' := 11) dX12_parting_8 kX12_isMan wX12_84 rfl ⟨rfl, rfl⟩ rfl (Nat.le_of_ble_eq_true rfl) (by decide) (s_isMan0 hn hn6 (h1)) rfl ?_
  rintro _ _ ⟨rfl, rfl⟩
  show Go mX12_parting _ _ _ 11 [(0, .ref 189), (1, .int v)] [.int 0] (SK, M, N) _
  refine g_if_ne (tgt := 16) (pc' := 14) dX12_parting_11 (by decide) rfl (fun hc => absurd rfl hc) (fun _ => ?_)
  refine g_iconst (v := (-1)) (pc' := 15) dX12_parting_14 (by decide) rfl ?_
  exact g_iret dX12_parting_15 rfl rfl (RQ.same hI)
set_option maxRecDepth 100000 in
set_option maxHeartbeats 1000000 in
theorem r_parting_n {M : Nat → Nat → Int32} {N : Nat → Nat → Int64} {n k : Nat} {P : Nat → Int32} {pa : List (Nat → Int32)} {kp : Option YS} {tp : List Int32} {sh : Nat → Option (Nat × Nat × (Nat → Int64))} (hA : AOk ((n, k, P, pa), kp, tp, sh)) (hI : RI M N ((n, k, P, pa), kp, tp, sh))  : Run mX12_parting 30 0 0 [.ref 189, .int (-4)] (SK, M, N) (RQ M N (nI (pT (vN P) k n 0 0)) ((n, k, P, pa), kp, tp, sh)) := by
  refine Run.of (by decide) (Nat.le_of_ble_eq_true rfl) ?_
  have hok : OkP n k P := hA.1.1.1
  have hP : ∀ j, j < 47 → M 190 j = P j := hI.1.1
  have hn6 := hok.1
  have hk6 := hok.2.1
  have hn : M 190 0 = nI n := (hP 0 (by omega)).trans hok.2.2.1
  have hk : M 190 1 = nI k := (hP 1 (by omega)).trans hok.2.2.2.1
  have hT0 := Nat.pow_pos (n := k) (show 0 < 2 by omega)
  refine g_iload_n (j := 1) (pc' := 1) dX12_parting_0 rfl rfl ?_
  refine g_bipush (v := (-4)) (pc' := 3) dX12_parting_1 (by decide) rfl ?_
  refine g_icmp_eq (tgt := 16) (pc' := 6) dX12_parting_3 (by decide) rfl (fun hc => ?_) (fun hc => (absurd rfl hc))
  refine g_aload_n (j := 0) (pc' := 17) dX12_parting_16 rfl rfl ?_
  refine g_callV (my := mX12_layTable) (k := 189) (st := []) (av := []) (mcr := 0) (msr := 0) (mc := 0) (ms := 0) (pc' := 20) dX12_parting_17 kX12_layTable wX12_198 rfl ⟨rfl, rfl⟩ rfl (Nat.le_of_ble_eq_true rfl) (by decide) (r_layTable hok hP) rfl ?_
  rintro _ _ ⟨M1, rfl, rfl, hT, hf1⟩
  show Go mX12_parting _ _ _ 20 [(0, .ref 189), (1, .int (-4))] [] (SK, M1, N) _
  refine g_iload_n (j := 1) (pc' := 21) dX12_parting_20 rfl rfl ?_
  refine g_bipush (v := (-4)) (pc' := 23) dX12_parting_21 (by decide) rfl ?_
  refine g_icmp_ne (tgt := 33) (pc' := 26) dX12_parting_23 (by decide) rfl (fun hc => (absurd rfl hc)) (fun hc => ?_)
  refine g_aload_n (j := 0) (pc' := 27) dX12_parting_26 rfl rfl ?_
  refine g_getR (pc' := 30) dX12_parting_27 fX12_44 rfl rfl rfl ?_
  refine g_iconst (v := 0) (pc' := 31) dX12_parting_30 (by decide) rfl ?_
  refine g_iald (n := 0) (pc' := 32) dX12_parting_31 rfl rfl (by omega) rfl ?_
  refine g_top (y := nI (pT (vN P) k n 0 0)) (hT 0 (by omega) (by omega) 0 hT0) ?_
  exact g_iret dX12_parting_32 rfl rfl (RQ.tmp hI (fun a ta => by unfold tmpR at ta; exact hf1 a (by omega)))
def nmK (k : Nat) : Option Nat → Nat
  | none => k
  | some i => i
set_option maxRecDepth 100000 in
set_option maxHeartbeats 1000000 in
theorem r_parting {M : Nat → Nat → Int32} {N : Nat → Nat → Int64} {n k : Nat} {P : Nat → Int32} {pa : List (Nat → Int32)} {kp : Option YS} {tp : List Int32} {sh : Nat → Option (Nat × Nat × (Nat → Int64))} (hA : AOk ((n, k, P, pa), kp, tp, sh)) (hI : RI M N ((n, k, P, pa), kp, tp, sh)) {m : Nat} (hm : m < n) : Run mX12_parting 30 0 0 [.ref 189, .int (nI m)] (SK, M, N) (RQ M N (optI (-4) (pgF (vN P) n k (m + 1)).2) ((n, k, P, pa), kp, tp, sh)) := by
  refine Run.of (by decide) (Nat.le_of_ble_eq_true rfl) ?_
  have hok : OkP n k P := hA.1.1.1
  have hP : ∀ j, j < 47 → M 190 j = P j := hI.1.1
  have hn6 := hok.1
  have hk6 := hok.2.1
  have hn : M 190 0 = nI n := (hP 0 (by omega)).trans hok.2.2.1
  have hk : M 190 1 = nI k := (hP 1 (by omega)).trans hok.2.2.2.1
  have hS64 := pow64 hk6
  refine g_iload_n (j := 1) (pc' := 1) dX12_parting_0 rfl rfl ?_
  refine g_bipush (v := (-4)) (pc' := 3) dX12_parting_1 (by decide) rfl ?_
  refine g_icmp_eq (tgt := 16) (pc' := 6) dX12_parting_3 (by decide) rfl (fun hc => (absurd hc (nI_ne_m4 (by omega)))) (fun hc => ?_)
  refine g_aload_n (j := 0) (pc' := 7) dX12_parting_6 rfl rfl ?_
  refine g_iload_n (j := 1) (pc' := 8) dX12_parting_7 rfl rfl ?_
  refine g_callV (my := mX12_isMan) (k := 189) (st := []) (av := [.int (nI m)]) (mcr := 0) (msr := 0) (mc := 0) (ms := 0) (pc' := 11) dX12_parting_8 kX12_isMan wX12_84 rfl ⟨rfl, rfl⟩ rfl (Nat.le_of_ble_eq_true rfl) (by decide) (s_isMan1 hn hn6 (hm)) rfl ?_
  rintro _ _ ⟨rfl, rfl⟩
  show Go mX12_parting _ _ _ 11 [(0, .ref 189), (1, .int (nI m))] [.int 1] (SK, M, N) _
  refine g_if_ne (tgt := 16) (pc' := 14) dX12_parting_11 (by decide) rfl (fun _ => ?_) (fun hc => absurd hc (by decide))
  refine g_aload_n (j := 0) (pc' := 17) dX12_parting_16 rfl rfl ?_
  refine g_callV (my := mX12_layTable) (k := 189) (st := []) (av := []) (mcr := 0) (msr := 0) (mc := 0) (ms := 0) (pc' := 20) dX12_parting_17 kX12_layTable wX12_198 rfl ⟨rfl, rfl⟩ rfl (Nat.le_of_ble_eq_true rfl) (by decide) (r_layTable hok hP) rfl ?_
  rintro _ _ ⟨M1, rfl, rfl, hT, hf1⟩
  show Go mX12_parting _ _ _ 20 [(0, .ref 189), (1, .int (nI m))] [] (SK, M1, N) _
  refine g_iload_n (j := 1) (pc' := 21) dX12_parting_20 rfl rfl ?_
  refine g_bipush (v := (-4)) (pc' := 23) dX12_parting_21 (by decide) rfl ?_
  refine g_icmp_ne (tgt := 33) (pc' := 26) dX12_parting_23 (by decide) rfl (fun hc => ?_) (fun hc => (absurd hc (nI_ne_m4 (by omega))))
  have hP1 : ∀ j, j < 47 → M1 190 j = P j := fun j hj => by rw [hf1 190 (by omega)]; exact hP j hj
  have hk1 : M1 190 1 = nI k := (hP1 1 (by omega)).trans hok.2.2.2.1
  have hlt := @pgF_lt (vN P) n k
  refine g_iconst (v := 0) (pc' := 34) dX12_parting_33 (by decide) rfl ?_
  refine g_istore_n (L' := [(0, .ref 189), (1, .int (nI m)), (2, .int 0)]) (pc' := 35) dX12_parting_34 (by decide) rfl rfl ?_
  refine g_iconst (v := 0) (pc' := 36) dX12_parting_35 (by decide) rfl ?_
  refine g_istore_n (L' := [(0, .ref 189), (1, .int (nI m)), (2, .int 0), (3, .int 0)]) (pc' := 37) dX12_parting_36 (by decide) rfl rfl ?_
  refine g_iconst (v := 0) (pc' := 38) dX12_parting_37 (by decide) rfl ?_
  refine g_istore (L' := [(0, .ref 189), (1, .int (nI m)), (2, .int 0), (3, .int 0), (4, .int 0)]) (pc' := 40) dX12_parting_38 (by decide) rfl rfl ?_
  have loop : ∀ (l j : Nat) (x3 : Int32), j + l = m + 1 → (l = 0 → x3 = nI (nmK k (pgF (vN P) n k (m + 1)).2)) → Go mX12_parting 30 0 0 40 [(0, .ref 189), (1, .int (nI m)), (2, .int (nI ((pgF (vN P) n k j).1))), (3, .int x3), (4, .int (nI j))] [] (SK, M1, N) (RQ M N (optI (-4) (pgF (vN P) n k (m + 1)).2) ((n, k, P, pa), kp, tp, sh)) := by
    intro l
    induction l with
    | zero =>
      intro j x3 hj h3
      obtain rfl : j = m + 1 := by omega
      rw [h3 rfl]
      refine g_iload (j := 4) (pc' := 42) dX12_parting_40 rfl rfl ?_
      refine g_iload_n (j := 1) (pc' := 43) dX12_parting_42 rfl rfl ?_
      refine g_icmp_gt (tgt := 103) (pc' := 46) dX12_parting_43 (by decide) rfl (fun hc => ?_) (fun hc => (absurd (nI_lt (a := m) (b := m + 1) (by omega) (by omega)) hc))
      have hnm := @pgF_name (vN P) n k (m + 1)
      generalize (pgF (vN P) n k (m + 1)) = pg at hnm ⊢
      obtain ⟨pg1, pg2⟩ := pg
      cases pg2 with
      | none =>
        show Go mX12_parting _ _ _ 103 [(0, .ref 189), (1, .int (nI m)), (2, .int (nI pg1)), (3, .int (nI k)), (4, .int (nI (m + 1)))] [] (SK, M1, N) _
        refine g_iload_n (j := 3) (pc' := 104) dX12_parting_103 rfl rfl ?_
        refine g_aload_n (j := 0) (pc' := 105) dX12_parting_104 rfl rfl ?_
        refine g_getR (pc' := 108) dX12_parting_105 fX12_7 rfl rfl rfl ?_
        refine g_iconst (v := 1) (pc' := 109) dX12_parting_108 (by decide) rfl ?_
        refine g_iald (n := 1) (pc' := 110) dX12_parting_109 rfl rfl (by omega) rfl ?_
        refine g_top (y := nI k) (hk1) ?_
        refine g_icmp_ne (tgt := 118) (pc' := 113) dX12_parting_110 (by decide) rfl (fun hc => (absurd rfl hc)) (fun hc => ?_)
        refine g_bipush (v := (-4)) (pc' := 115) dX12_parting_113 (by decide) rfl ?_
        refine g_goto (tgt := 119) dX12_parting_115 (by decide) ?_
        exact g_iret dX12_parting_119 rfl rfl (RQ.tmp hI (fun a ta => by unfold tmpR at ta; exact hf1 a (by omega)))
      | some i =>
        have hik := hnm rfl
        show Go mX12_parting _ _ _ 103 [(0, .ref 189), (1, .int (nI m)), (2, .int (nI pg1)), (3, .int (nI i)), (4, .int (nI (m + 1)))] [] (SK, M1, N) _
        refine g_iload_n (j := 3) (pc' := 104) dX12_parting_103 rfl rfl ?_
        refine g_aload_n (j := 0) (pc' := 105) dX12_parting_104 rfl rfl ?_
        refine g_getR (pc' := 108) dX12_parting_105 fX12_7 rfl rfl rfl ?_
        refine g_iconst (v := 1) (pc' := 109) dX12_parting_108 (by decide) rfl ?_
        refine g_iald (n := 1) (pc' := 110) dX12_parting_109 rfl rfl (by omega) rfl ?_
        refine g_top (y := nI k) (hk1) ?_
        refine g_icmp_ne (tgt := 118) (pc' := 113) dX12_parting_110 (by decide) rfl (fun hc => ?_) (fun hc => (absurd ((nI_eq (by omega) (by omega)).mp hc) (by omega)))
        refine g_iload_n (j := 3) (pc' := 119) dX12_parting_118 rfl rfl ?_
        exact g_iret dX12_parting_119 rfl rfl (RQ.tmp hI (fun a ta => by unfold tmpR at ta; exact hf1 a (by omega)))
    | succ l ih =>
      intro j x3 hj _
      have hjm : j ≤ m := by omega
      have hih := ih (j + 1)
      have hg := hlt j
      have hcur : M1 201 (64 * j + (pgF (vN P) n k j).1) = nI (pT (vN P) k (n - j) j (pgF (vN P) n k j).1) := hT j (by omega) (by omega) _ hg
      have htl : ∀ g3, g3 < 2 ^ k → M1 201 (64 * (j + 1) + g3) = nI ((pT (vN P) k (n - (j + 1)) (j + 1)) g3) := fun g3 h3 => hT (j + 1) (by omega) (by omega) g3 h3
      have hpj : pT (vN P) k (n - j) j (pgF (vN P) n k j).1 = tB (vN P j) (pT (vN P) k (n - (j + 1)) (j + 1)) k (pgF (vN P) n k j).1 := by rw [show n - j = (n - (j + 1)) + 1 by omega]; rfl
      have hpl := @pT_le (vN P) k (fun m i => vN_le m i)
      have hcb : pT (vN P) k (n - j) j (pgF (vN P) n k j).1 ≤ 149 * (n - j) := hpl _ _ _
      have hlb : ∀ g3, (pT (vN P) k (n - (j + 1)) (j + 1)) g3 ≤ 149 * (n - (j + 1)) := fun g3 => hpl _ _ g3
      have hG2 : (pgF (vN P) n k (j + 1)).2 = fbP (vN P j) (pT (vN P) k (n - (j + 1)) (j + 1)) (pT (vN P) k (n - j) j (pgF (vN P) n k j).1) (pgF (vN P) n k j).1 k := rfl
      unfold pgF at hih
      have hbl := @fbP_lt (vN P j) (pT (vN P) k (n - (j + 1)) (j + 1)) (pT (vN P) k (n - j) j (pgF (vN P) n k j).1) (pgF (vN P) n k j).1 k
      have hfn : fbP (vN P j) (pT (vN P) k (n - (j + 1)) (j + 1)) (pT (vN P) k (n - j) j (pgF (vN P) n k j).1) (pgF (vN P) n k j).1 k = none → pT (vN P) k (n - j) j (pgF (vN P) n k j).1 = (pT (vN P) k (n - (j + 1)) (j + 1)) (pgF (vN P) n k j).1 := by rw [hpj]; exact fbP_none
      generalize hfo : fbP (vN P j) (pT (vN P) k (n - (j + 1)) (j + 1)) (pT (vN P) k (n - j) j (pgF (vN P) n k j).1) (pgF (vN P) n k j).1 k = o at hih hbl hfn hG2
      generalize (pgF (vN P) n k j).1 = g at hih hg hcur hpj hcb hfo hfn ⊢
      generalize pT (vN P) k (n - j) j g = cur at hcur hpj hcb hfo hfn
      generalize (pT (vN P) k (n - (j + 1)) (j + 1)) = later at htl hlb hfo hfn hpj
      refine g_iload (j := 4) (pc' := 42) dX12_parting_40 rfl rfl ?_
      refine g_iload_n (j := 1) (pc' := 43) dX12_parting_42 rfl rfl ?_
      refine g_icmp_gt (tgt := 103) (pc' := 46) dX12_parting_43 (by decide) rfl (fun hc => (absurd hc (nI_nlt (a := m) (b := j) (by omega) (by omega)))) (fun hc => ?_)
      have cont : Go mX12_parting 30 0 0 77 [(0, .ref 189), (1, .int (nI m)), (2, .int (nI g)), (3, .int (nI (nmK k o))), (4, .int (nI j))] [] (SK, M1, N) (RQ M N (optI (-4) (pgF (vN P) n k (m + 1)).2) ((n, k, P, pa), kp, tp, sh)) := by
        cases o with
        | none =>
          show Go mX12_parting _ _ _ 77 [(0, .ref 189), (1, .int (nI m)), (2, .int (nI g)), (3, .int (nI k)), (4, .int (nI j))] [] (SK, M1, N) _
          refine g_iload_n (j := 2) (pc' := 78) dX12_parting_77 rfl rfl ?_
          refine g_iload_n (j := 3) (pc' := 79) dX12_parting_78 rfl rfl ?_
          refine g_aload_n (j := 0) (pc' := 80) dX12_parting_79 rfl rfl ?_
          refine g_getR (pc' := 83) dX12_parting_80 fX12_7 rfl rfl rfl ?_
          refine g_iconst (v := 1) (pc' := 84) dX12_parting_83 (by decide) rfl ?_
          refine g_iald (n := 1) (pc' := 85) dX12_parting_84 rfl rfl (by omega) rfl ?_
          refine g_top (y := nI k) (hk1) ?_
          refine g_icmp_ne (tgt := 92) (pc' := 88) dX12_parting_85 (by decide) rfl (fun hc => (absurd rfl hc)) (fun hc => ?_)
          refine g_iconst (v := 0) (pc' := 89) dX12_parting_88 (by decide) rfl ?_
          refine g_goto (tgt := 95) dX12_parting_89 (by decide) ?_
          refine g_ior (pc' := 96) dX12_parting_95 rfl ?_
          refine g_top (y := nI g) (Int32.or_zero) ?_
          refine g_istore_n (L' := [(0, .ref 189), (1, .int (nI m)), (2, .int (nI g)), (3, .int (nI k)), (4, .int (nI j))]) (pc' := 97) dX12_parting_96 (by decide) rfl rfl ?_
          refine g_iinc (j := 4) (v := nI (j + 1)) (L' := [(0, .ref 189), (1, .int (nI m)), (2, .int (nI g)), (3, .int (nI k)), (4, .int (nI (j + 1)))]) (pc' := 100) dX12_parting_97 rfl (nI_1 j) (by decide) rfl rfl ?_
          refine g_goto (tgt := 40) dX12_parting_100 (by decide) ?_
          refine hih (nI k) (by omega) (fun hl => ?_)
          show nI k = nI (nmK k (pgF (vN P) n k (m + 1)).2)
          rw [show m = j by omega, hG2]; rfl
        | some i =>
          have hik := hbl rfl
          show Go mX12_parting _ _ _ 77 [(0, .ref 189), (1, .int (nI m)), (2, .int (nI g)), (3, .int (nI i)), (4, .int (nI j))] [] (SK, M1, N) _
          refine g_iload_n (j := 2) (pc' := 78) dX12_parting_77 rfl rfl ?_
          refine g_iload_n (j := 3) (pc' := 79) dX12_parting_78 rfl rfl ?_
          refine g_aload_n (j := 0) (pc' := 80) dX12_parting_79 rfl rfl ?_
          refine g_getR (pc' := 83) dX12_parting_80 fX12_7 rfl rfl rfl ?_
          refine g_iconst (v := 1) (pc' := 84) dX12_parting_83 (by decide) rfl ?_
          refine g_iald (n := 1) (pc' := 85) dX12_parting_84 rfl rfl (by omega) rfl ?_
          refine g_top (y := nI k) (hk1) ?_
          refine g_icmp_ne (tgt := 92) (pc' := 88) dX12_parting_85 (by decide) rfl (fun hc => ?_) (fun hc => (absurd ((nI_eq (by omega) (by omega)).mp hc) (by omega)))
          refine g_iconst (v := 1) (pc' := 93) dX12_parting_92 (by decide) rfl ?_
          refine g_iload_n (j := 3) (pc' := 94) dX12_parting_93 rfl rfl ?_
          refine g_ishl (pc' := 95) dX12_parting_94 rfl ?_
          refine g_ior (pc' := 96) dX12_parting_95 rfl ?_
          refine g_top (y := nI (g ||| 2 ^ i)) (orbN (by omega) (by omega)) ?_
          refine g_istore_n (L' := [(0, .ref 189), (1, .int (nI m)), (2, .int (nI (g ||| 2 ^ i))), (3, .int (nI i)), (4, .int (nI j))]) (pc' := 97) dX12_parting_96 (by decide) rfl rfl ?_
          refine g_iinc (j := 4) (v := nI (j + 1)) (L' := [(0, .ref 189), (1, .int (nI m)), (2, .int (nI (g ||| 2 ^ i))), (3, .int (nI i)), (4, .int (nI (j + 1)))]) (pc' := 100) dX12_parting_97 rfl (nI_1 j) (by decide) rfl rfl ?_
          refine g_goto (tgt := 40) dX12_parting_100 (by decide) ?_
          refine hih (nI i) (by omega) (fun hl => ?_)
          show nI i = nI (nmK k (pgF (vN P) n k (m + 1)).2)
          rw [show m = j by omega, hG2]; rfl
      refine g_iconst (v := 0) (pc' := 47) dX12_parting_46 (by decide) rfl ?_
      refine g_istore_n (L' := [(0, .ref 189), (1, .int (nI m)), (2, .int (nI g)), (3, .int 0), (4, .int (nI j))]) (pc' := 48) dX12_parting_47 (by decide) rfl rfl ?_
      have wl : ∀ (u i : Nat), i + u = k → firstIx (fun i => !g.testBit i && vN P j i + later (g ||| 2 ^ i) == cur) i u = o → Go mX12_parting 30 0 0 48 [(0, .ref 189), (1, .int (nI m)), (2, .int (nI g)), (3, .int (nI i)), (4, .int (nI j))] [] (SK, M1, N) (RQ M N (optI (-4) (pgF (vN P) n k (m + 1)).2) ((n, k, P, pa), kp, tp, sh)) := by
        intro u
        induction u with
        | zero =>
          intro i hi hfi
          refine g_aload_n (j := 0) (pc' := 49) dX12_parting_48 rfl rfl ?_
          refine g_iload (j := 4) (pc' := 51) dX12_parting_49 rfl rfl ?_
          refine g_iload_n (j := 2) (pc' := 52) dX12_parting_51 rfl rfl ?_
          refine g_iload_n (j := 3) (pc' := 53) dX12_parting_52 rfl rfl ?_
          refine g_callV (my := mX12_has) (k := 189) (st := []) (av := [.int (nI j), .int (nI g), .int (nI i)]) (mcr := 0) (msr := 0) (mc := 0) (ms := 0) (pc' := 56) dX12_parting_53 kX12_has wX12_194 rfl ⟨rfl, rfl⟩ rfl (Nat.le_of_ble_eq_true rfl) (by decide) (r_has hok hP1 (m := j) (by omega) hg htl (i := i) (by omega)) rfl ?_
          rintro _ _ ⟨rfl, rfl⟩
          show Go mX12_parting _ _ _ 56 [(0, .ref 189), (1, .int (nI m)), (2, .int (nI g)), (3, .int (nI i)), (4, .int (nI j))] [.int (hasI (vN P j) later k g i)] (SK, M1, N) _
          refine g_aload_n (j := 0) (pc' := 57) dX12_parting_56 rfl rfl ?_
          refine g_getR (pc' := 60) dX12_parting_57 fX12_44 rfl rfl rfl ?_
          refine g_bipush (v := 64) (pc' := 62) dX12_parting_60 (by decide) rfl ?_
          refine g_iload (j := 4) (pc' := 64) dX12_parting_62 rfl rfl ?_
          refine g_imul (pc' := 65) dX12_parting_64 rfl ?_
          refine g_iload_n (j := 2) (pc' := 66) dX12_parting_65 rfl rfl ?_
          refine g_iadd (pc' := 67) dX12_parting_66 rfl ?_
          refine g_iald (n := (64 * j) + g) (pc' := 68) dX12_parting_67 rfl (nI_addE (nI_mulE rfl rfl) rfl) (by omega) rfl ?_
          refine g_top (y := nI cur) (hcur) ?_
          have hon : o = none := hfi.symm
          rw [show hasI (vN P j) later k g i = nI (later g) from if_pos (by omega)]
          refine g_icmp_eq (tgt := 77) (pc' := 71) dX12_parting_68 (by decide) rfl (fun hc => ?_) (fun hc => (absurd (by rw [hfn hon]) hc))
          obtain rfl : i = k := by omega
          rw [hon] at cont
          exact cont
        | succ u ih2 =>
          intro i hi hfi
          refine g_aload_n (j := 0) (pc' := 49) dX12_parting_48 rfl rfl ?_
          refine g_iload (j := 4) (pc' := 51) dX12_parting_49 rfl rfl ?_
          refine g_iload_n (j := 2) (pc' := 52) dX12_parting_51 rfl rfl ?_
          refine g_iload_n (j := 3) (pc' := 53) dX12_parting_52 rfl rfl ?_
          refine g_callV (my := mX12_has) (k := 189) (st := []) (av := [.int (nI j), .int (nI g), .int (nI i)]) (mcr := 0) (msr := 0) (mc := 0) (ms := 0) (pc' := 56) dX12_parting_53 kX12_has wX12_194 rfl ⟨rfl, rfl⟩ rfl (Nat.le_of_ble_eq_true rfl) (by decide) (r_has hok hP1 (m := j) (by omega) hg htl (i := i) (by omega)) rfl ?_
          rintro _ _ ⟨rfl, rfl⟩
          show Go mX12_parting _ _ _ 56 [(0, .ref 189), (1, .int (nI m)), (2, .int (nI g)), (3, .int (nI i)), (4, .int (nI j))] [.int (hasI (vN P j) later k g i)] (SK, M1, N) _
          refine g_aload_n (j := 0) (pc' := 57) dX12_parting_56 rfl rfl ?_
          refine g_getR (pc' := 60) dX12_parting_57 fX12_44 rfl rfl rfl ?_
          refine g_bipush (v := 64) (pc' := 62) dX12_parting_60 (by decide) rfl ?_
          refine g_iload (j := 4) (pc' := 64) dX12_parting_62 rfl rfl ?_
          refine g_imul (pc' := 65) dX12_parting_64 rfl ?_
          refine g_iload_n (j := 2) (pc' := 66) dX12_parting_65 rfl rfl ?_
          refine g_iadd (pc' := 67) dX12_parting_66 rfl ?_
          refine g_iald (n := (64 * j) + g) (pc' := 68) dX12_parting_67 rfl (nI_addE (nI_mulE rfl rfl) rfl) (by omega) rfl ?_
          refine g_top (y := nI cur) (hcur) ?_
          cases hb : Nat.testBit g i with
          | true =>
            rw [show hasI (vN P j) later k g i = -1 by unfold hasI; rw [if_neg (by omega), if_pos hb]]
            refine g_icmp_eq (tgt := 77) (pc' := 71) dX12_parting_68 (by decide) rfl (fun hc => (absurd hc.symm (nI_m1 (by omega)))) (fun hc => ?_)
            rw [firstIx, if_neg (by rw [hb]; simp)] at hfi
            refine g_iinc (j := 3) (v := nI (i + 1)) (L' := [(0, .ref 189), (1, .int (nI m)), (2, .int (nI g)), (3, .int (nI (i + 1))), (4, .int (nI j))]) (pc' := 74) dX12_parting_71 rfl (nI_1 i) (by decide) rfl rfl ?_
            refine g_goto (tgt := 48) dX12_parting_74 (by decide) ?_
            exact ih2 (i + 1) (by omega) hfi
          | false =>
            have hvl := vN_le (P := P) j i
            have hll := hlb (g ||| 2 ^ i)
            rw [show hasI (vN P j) later k g i = nI (vN P j i + later (g ||| 2 ^ i)) by unfold hasI; rw [if_neg (by omega), if_neg (by rw [hb]; decide)]]
            by_cases he : vN P j i + later (g ||| 2 ^ i) = cur
            · rw [firstIx, if_pos (by rw [hb, he]; simp)] at hfi
              refine g_icmp_eq (tgt := 77) (pc' := 71) dX12_parting_68 (by decide) rfl (fun hc => ?_) (fun hc => (absurd (by rw [he]) hc))
              rw [← hfi] at cont
              exact cont
            · refine g_icmp_eq (tgt := 77) (pc' := 71) dX12_parting_68 (by decide) rfl (fun hc => (absurd ((nI_eq (by omega) (by omega)).mp hc) he)) (fun hc => ?_)
              rw [firstIx, if_neg (by rw [hb]; simpa using he)] at hfi
              refine g_iinc (j := 3) (v := nI (i + 1)) (L' := [(0, .ref 189), (1, .int (nI m)), (2, .int (nI g)), (3, .int (nI (i + 1))), (4, .int (nI j))]) (pc' := 74) dX12_parting_71 rfl (nI_1 i) (by decide) rfl rfl ?_
              refine g_goto (tgt := 48) dX12_parting_74 (by decide) ?_
              exact ih2 (i + 1) (by omega) hfi
      exact wl k 0 (by omega) hfo
  exact loop (m + 1) 0 0 (by omega) (fun h => absurd h (by omega))
