/-! ===== Choice ===== -/
theorem s_offP {M : Nat → Nat → Int32} {N : Nat → Nat → Int64} {p n k : Nat} {P : Nat → Int32} (hp : isPar p) (hok : OkP n k P) (hc0 : IsC M p n k P) {m : Nat} (st : Int32) (hm : m < n) : Run mX0_offOf 2 0 0 [.ref 1, .ref p, .int (nI m), .int st] (SK, M, N) (fun r h' => h' = (SK, M, N) ∧ r = some (.int (offP P st m))) := by
  obtain ⟨hn6, hk6, -, -, ho, -⟩ := hok
  obtain ⟨-, -, -, h3, -, h5, -⟩ := hc0
  obtain ⟨⟨q, hq, eq⟩, -, ⟨o, ho1, ho4, eo⟩, -⟩ := ho m hm
  obtain ⟨e1, e2, e3, -, -⟩ := h5 m hm
  have h9 := s_offOf (M := M) (N := N) (p := p) (m := m) (k := q) st hp.at (by omega) (by rw [e1, eq]) hq (by rw [e3, eo]; exact one_le_nI ho1 (by omega))
  rw [e1, e2, e3, h3] at h9
  exact h9
theorem s_valP {M : Nat → Nat → Int32} {N : Nat → Nat → Int64} {p n k : Nat} {P : Nat → Int32} (hp : isPar p) (hok : OkP n k P) (hc0 : IsC M p n k P) {m i : Nat} (hm : m < n) (hi : i < k) : Run mX0_esteem 2 0 0 [.ref 1, .ref p, .int (nI m), .int (nI i)] (SK, M, N) (fun r h' => h' = (SK, M, N) ∧ r = some (.int (valP P m i))) := by
  obtain ⟨hn6, hk6, -, -, ho, -⟩ := hok
  obtain ⟨-, -, -, h3, -, h5, h6⟩ := hc0
  obtain ⟨⟨q, hq, eq⟩, -⟩ := ho m hm
  obtain ⟨e1, -⟩ := h5 m hm
  obtain ⟨e6, e7⟩ := h6 i hi
  have h9 := s_esteem (M := M) (N := N) (p := p) (m := m) (n := i) (k := q) hp.at (by omega) (by omega) (by rw [e1, eq]) hq
  rw [e1, e6, e7] at h9
  exact h9
set_option maxRecDepth 100000 in
set_option maxHeartbeats 1000000 in
theorem s_lineUp {M : Nat → Nat → Int32} {N : Nat → Nat → Int64} {p n k : Nat} {P : Nat → Int32} (hp : isPar p) (hok : OkP n k P) (hc0 : IsC M p n k P) (st : Int32) : Run mX0_lineUp 3 0 0 [.ref 1, .ref p, .int st] (SK, M, N) (fun r h' => ∃ M', h' = (SK, M', N) ∧ r = none ∧ (∀ j, j < n → M' 8 j = offP P st j) ∧ (∀ j, j < n → M' 9 j = nI (lineA (offP P st) n j)) ∧ ∀ a, a ≠ 8 → a ≠ 9 → M' a = M a) := by
  refine Run.of (by decide) (Nat.le_of_ble_eq_true rfl) ?_
  refine g_iconst (v := 0) (pc' := 1) dX0_lineUp_0 (by decide) rfl ?_
  refine g_istore_n (L' := [(0, .ref 1), (1, .ref p), (2, .int st), (3, .int 0)]) (pc' := 2) dX0_lineUp_1 (by decide) rfl rfl ?_
  have hn6 := hok.1
  have hpg := hp.ge
  generalize hof : offP P st = off
  have outer : ∀ (t m : Nat) (M1 : Nat → Nat → Int32), m + t = n → (∀ j, j < m → M1 8 j = off j) → (∀ j, j < m → M1 9 j = nI (lineA off m j)) → (∀ a, a ≠ 8 → a ≠ 9 → M1 a = M a) → Go mX0_lineUp 3 0 0 2 [(0, .ref 1), (1, .ref p), (2, .int st), (3, .int (nI m))] [] (SK, M1, N) (fun r h' => ∃ M', h' = (SK, M', N) ∧ r = none ∧ (∀ j, j < n → M' 8 j = off j) ∧ (∀ j, j < n → M' 9 j = nI (lineA (off) n j)) ∧ ∀ a, a ≠ 8 → a ≠ 9 → M' a = M a) := by
    intro t
    induction t with
    | zero =>
      intro m M1 hm h1 h2 h3
      have hmn : n = m := by omega
      subst hmn
      have hcM : IsC M1 p n k P := hc0.keep (fun a a1 a2 => h3 a (by omega) (by omega))
      refine g_iload_n (j := 3) (pc' := 3) dX0_lineUp_2 rfl rfl ?_
      refine g_aload_n (j := 1) (pc' := 4) dX0_lineUp_3 rfl rfl ?_
      refine g_getI (pc' := 7) dX0_lineUp_4 fX0_76 hp.at.c0 rfl rfl ?_
      rw [hcM.1]
      refine g_icmp_ge (tgt := 90) (pc' := 10) dX0_lineUp_7 (by decide) rfl (fun hc => ?_) (fun hc => ?_)
      · exact g_vret dX0_lineUp_90 rfl (⟨M1, rfl, rfl, h1, h2, h3⟩)
      · exact absurd (nI_le (Nat.le_refl _) (by omega)) hc
    | succ t ih =>
      intro m M1 hm h1 h2 h3
      have hcM : IsC M1 p n k P := hc0.keep (fun a a1 a2 => h3 a (by omega) (by omega))
      refine g_iload_n (j := 3) (pc' := 3) dX0_lineUp_2 rfl rfl ?_
      refine g_aload_n (j := 1) (pc' := 4) dX0_lineUp_3 rfl rfl ?_
      refine g_getI (pc' := 7) dX0_lineUp_4 fX0_76 hp.at.c0 rfl rfl ?_
      rw [hcM.1]
      refine g_icmp_ge (tgt := 90) (pc' := 10) dX0_lineUp_7 (by decide) rfl (fun hc => ?_) (fun hc => ?_)
      · exact absurd hc (nI_ge (by omega) (by omega))
      · refine g_aload_n (j := 0) (pc' := 11) dX0_lineUp_10 rfl rfl ?_
        refine g_getR (pc' := 14) dX0_lineUp_11 fX0_30 rfl rfl rfl ?_
        refine g_iload_n (j := 3) (pc' := 15) dX0_lineUp_14 rfl rfl ?_
        refine g_aload_n (j := 0) (pc' := 16) dX0_lineUp_15 rfl rfl ?_
        refine g_aload_n (j := 1) (pc' := 17) dX0_lineUp_16 rfl rfl ?_
        refine g_iload_n (j := 3) (pc' := 18) dX0_lineUp_17 rfl rfl ?_
        refine g_iload_n (j := 2) (pc' := 19) dX0_lineUp_18 rfl rfl ?_
        refine g_callV (my := mX0_offOf) (k := 1) (st := [.int (nI m), .ref 8]) (av := [.ref p, .int (nI m), .int st]) (mcr := 0) (msr := 0) (mc := 0) (ms := 0) (pc' := 22) dX0_lineUp_19 kX0_offOf wX0_79 rfl ⟨rfl, rfl⟩ rfl (Nat.le_of_ble_eq_true rfl) (by decide) (s_offP hp hok hcM st (by omega)) rfl ?_
        rintro _ _ ⟨rfl, rfl⟩
        show Go mX0_lineUp _ _ _ 22 [(0, .ref 1), (1, .ref p), (2, .int st), (3, .int (nI m))] [.int (offP P st m), .int (nI m), .ref 8] (SK, M1, N) _
        rw [hof]
        refine g_iast (n := m) (pc' := 23) dX0_lineUp_22 rfl rfl (by omega) rfl ?_
        refine g_iload_n (j := 3) (pc' := 24) dX0_lineUp_23 rfl rfl ?_
        refine g_istore (L' := [(0, .ref 1), (1, .ref p), (2, .int st), (3, .int (nI m)), (4, .int (nI m))]) (pc' := 26) dX0_lineUp_24 (by decide) rfl rfl ?_
        generalize hM2 : (um M1 8 m (off m)) = M2
        have g1 : ∀ j, j ≤ m → M2 8 j = off j := by
          intro j hj
          rw [← hM2]
          by_cases e : j = m
          · subst e; rw [um_at]
          · rw [um_at2 e]; exact h1 j (by omega)
        have g2 : ∀ a, a ≠ 8 → M2 a = M1 a := fun a ha => by rw [← hM2, um_ne ha]
        generalize hl : lineA off m = l at h2
        have inner : ∀ (q : Nat) (M3 : Nat → Nat → Int32), q ≤ m → plc off m l m = plc off m l q → (∀ j, j < q → M3 9 j = nI (l j)) → (∀ j, q < j → j ≤ m → M3 9 j = nI (l (j - 1))) → (∀ a, a ≠ 9 → M3 a = M2 a) → Go mX0_lineUp 3 0 0 26 [(0, .ref 1), (1, .ref p), (2, .int st), (3, .int (nI m)), (4, .int (nI q))] [] (SK, M3, N) (fun r h' => ∃ M', h' = (SK, M', N) ∧ r = none ∧ (∀ j, j < n → M' 8 j = off j) ∧ (∀ j, j < n → M' 9 j = nI (lineA (off) n j)) ∧ ∀ a, a ≠ 8 → a ≠ 9 → M' a = M a) := by
          intro q
          induction q with
          | zero =>
            intro M3 hqm hpl i1 i2 g3
            have hpl : plc off m l m = 0 := hpl
            refine g_iload (j := 4) (pc' := 28) dX0_lineUp_26 rfl rfl ?_
            refine g_if_le (tgt := 76) (pc' := 31) dX0_lineUp_28 (by decide) rfl (fun hc2 => ?_) (fun hc2 => ?_)
            · refine g_aload_n (j := 0) (pc' := 77) dX0_lineUp_76 rfl rfl ?_
              refine g_getR (pc' := 80) dX0_lineUp_77 fX0_34 rfl rfl rfl ?_
              refine g_iload (j := 4) (pc' := 82) dX0_lineUp_80 rfl rfl ?_
              refine g_iload_n (j := 3) (pc' := 83) dX0_lineUp_82 rfl rfl ?_
              refine g_iast (n := 0) (pc' := 84) dX0_lineUp_83 rfl rfl (by omega) rfl ?_
              refine g_iinc (j := 3) (v := nI (m + 1)) (L' := [(0, .ref 1), (1, .ref p), (2, .int st), (3, .int (nI (m + 1))), (4, .int (nI 0))]) (pc' := 87) dX0_lineUp_84 rfl (nI_1 m) (by decide) rfl rfl ?_
              refine g_goto (tgt := 2) dX0_lineUp_87 (by decide) ?_
              refine g_less (L' := [(0, .ref 1), (1, .ref p), (2, .int st), (3, .int (nI (m + 1)))]) [0, 1, 2, 3] rfl ?_
              refine ih (m + 1) _ (by omega) (fun j hj => ?_) (fun j hj => ?_) (fun a a8 a9 => ?_)
              · rw [um_ne (by omega), g3 8 (by omega)]; exact g1 j (by omega)
              · show _ = nI (insA off m (lineA off m) j)
                rw [hl]
                unfold insA
                rw [hpl]
                by_cases e : j = 0
                · subst e
                  rw [um_at, if_neg (by omega), if_pos rfl]
                · rw [um_at2 e]
                  by_cases e2 : j < 0
                  · rw [if_pos e2]; exact i1 j e2
                  · rw [if_neg e2, if_neg e]; exact i2 j (by omega) (by omega)
              · rw [um_ne a9, g3 a a9, g2 a a8]; exact h3 a a8 a9
            · exact absurd (show nI 0 ≤ 0 by decide) hc2
          | succ q ihq =>
            intro M3 hqm hpl i1 i2 g3
            have il : M3 9 q = nI (l q) := i1 q (by omega)
            have ill : l q < m := by rw [← hl]; exact lineA_lt (by omega)
            refine g_iload (j := 4) (pc' := 28) dX0_lineUp_26 rfl rfl ?_
            refine g_if_le (tgt := 76) (pc' := 31) dX0_lineUp_28 (by decide) rfl (fun hc2 => ?_) (fun hc2 => ?_)
            · exact absurd hc2 (nI_nle (by omega) (by omega))
            · refine g_aload_n (j := 0) (pc' := 32) dX0_lineUp_31 rfl rfl ?_
              refine g_getR (pc' := 35) dX0_lineUp_32 fX0_30 rfl rfl rfl ?_
              refine g_aload_n (j := 0) (pc' := 36) dX0_lineUp_35 rfl rfl ?_
              refine g_getR (pc' := 39) dX0_lineUp_36 fX0_34 rfl rfl rfl ?_
              refine g_iload (j := 4) (pc' := 41) dX0_lineUp_39 rfl rfl ?_
              refine g_iconst (v := 1) (pc' := 42) dX0_lineUp_41 (by decide) rfl ?_
              refine g_isub (pc' := 43) dX0_lineUp_42 rfl ?_
              refine g_iald (n := q) (pc' := 44) dX0_lineUp_43 rfl (nI_pred q) (by omega) rfl ?_
              refine g_iald (n := l q) (pc' := 45) dX0_lineUp_44 rfl il (by omega) rfl ?_
              refine g_aload_n (j := 0) (pc' := 46) dX0_lineUp_45 rfl rfl ?_
              refine g_getR (pc' := 49) dX0_lineUp_46 fX0_30 rfl rfl rfl ?_
              refine g_iload_n (j := 3) (pc' := 50) dX0_lineUp_49 rfl rfl ?_
              refine g_iald (n := m) (pc' := 51) dX0_lineUp_50 rfl rfl (by omega) rfl ?_
              have ev1 : M3 8 (l q) = off (l q) := by rw [g3 8 (by omega)]; exact g1 _ (by omega)
              have ev2 : M3 8 m = off m := by rw [g3 8 (by omega)]; exact g1 _ (Nat.le_refl _)
              rw [ev1, ev2]
              refine g_icmp_le (tgt := 76) (pc' := 54) dX0_lineUp_51 (by decide) rfl (fun hc3 => ?_) (fun hc3 => ?_)
              · have hpl : plc off m l m = q + 1 := by rw [hpl]; unfold plc; rw [if_neg (Int32.not_lt.mpr hc3)]
                refine g_aload_n (j := 0) (pc' := 77) dX0_lineUp_76 rfl rfl ?_
                refine g_getR (pc' := 80) dX0_lineUp_77 fX0_34 rfl rfl rfl ?_
                refine g_iload (j := 4) (pc' := 82) dX0_lineUp_80 rfl rfl ?_
                refine g_iload_n (j := 3) (pc' := 83) dX0_lineUp_82 rfl rfl ?_
                refine g_iast (n := q + 1) (pc' := 84) dX0_lineUp_83 rfl rfl (by omega) rfl ?_
                refine g_iinc (j := 3) (v := nI (m + 1)) (L' := [(0, .ref 1), (1, .ref p), (2, .int st), (3, .int (nI (m + 1))), (4, .int (nI (q + 1)))]) (pc' := 87) dX0_lineUp_84 rfl (nI_1 m) (by decide) rfl rfl ?_
                refine g_goto (tgt := 2) dX0_lineUp_87 (by decide) ?_
                refine g_less (L' := [(0, .ref 1), (1, .ref p), (2, .int st), (3, .int (nI (m + 1)))]) [0, 1, 2, 3] rfl ?_
                refine ih (m + 1) _ (by omega) (fun j hj => ?_) (fun j hj => ?_) (fun a a8 a9 => ?_)
                · rw [um_ne (by omega), g3 8 (by omega)]; exact g1 j (by omega)
                · show _ = nI (insA off m (lineA off m) j)
                  rw [hl]
                  unfold insA
                  rw [hpl]
                  by_cases e : j = (q + 1)
                  · subst e
                    rw [um_at, if_neg (by omega), if_pos rfl]
                  · rw [um_at2 e]
                    by_cases e2 : j < (q + 1)
                    · rw [if_pos e2]; exact i1 j e2
                    · rw [if_neg e2, if_neg e]; exact i2 j (by omega) (by omega)
                · rw [um_ne a9, g3 a a9, g2 a a8]; exact h3 a a8 a9
              · have hpl : plc off m l m = plc off m l q := by rw [hpl]; conv => lhs; unfold plc; rw [if_pos (Int32.not_le.mp hc3)]
                refine g_aload_n (j := 0) (pc' := 55) dX0_lineUp_54 rfl rfl ?_
                refine g_getR (pc' := 58) dX0_lineUp_55 fX0_34 rfl rfl rfl ?_
                refine g_iload (j := 4) (pc' := 60) dX0_lineUp_58 rfl rfl ?_
                refine g_aload_n (j := 0) (pc' := 61) dX0_lineUp_60 rfl rfl ?_
                refine g_getR (pc' := 64) dX0_lineUp_61 fX0_34 rfl rfl rfl ?_
                refine g_iload (j := 4) (pc' := 66) dX0_lineUp_64 rfl rfl ?_
                refine g_iconst (v := 1) (pc' := 67) dX0_lineUp_66 (by decide) rfl ?_
                refine g_isub (pc' := 68) dX0_lineUp_67 rfl ?_
                refine g_iald (n := q) (pc' := 69) dX0_lineUp_68 rfl (nI_pred q) (by omega) rfl ?_
                refine g_iast (n := q + 1) (pc' := 70) dX0_lineUp_69 rfl rfl (by omega) rfl ?_
                refine g_iinc (j := 4) (v := nI q) (L' := [(0, .ref 1), (1, .ref p), (2, .int st), (3, .int (nI m)), (4, .int (nI q))]) (pc' := 73) dX0_lineUp_70 rfl (pk_m1 q) (by decide) rfl rfl ?_
                refine g_goto (tgt := 26) dX0_lineUp_73 (by decide) ?_
                refine ihq _ (by omega) hpl (fun j hj => ?_) (fun j j1 j2 => ?_) (fun a ha => ?_)
                · rw [um_at2 (by omega)]; exact i1 j (by omega)
                · by_cases e : j = q + 1
                  · subst e; rw [um_at, il]; rfl
                  · rw [um_at2 e]; exact i2 j (by omega) j2
                · rw [um_ne ha]; exact g3 a ha
        exact inner m M2 (Nat.le_refl _) rfl (fun j hj => by rw [g2 9 (by omega)]; exact h2 j hj) (fun j j1 j2 => by omega) (fun a _ => rfl)
  exact outer n 0 M (by omega) (fun j hj => by omega) (fun j hj => by omega) (fun a _ _ => rfl)
