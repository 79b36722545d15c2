/-! ===== Choice ===== -/
theorem s_offP {M : Nat → Nat → Int32} {N : Nat → Nat → Int64} {p n k : Nat} {P : Nat → Int32} (hp : isPar p) (hok : OkP n k P) (hc0 : IsC M p n k P) {m : Nat} (st : Int32) (hm : m < n) : Run mX0_offOf 2 0 0 [.ref 1, .ref p, .int (nI m), .int st] (SK, M, N) (fun r h' => h' = (SK, M, N) ∧ r = some (.int (offP P st m))) := by
  obtain ⟨hn6, hk6, -, -, ho, -⟩ := hok
  obtain ⟨-, -, -, h3, -, h5, -⟩ := hc0
  obtain ⟨⟨q, hq, eq⟩, -, ⟨o, ho1, ho4, eo⟩, -⟩ := ho m hm
  obtain ⟨e1, e2, e3, -, -⟩ := h5 m hm
  have h9 := s_offOf (M := M) (N := N) (p := p) (m := m) (k := q) st hp.at (by omega) (by rw [e1, eq]) hq (by rw [e3, eo]; exact one_le_nI ho1 (by omega))
  rw [e1, e2, e3, h3] at h9
  exact h9
theorem s_valP {M : Nat → Nat → Int32} {N : Nat → Nat → Int64} {p n k : Nat} {P : Nat → Int32} (hp : isPar p) (hok : OkP n k P) (hc0 : IsC M p n k P) {m i : Nat} (hm : m < n) (hi : i < k) : Run mX0_esteem 2 0 0 [.ref 1, .ref p, .int (nI m), .int (nI i)] (SK, M, N) (fun r h' => h' = (SK, M, N) ∧ r = some (.int (valP P m i))) := by
  obtain ⟨hn6, hk6, -, -, ho, -⟩ := hok
  obtain ⟨-, -, -, h3, -, h5, h6⟩ := hc0
  obtain ⟨⟨q, hq, eq⟩, -⟩ := ho m hm
  obtain ⟨e1, -⟩ := h5 m hm
  obtain ⟨e6, e7⟩ := h6 i hi
  have h9 := s_esteem (M := M) (N := N) (p := p) (m := m) (n := i) (k := q) hp.at (by omega) (by omega) (by rw [e1, eq]) hq
  rw [e1, e6, e7] at h9
  exact h9
set_option maxRecDepth 100000 in
set_option maxHeartbeats 1000000 in
theorem s_lineUp {M : Nat → Nat → Int32} {N : Nat → Nat → Int64} {p n k : Nat} {P : Nat → Int32} (hp : isPar p) (hok : OkP n k P) (hc0 : IsC M p n k P) (st : Int32) : Run mX0_lineUp 3 0 0 [.ref 1, .ref p, .int st] (SK, M, N) (fun r h' => ∃ M', h' = (SK, M', N) ∧ r = none ∧ (∀ j, j < n → M' 8 j = offP P st j) ∧ (∀ j, j < n → M' 9 j = nI (lineA (offP P st) n j)) ∧ ∀ a, a ≠ 8 → a ≠ 9 → M' a = M a) := by
  refine Run.of (by decide) (Nat.le_of_ble_eq_true rfl) ?_
  refine g_iconst (v := 0) (pc' := 1) dX0_lineUp_0 (by decide) rfl ?_
  refine g_istore_n (L' := [(0, .ref 1), (1, .ref p), (2, .int st), (3, .int 0)]) (pc' := 2) dX0_lineUp_1 (by decide) rfl rfl ?_
  have hn6 := hok.1
  have hpg := hp.ge
  generalize hof : offP P st = off
  have outer : ∀ (t m : Nat) (M1 : Nat → Nat → Int32), m + t = n → (∀ j, j < m → M1 8 j = off j) → (∀ j, j < m → M1 9 j = nI (lineA off m j)) → (∀ a, a ≠ 8 → a ≠ 9 → M1 a = M a) → Go mX0_lineUp 3 0 0 2 [(0, .ref 1), (1, .ref p), (2, .int st), (3, .int (nI m))] [] (SK, M1, N) (fun r h' => ∃ M', h' = (SK, M', N) ∧ r = none ∧ (∀ j, j < n → M' 8 j = off j) ∧ (∀ j, j < n → M' 9 j = nI (lineA (off) n j)) ∧ ∀ a, a ≠ 8 → a ≠ 9 → M' a = M a) := by
    intro t
    induction t with
    | zero =>
      intro m M1 hm h1 h2 h3
      have hmn : n = m := by omega
      subst hmn
      have hcM : IsC M1 p n k P := hc0.keep (fun a a1 a2 => h3 a (by omega) (by omega))
      refine g_iload_n (j := 3) (pc' := 3) dX0_lineUp_2 rfl rfl ?_
      refine g_aload_n (j := 1) (pc' := 4) dX0_lineUp_3 rfl rfl ?_
      refine g_getI (pc' := 7) dX0_lineUp_4 fX0_76 hp.at.c0 rfl rfl ?_
      rw [hcM.1]
      refine g_icmp_ge (tgt := 90) (pc' := 10) dX0_lineUp_7 (by decide) rfl (fun hc => ?_) (fun hc => ?_)
      · exact g_vret dX0_lineUp_90 rfl (⟨M1, rfl, rfl, h1, h2, h3⟩)
      · exact absurd (nI_le (Nat.le_refl _) (by omega)) hc
    | succ t ih =>
      intro m M1 hm h1 h2 h3
      have hcM : IsC M1 p n k P := hc0.keep (fun a a1 a2 => h3 a (by omega) (by omega))
      refine g_iload_n (j := 3) (pc' := 3) dX0_lineUp_2 rfl rfl ?_
      refine g_aload_n (j := 1) (pc' := 4) dX0_lineUp_3 rfl rfl ?_
      refine g_getI (pc' := 7) dX0_lineUp_4 fX0_76 hp.at.c0 rfl rfl ?_
      rw [hcM.1]
      refine g_icmp_ge (tgt := 90) (pc' := 10) dX0_lineUp_7 (by decide) rfl (fun hc => ?_) (fun hc => ?_)
      · exact absurd hc (nI_ge (by omega) (by omega))
      · refine g_aload_n (j := 0) (pc' := 11) dX0_lineUp_10 rfl rfl ?_
        refine g_getR (pc' := 14) dX0_lineUp_11 fX0_30 rfl rfl rfl ?_
        refine g_iload_n (j := 3) (pc' := 15) dX0_lineUp_14 rfl rfl ?_
        refine g_aload_n (j := 0) (pc' := 16) dX0_lineUp_15 rfl rfl ?_
        refine g_aload_n (j := 1) (pc' := 17) dX0_lineUp_16 rfl rfl ?_
        refine g_iload_n (j := 3) (pc' := 18) dX0_lineUp_17 rfl rfl ?_
        refine g_iload_n (j := 2) (pc' := 19) dX0_lineUp_18 rfl rfl ?_
        refine g_callV (my := mX0_offOf) (k := 1) (st := [.int (nI m), .ref 8]) (av := [.ref p, .int (nI m), .int st]) (mcr := 0) (msr := 0) (mc := 0) (ms := 0) (pc' := 22) dX0_lineUp_19 kX0_offOf wX0_79 rfl ⟨rfl, rfl⟩ rfl (Nat.le_of_ble_eq_true rfl) (by decide) (s_offP hp hok hcM st (by omega)) rfl ?_
        rintro _ _ ⟨rfl, rfl⟩
        show Go mX0_lineUp _ _ _ 22 [(0, .ref 1), (1, .ref p), (2, .int st), (3, .int (nI m))] [.int (offP P st m), .int (nI m), .ref 8] (SK, M1, N) _
        rw [hof]
        refine g_iast (n := m) (pc' := 23) dX0_lineUp_22 rfl rfl (by omega) rfl ?_
        refine g_iload_n (j := 3) (pc' := 24) dX0_lineUp_23 rfl rfl ?_
        refine g_istore (L' := [(0, .ref 1), (1, .ref p), (2, .int st), (3, .int (nI m)), (4, .int (nI m))]) (pc' := 26) dX0_lineUp_24 (by decide) rfl rfl ?_
        generalize hM2 : (um M1 8 m (off m)) = M2
        have g1 : ∀ j, j ≤ m → M2 8 j = off j := by
          intro j hj
          rw [← hM2]
          by_cases e : j = m
          · subst e; rw [um_at]
          · rw [um_at2 e]; exact h1 j (by omega)
        have g2 : ∀ a, a ≠ 8 → M2 a = M1 a := fun a ha => by rw [← hM2, um_ne ha]
        generalize hl : lineA off m = l at h2
        have inner : ∀ (q : Nat) (M3 : Nat → Nat → Int32), q ≤ m → plc off m l m = plc off m l q → (∀ j, j < q → M3 9 j = nI (l j)) → (∀ j, q < j → j ≤ m → M3 9 j = nI (l (j - 1))) → (∀ a, a ≠ 9 → M3 a = M2 a) → Go mX0_lineUp 3 0 0 26 [(0, .ref 1), (1, .ref p), (2, .int st), (3, .int (nI m)), (4, .int (nI q))] [] (SK, M3, N) (fun r h' => ∃ M', h' = (SK, M', N) ∧ r = none ∧ (∀ j, j < n → M' 8 j = off j) ∧ (∀ j, j < n → M' 9 j = nI (lineA (off) n j)) ∧ ∀ a, a ≠ 8 → a ≠ 9 → M' a = M a) := by
          intro q
          induction q with
          | zero =>
            intro M3 hqm hpl i1 i2 g3
            have hpl : plc off m l m = 0 := hpl
            refine g_iload (j := 4) (pc' := 28) dX0_lineUp_26 rfl rfl ?_
            refine g_if_le (tgt := 76) (pc' := 31) dX0_lineUp_28 (by decide) rfl (fun hc2 => ?_) (fun hc2 => ?_)
            · refine g_aload_n (j := 0) (pc' := 77) dX0_lineUp_76 rfl rfl ?_
              refine g_getR (pc' := 80) dX0_lineUp_77 fX0_34 rfl rfl rfl ?_
              refine g_iload (j := 4) (pc' := 82) dX0_lineUp_80 rfl rfl ?_
              refine g_iload_n (j := 3) (pc' := 83) dX0_lineUp_82 rfl rfl ?_
              refine g_iast (n := 0) (pc' := 84) dX0_lineUp_83 rfl rfl (by omega) rfl ?_
              refine g_iinc (j := 3) (v := nI (m + 1)) (L' := [(0, .ref 1), (1, .ref p), (2, .int st), (3, .int (nI (m + 1))), (4, .int (nI 0))]) (pc' := 87) dX0_lineUp_84 rfl (nI_1 m) (by decide) rfl rfl ?_
              refine g_goto (tgt := 2) dX0_lineUp_87 (by decide) ?_
              refine g_less (L' := [(0, .ref 1), (1, .ref p), (2, .int st), (3, .int (nI (m + 1)))]) [0, 1, 2, 3] rfl ?_
              refine ih (m + 1) _ (by omega) (fun j hj => ?_) (fun j hj => ?_) (fun a a8 a9 => ?_)
              · rw [um_ne (by omega), g3 8 (by omega)]; exact g1 j (by omega)
              · show _ = nI (insA off m (lineA off m) j)
                rw [hl]
                unfold insA
                rw [hpl]
                by_cases e : j = 0
                · subst e
                  rw [um_at, if_neg (by omega), if_pos rfl]
                · rw [um_at2 e]
                  by_cases e2 : j < 0
                  · rw [if_pos e2]; exact i1 j e2
                  · rw [if_neg e2, if_neg e]; exact i2 j (by omega) (by omega)
              · rw [um_ne a9, g3 a a9, g2 a a8]; exact h3 a a8 a9
            · exact absurd (show nI 0 ≤ 0 by decide) hc2
          | succ q ihq =>
            intro M3 hqm hpl i1 i2 g3
            have il : M3 9 q = nI (l q) := i1 q (by omega)
            have ill : l q < m := by rw [← hl]; exact lineA_lt (by omega)
            refine g_iload (j := 4) (pc' := 28) dX0_lineUp_26 rfl rfl ?_
            refine g_if_le (tgt := 76) (pc' := 31) dX0_lineUp_28 (by decide) rfl (fun hc2 => ?_) (fun hc2 => ?_)
            · exact absurd hc2 (nI_nle (by omega) (by omega))
            · refine g_aload_n (j := 0) (pc' := 32) dX0_lineUp_31 rfl rfl ?_
              refine g_getR (pc' := 35) dX0_lineUp_32 fX0_30 rfl rfl rfl ?_
              refine g_aload_n (j := 0) (pc' := 36) dX0_lineUp_35 rfl rfl ?_
              refine g_getR (pc' := 39) dX0_lineUp_36 fX0_34 rfl rfl rfl ?_
              refine g_iload (j := 4) (pc' := 41) dX0_lineUp_39 rfl rfl ?_
              refine g_iconst (v := 1) (pc' := 42) dX0_lineUp_41 (by decide) rfl ?_
              refine g_isub (pc' := 43) dX0_lineUp_42 rfl ?_
              refine g_iald (n := q) (pc' := 44) dX0_lineUp_43 rfl (nI_pred q) (by omega) rfl ?_
              refine g_iald (n := l q) (pc' := 45) dX0_lineUp_44 rfl il (by omega) rfl ?_
              refine g_aload_n (j := 0) (pc' := 46) dX0_lineUp_45 rfl rfl ?_
              refine g_getR (pc' := 49) dX0_lineUp_46 fX0_30 rfl rfl rfl ?_
              refine g_iload_n (j := 3) (pc' := 50) dX0_lineUp_49 rfl rfl ?_
              refine g_iald (n := m) (pc' := 51) dX0_lineUp_50 rfl rfl (by omega) rfl ?_
              have ev1 : M3 8 (l q) = off (l q) := by rw [g3 8 (by omega)]; exact g1 _ (by omega)
              have ev2 : M3 8 m = off m := by rw [g3 8 (by omega)]; exact g1 _ (Nat.le_refl _)
              rw [ev1, ev2]
              refine g_icmp_le (tgt := 76) (pc' := 54) dX0_lineUp_51 (by decide) rfl (fun hc3 => ?_) (fun hc3 => ?_)
              · have hpl : plc off m l m = q + 1 := by rw [hpl]; unfold plc; rw [if_neg (Int32.not_lt.mpr hc3)]
                refine g_aload_n (j := 0) (pc' := 77) dX0_lineUp_76 rfl rfl ?_
                refine g_getR (pc' := 80) dX0_lineUp_77 fX0_34 rfl rfl rfl ?_
                refine g_iload (j := 4) (pc' := 82) dX0_lineUp_80 rfl rfl ?_
                refine g_iload_n (j := 3) (pc' := 83) dX0_lineUp_82 rfl rfl ?_
                refine g_iast (n := q + 1) (pc' := 84) dX0_lineUp_83 rfl rfl (by omega) rfl ?_
                refine g_iinc (j := 3) (v := nI (m + 1)) (L' := [(0, .ref 1), (1, .ref p), (2, .int st), (3, .int (nI (m + 1))), (4, .int (nI (q + 1)))]) (pc' := 87) dX0_lineUp_84 rfl (nI_1 m) (by decide) rfl rfl ?_
                refine g_goto (tgt := 2) dX0_lineUp_87 (by decide) ?_
                refine g_less (L' := [(0, .ref 1), (1, .ref p), (2, .int st), (3, .int (nI (m + 1)))]) [0, 1, 2, 3] rfl ?_
                refine ih (m + 1) _ (by omega) (fun j hj => ?_) (fun j hj => ?_) (fun a a8 a9 => ?_)
                · rw [um_ne (by omega), g3 8 (by omega)]; exact g1 j (by omega)
                · show _ = nI (insA off m (lineA off m) j)
                  rw [hl]
                  unfold insA
                  rw [hpl]
                  by_cases e : j = (q + 1)
                  · subst e
                    rw [um_at, if_neg (by omega), if_pos rfl]
                  · rw [um_at2 e]
                    by_cases e2 : j < (q + 1)
                    · rw [if_pos e2]; exact i1 j e2
                    · rw [if_neg e2, if_neg e]; exact i2 j (by omega) (by omega)
                · rw [um_ne a9, g3 a a9, g2 a a8]; exact h3 a a8 a9
              · have hpl : plc off m l m = plc off m l q := by rw [hpl]; conv => lhs; unfold plc; rw [if_pos (Int32.not_le.mp hc3)]
                refine g_aload_n (j := 0) (pc' := 55) dX0_lineUp_54 rfl rfl ?_
                refine g_getR (pc' := 58) dX0_lineUp_55 fX0_34 rfl rfl rfl ?_
                refine g_iload (j := 4) (pc' := 60) dX0_lineUp_58 rfl rfl ?_
                refine g_aload_n (j := 0) (pc' := 61) dX0_lineUp_60 rfl rfl ?_
                refine g_getR (pc' := 64) dX0_lineUp_61 fX0_34 rfl rfl rfl ?_
                refine g_iload (j := 4) (pc' := 66) dX0_lineUp_64 rfl rfl ?_
                refine g_iconst (v := 1) (pc' := 67) dX0_lineUp_66 (by decide) rfl ?_
                refine g_isub (pc' := 68) dX0_lineUp_67 rfl ?_
                refine g_iald (n := q) (pc' := 69) dX0_lineUp_68 rfl (nI_pred q) (by omega) rfl ?_
                refine g_iast (n := q + 1) (pc' := 70) dX0_lineUp_69 rfl rfl (by omega) rfl ?_
                refine g_iinc (j := 4) (v := nI q) (L' := [(0, .ref 1), (1, .ref p), (2, .int st), (3, .int (nI m)), (4, .int (nI q))]) (pc' := 73) dX0_lineUp_70 rfl (pk_m1 q) (by decide) rfl rfl ?_
                refine g_goto (tgt := 26) dX0_lineUp_73 (by decide) ?_
                refine ihq _ (by omega) hpl (fun j hj => ?_) (fun j j1 j2 => ?_) (fun a ha => ?_)
                · rw [um_at2 (by omega)]; exact i1 j (by omega)
                · by_cases e : j = q + 1
                  · subst e; rw [um_at, il]; rfl
                  · rw [um_at2 e]; exact i2 j (by omega) j2
                · rw [um_ne ha]; exact g3 a ha
        exact inner m M2 (Nat.le_refl _) rfl (fun j hj => by rw [g2 9 (by omega)]; exact h2 j hj) (fun j j1 j2 => by omega) (fun a _ => rfl)
  exact outer n 0 M (by omega) (fun j hj => by omega) (fun j hj => by omega) (fun a _ _ => rfl)
set_option maxRecDepth 100000 in
set_option maxHeartbeats 1000000 in
theorem s_wish {M : Nat → Nat → Int32} {N : Nat → Nat → Int64} {p n k : Nat} {P : Nat → Int32} (hp : isPar p) (hok : OkP n k P) (hc0 : IsC M p n k P) {m : Nat} (s : Int32) (hm : m < n) : Run mX0_wish 3 0 0 [.ref 1, .ref p, .int (nI m), .int s] (SK, M, N) (fun r h' => h' = (SK, M, N) ∧ r = some (.int (optI (-1) (wishP P m s k)))) := by
  refine Run.of (by decide) (Nat.le_of_ble_eq_true rfl) ?_
  have hn6 := hok.1
  have hk6 := hok.2.1
  refine g_iconst (v := (-1)) (pc' := 1) dX0_wish_0 (by decide) rfl ?_
  refine g_istore (L' := [(0, .ref 1), (1, .ref p), (2, .int (nI m)), (3, .int s), (4, .int (-1))]) (pc' := 3) dX0_wish_1 (by decide) rfl rfl ?_
  refine g_iconst (v := 0) (pc' := 4) dX0_wish_3 (by decide) rfl ?_
  refine g_istore (L' := [(0, .ref 1), (1, .ref p), (2, .int (nI m)), (3, .int s), (4, .int (-1)), (5, .int 0)]) (pc' := 6) dX0_wish_4 (by decide) rfl rfl ?_
  refine g_iconst (v := 0) (pc' := 7) dX0_wish_6 (by decide) rfl ?_
  refine g_istore (L' := [(0, .ref 1), (1, .ref p), (2, .int (nI m)), (3, .int s), (4, .int (-1)), (5, .int 0), (6, .int 0)]) (pc' := 9) dX0_wish_7 (by decide) rfl rfl ?_
  have loop : ∀ (t i : Nat) (bo mo : Int32), i + t = k → ((wishP P m s i = none ∧ bo = -1) ∨ ∃ b, wishP P m s i = some b ∧ bo = nI b ∧ mo = valP P m b) → Go mX0_wish 3 0 0 9 [(0, .ref 1), (1, .ref p), (2, .int (nI m)), (3, .int s), (4, .int bo), (5, .int mo), (6, .int (nI i))] [] (SK, M, N) (fun r h' => h' = (SK, M, N) ∧ r = some (.int (optI (-1) (wishP P m s k)))) := by
    intro t
    induction t with
    | zero =>
      intro i bo mo hi hw
      have hik : k = i := by omega
      subst hik
      refine g_iload (j := 6) (pc' := 11) dX0_wish_9 rfl rfl ?_
      refine g_aload_n (j := 1) (pc' := 12) dX0_wish_11 rfl rfl ?_
      refine g_getI (pc' := 15) dX0_wish_12 fX0_83 hp.at.c0 rfl rfl ?_
      rw [hc0.2.1]
      refine g_icmp_ge (tgt := 64) (pc' := 18) dX0_wish_15 (by decide) rfl (fun hc => ?_) (fun hc => ?_)
      · have hb : bo = optI (-1) (wishP P m s k) := by
          rcases hw with ⟨h1, h2⟩ | ⟨b, h1, h2, -⟩ <;> rw [h1, h2] <;> rfl
        refine g_iload (j := 4) (pc' := 66) dX0_wish_64 rfl rfl ?_
        exact g_iret dX0_wish_66 rfl rfl (⟨rfl, by rw [hb]⟩)
      · exact absurd (nI_le (Nat.le_refl _) (by omega)) hc
    | succ t ih =>
      intro i bo mo hi hw
      refine g_iload (j := 6) (pc' := 11) dX0_wish_9 rfl rfl ?_
      refine g_aload_n (j := 1) (pc' := 12) dX0_wish_11 rfl rfl ?_
      refine g_getI (pc' := 15) dX0_wish_12 fX0_83 hp.at.c0 rfl rfl ?_
      rw [hc0.2.1]
      refine g_icmp_ge (tgt := 64) (pc' := 18) dX0_wish_15 (by decide) rfl (fun hc => ?_) (fun hc => ?_)
      · exact absurd hc (nI_ge (by omega) (by omega))
      · refine g_iload_n (j := 3) (pc' := 19) dX0_wish_18 rfl rfl ?_
        refine g_iload (j := 6) (pc' := 21) dX0_wish_19 rfl rfl ?_
        refine g_ishr (pc' := 22) dX0_wish_21 rfl ?_
        refine g_iconst (v := 1) (pc' := 23) dX0_wish_22 (by decide) rfl ?_
        refine g_iand (pc' := 24) dX0_wish_23 rfl ?_
        refine g_if_ne (tgt := 58) (pc' := 27) dX0_wish_24 (by decide) rfl (fun hc2 => ?_) (fun hc2 => ?_)
        · refine g_iinc (j := 6) (v := nI (i + 1)) (L' := [(0, .ref 1), (1, .ref p), (2, .int (nI m)), (3, .int s), (4, .int bo), (5, .int mo), (6, .int (nI (i + 1)))]) (pc' := 61) dX0_wish_58 rfl (nI_1 i) (by decide) rfl rfl ?_
          refine g_goto (tgt := 9) dX0_wish_61 (by decide) ?_
          refine ih (i + 1) bo mo (by omega) ?_
          simp only [wishP]
          rw [if_neg hc2]
          exact hw
        · refine g_aload_n (j := 0) (pc' := 28) dX0_wish_27 rfl rfl ?_
          refine g_aload_n (j := 1) (pc' := 29) dX0_wish_28 rfl rfl ?_
          refine g_iload_n (j := 2) (pc' := 30) dX0_wish_29 rfl rfl ?_
          refine g_iload (j := 6) (pc' := 32) dX0_wish_30 rfl rfl ?_
          refine g_callV (my := mX0_esteem) (k := 1) (st := []) (av := [.ref p, .int (nI m), .int (nI i)]) (mcr := 0) (msr := 0) (mc := 0) (ms := 0) (pc' := 35) dX0_wish_32 kX0_esteem wX0_86 rfl ⟨rfl, rfl⟩ rfl (Nat.le_of_ble_eq_true rfl) (by decide) (s_valP hp hok hc0 hm (by omega)) rfl ?_
          rintro _ _ ⟨rfl, rfl⟩
          show Go mX0_wish _ _ _ 35 [(0, .ref 1), (1, .ref p), (2, .int (nI m)), (3, .int s), (4, .int bo), (5, .int mo), (6, .int (nI i))] [.int (valP P m i)] (SK, M, N) _
          rcases hw with ⟨h1, rfl⟩ | ⟨b, h1, rfl, rfl⟩
          · refine g_istore (L' := [(0, .ref 1), (1, .ref p), (2, .int (nI m)), (3, .int s), (4, .int (-1)), (5, .int mo), (6, .int (nI i)), (7, .int (valP P m i))]) (pc' := 37) dX0_wish_35 (by decide) rfl rfl ?_
            refine g_iload (j := 4) (pc' := 39) dX0_wish_37 rfl rfl ?_
            refine g_iconst (v := (-1)) (pc' := 40) dX0_wish_39 (by decide) rfl ?_
            refine g_icmp_eq (tgt := 50) (pc' := 43) dX0_wish_40 (by decide) rfl (fun hc3 => ?_) (fun hc3 => ?_)
            · refine g_iload (j := 6) (pc' := 52) dX0_wish_50 rfl rfl ?_
              refine g_istore (L' := [(0, .ref 1), (1, .ref p), (2, .int (nI m)), (3, .int s), (4, .int (nI i)), (5, .int mo), (6, .int (nI i)), (7, .int (valP P m i))]) (pc' := 54) dX0_wish_52 (by decide) rfl rfl ?_
              refine g_iload (j := 7) (pc' := 56) dX0_wish_54 rfl rfl ?_
              refine g_istore (L' := [(0, .ref 1), (1, .ref p), (2, .int (nI m)), (3, .int s), (4, .int (nI i)), (5, .int (valP P m i)), (6, .int (nI i)), (7, .int (valP P m i))]) (pc' := 58) dX0_wish_56 (by decide) rfl rfl ?_
              refine g_iinc (j := 6) (v := nI (i + 1)) (L' := [(0, .ref 1), (1, .ref p), (2, .int (nI m)), (3, .int s), (4, .int (nI i)), (5, .int (valP P m i)), (6, .int (nI (i + 1))), (7, .int (valP P m i))]) (pc' := 61) dX0_wish_58 rfl (nI_1 i) (by decide) rfl rfl ?_
              refine g_goto (tgt := 9) dX0_wish_61 (by decide) ?_
              refine g_less (L' := [(0, .ref 1), (1, .ref p), (2, .int (nI m)), (3, .int s), (4, .int (nI i)), (5, .int (valP P m i)), (6, .int (nI (i + 1)))]) [0, 1, 2, 3, 4, 5, 6] rfl ?_
              refine ih (i + 1) (nI i) (valP P m i) (by omega) (Or.inr ⟨i, ?_, rfl, rfl⟩)
              simp only [wishP]
              rw [if_pos hc2, h1]
            · exact absurd rfl hc3
          · have hbk := wishP_lt h1
            refine g_istore (L' := [(0, .ref 1), (1, .ref p), (2, .int (nI m)), (3, .int s), (4, .int (nI b)), (5, .int (valP P m b)), (6, .int (nI i)), (7, .int (valP P m i))]) (pc' := 37) dX0_wish_35 (by decide) rfl rfl ?_
            refine g_iload (j := 4) (pc' := 39) dX0_wish_37 rfl rfl ?_
            refine g_iconst (v := (-1)) (pc' := 40) dX0_wish_39 (by decide) rfl ?_
            refine g_icmp_eq (tgt := 50) (pc' := 43) dX0_wish_40 (by decide) rfl (fun hc3 => ?_) (fun hc3 => ?_)
            · exfalso
              have h2 := congrArg Int32.toInt hc3
              rw [nI_toInt (by omega)] at h2
              have h4 : (-1 : Int32).toInt = -1 := by decide
              omega
            · refine g_iload (j := 7) (pc' := 45) dX0_wish_43 rfl rfl ?_
              refine g_iload (j := 5) (pc' := 47) dX0_wish_45 rfl rfl ?_
              refine g_icmp_le (tgt := 58) (pc' := 50) dX0_wish_47 (by decide) rfl (fun hc4 => ?_) (fun hc4 => ?_)
              · refine g_iinc (j := 6) (v := nI (i + 1)) (L' := [(0, .ref 1), (1, .ref p), (2, .int (nI m)), (3, .int s), (4, .int (nI b)), (5, .int (valP P m b)), (6, .int (nI (i + 1))), (7, .int (valP P m i))]) (pc' := 61) dX0_wish_58 rfl (nI_1 i) (by decide) rfl rfl ?_
                refine g_goto (tgt := 9) dX0_wish_61 (by decide) ?_
                refine g_less (L' := [(0, .ref 1), (1, .ref p), (2, .int (nI m)), (3, .int s), (4, .int (nI b)), (5, .int (valP P m b)), (6, .int (nI (i + 1)))]) [0, 1, 2, 3, 4, 5, 6] rfl ?_
                refine ih (i + 1) (nI b) (valP P m b) (by omega) (Or.inr ⟨b, ?_, rfl, rfl⟩)
                simp only [wishP]
                rw [if_pos hc2, h1]
                simp only
                rw [if_neg (Int32.not_lt.mpr hc4)]
              · refine g_iload (j := 6) (pc' := 52) dX0_wish_50 rfl rfl ?_
                refine g_istore (L' := [(0, .ref 1), (1, .ref p), (2, .int (nI m)), (3, .int s), (4, .int (nI i)), (5, .int (valP P m b)), (6, .int (nI i)), (7, .int (valP P m i))]) (pc' := 54) dX0_wish_52 (by decide) rfl rfl ?_
                refine g_iload (j := 7) (pc' := 56) dX0_wish_54 rfl rfl ?_
                refine g_istore (L' := [(0, .ref 1), (1, .ref p), (2, .int (nI m)), (3, .int s), (4, .int (nI i)), (5, .int (valP P m i)), (6, .int (nI i)), (7, .int (valP P m i))]) (pc' := 58) dX0_wish_56 (by decide) rfl rfl ?_
                refine g_iinc (j := 6) (v := nI (i + 1)) (L' := [(0, .ref 1), (1, .ref p), (2, .int (nI m)), (3, .int s), (4, .int (nI i)), (5, .int (valP P m i)), (6, .int (nI (i + 1))), (7, .int (valP P m i))]) (pc' := 61) dX0_wish_58 rfl (nI_1 i) (by decide) rfl rfl ?_
                refine g_goto (tgt := 9) dX0_wish_61 (by decide) ?_
                refine g_less (L' := [(0, .ref 1), (1, .ref p), (2, .int (nI m)), (3, .int s), (4, .int (nI i)), (5, .int (valP P m i)), (6, .int (nI (i + 1)))]) [0, 1, 2, 3, 4, 5, 6] rfl ?_
                refine ih (i + 1) (nI i) (valP P m i) (by omega) (Or.inr ⟨i, ?_, rfl, rfl⟩)
                simp only [wishP]
                rw [if_pos hc2, h1]; simp only; rw [if_pos (Int32.not_le.mp hc4)]
  exact loop k 0 (-1) 0 (by omega) (Or.inl ⟨rfl, rfl⟩)
/-- Choice's cells behind make, of a parish that is P -/
def Made (M M' : Nat → Nat → Int32) (n k : Nat) (P : Nat → Int32) (st : Int32) : Prop := (∀ j, j < n → M' 8 j = offP P st j) ∧ (∀ j, j < n → M' 9 j = nI (lineA (offP P st) n j)) ∧ (∀ x, x < n → M' 10 x = optI (-1) ((choP P n k st).2 x)) ∧ ∀ a, a ≠ 8 → a ≠ 9 → a ≠ 10 → M' a = M a
set_option maxRecDepth 100000 in
set_option maxHeartbeats 1000000 in
theorem s_make {M : Nat → Nat → Int32} {N : Nat → Nat → Int64} {p n k : Nat} {P : Nat → Int32} (hp : isPar p) (hok : OkP n k P) (hc0 : IsC M p n k P) (st : Int32) : Run mX0_make 4 0 0 [.ref 1, .ref p, .int st] (SK, M, N) (fun r h' => ∃ M', h' = (SK, M', N) ∧ r = some (.int (choP P n k st).1) ∧ Made M M' n k P st) := by
  refine Run.of (by decide) (Nat.le_of_ble_eq_true rfl) ?_
  have hn6 := hok.1
  have hk6 := hok.2.1
  have hpg := hp.ge
  refine g_aload_n (j := 0) (pc' := 1) dX0_make_0 rfl rfl ?_
  refine g_aload_n (j := 1) (pc' := 2) dX0_make_1 rfl rfl ?_
  refine g_iload_n (j := 2) (pc' := 3) dX0_make_2 rfl rfl ?_
  refine g_callV (my := mX0_lineUp) (k := 1) (st := []) (av := [.ref p, .int st]) (mcr := 0) (msr := 0) (mc := 0) (ms := 0) (pc' := 6) dX0_make_3 kX0_lineUp wX0_72 rfl ⟨rfl, rfl⟩ rfl (Nat.le_of_ble_eq_true rfl) (by decide) (s_lineUp hp hok hc0 st) rfl ?_
  rintro _ _ ⟨M1, rfl, rfl, hl1, hl2, hl3⟩
  show Go mX0_make _ _ _ 6 [(0, .ref 1), (1, .ref p), (2, .int st)] [] (SK, M1, N) _
  refine g_iconst (v := 0) (pc' := 7) dX0_make_6 (by decide) rfl ?_
  refine g_istore_n (L' := [(0, .ref 1), (1, .ref p), (2, .int st), (3, .int 0)]) (pc' := 8) dX0_make_7 (by decide) rfl rfl ?_
  refine g_iconst (v := 0) (pc' := 9) dX0_make_8 (by decide) rfl ?_
  refine g_istore (L' := [(0, .ref 1), (1, .ref p), (2, .int st), (3, .int 0), (4, .int 0)]) (pc' := 11) dX0_make_9 (by decide) rfl rfl ?_
  generalize hln : lineA (offP P st) n = ln at hl2
  have hlt : ∀ j, j < n → ln j < n := fun j hj => by rw [← hln]; exact lineA_lt hj
  have loop : ∀ (t j : Nat) (M2 : Nat → Nat → Int32), j + t = n → (∀ x, (∃ i, i < j ∧ ln i = x) → M2 10 x = optI (-1) ((chG P k ln j).2 x)) → (∀ a, a ≠ 10 → M2 a = M1 a) → Go mX0_make 4 0 0 11 [(0, .ref 1), (1, .ref p), (2, .int st), (3, .int (chG P k ln j).1), (4, .int (nI j))] [] (SK, M2, N) (fun r h' => ∃ M', h' = (SK, M', N) ∧ r = some (.int (choP P n k st).1) ∧ Made M M' n k P st) := by
    intro t
    induction t with
    | zero =>
      intro j M2 hj h1 h2
      have hjn : n = j := by omega
      subst hjn
      have hcM : IsC M2 p n k P := hc0.keep (fun a a1 a2 => (h2 a (by omega)).trans (hl3 a (by omega) (by omega)))
      refine g_iload (j := 4) (pc' := 13) dX0_make_11 rfl rfl ?_
      refine g_aload_n (j := 1) (pc' := 14) dX0_make_13 rfl rfl ?_
      refine g_getI (pc' := 17) dX0_make_14 fX0_76 hp.at.c0 rfl rfl ?_
      rw [hcM.1]
      refine g_icmp_ge (tgt := 67) (pc' := 20) dX0_make_17 (by decide) rfl (fun hc => ?_) (fun hc => ?_)
      · have hcho : choP P n k st = chG P k ln n := by unfold choP; rw [hln]
        refine g_iload_n (j := 3) (pc' := 68) dX0_make_67 rfl rfl ?_
        exact g_iret dX0_make_68 rfl rfl (⟨M2, rfl, by rw [hcho], fun j hj => by rw [h2 8 (by omega)]; exact hl1 j hj, fun j hj => by rw [h2 9 (by omega), hln]; exact hl2 j hj, fun x hx => by rw [hcho]; exact h1 x (by rw [← hln]; exact lineA_surj hx), fun a a8 a9 a10 => (h2 a a10).trans (hl3 a a8 a9)⟩)
      · exact absurd (nI_le (Nat.le_refl _) (by omega)) hc
    | succ t ih =>
      intro j M2 hj h1 h2
      have hcM : IsC M2 p n k P := hc0.keep (fun a a1 a2 => (h2 a (by omega)).trans (hl3 a (by omega) (by omega)))
      refine g_iload (j := 4) (pc' := 13) dX0_make_11 rfl rfl ?_
      refine g_aload_n (j := 1) (pc' := 14) dX0_make_13 rfl rfl ?_
      refine g_getI (pc' := 17) dX0_make_14 fX0_76 hp.at.c0 rfl rfl ?_
      rw [hcM.1]
      refine g_icmp_ge (tgt := 67) (pc' := 20) dX0_make_17 (by decide) rfl (fun hc => ?_) (fun hc => ?_)
      · exact absurd hc (nI_ge (by omega) (by omega))
      · have hlj : M2 9 j = nI (ln j) := by rw [h2 9 (by omega)]; exact hl2 j (by omega)
        have hlj2 := hlt j (by omega)
        refine g_aload_n (j := 0) (pc' := 21) dX0_make_20 rfl rfl ?_
        refine g_getR (pc' := 24) dX0_make_21 fX0_34 rfl rfl rfl ?_
        refine g_iload (j := 4) (pc' := 26) dX0_make_24 rfl rfl ?_
        refine g_iald (n := j) (pc' := 27) dX0_make_26 rfl rfl (by omega) rfl ?_
        refine g_top (y := nI (ln j)) (hlj) ?_
        refine g_istore (L' := [(0, .ref 1), (1, .ref p), (2, .int st), (3, .int ((chG P k ln j).1)), (4, .int (nI j)), (5, .int (nI (ln j)))]) (pc' := 29) dX0_make_27 (by decide) rfl rfl ?_
        refine g_aload_n (j := 0) (pc' := 30) dX0_make_29 rfl rfl ?_
        refine g_aload_n (j := 1) (pc' := 31) dX0_make_30 rfl rfl ?_
        refine g_iload (j := 5) (pc' := 33) dX0_make_31 rfl rfl ?_
        refine g_iload_n (j := 3) (pc' := 34) dX0_make_33 rfl rfl ?_
        refine g_callV (my := mX0_wish) (k := 1) (st := []) (av := [.ref p, .int (nI (ln j)), .int ((chG P k ln j).1)]) (mcr := 0) (msr := 0) (mc := 0) (ms := 0) (pc' := 37) dX0_make_34 kX0_wish wX0_89 rfl ⟨rfl, rfl⟩ rfl (Nat.le_of_ble_eq_true rfl) (by decide) (s_wish hp hok hcM (chG P k ln j).1 hlj2) rfl ?_
        rintro _ _ ⟨rfl, rfl⟩
        show Go mX0_make _ _ _ 37 [(0, .ref 1), (1, .ref p), (2, .int st), (3, .int ((chG P k ln j).1)), (4, .int (nI j)), (5, .int (nI (ln j)))] [.int (optI (-1) (wishP P (ln j) (chG P k ln j).1 k))] (SK, M2, N) _
        generalize hwo : wishP P (ln j) (chG P k ln j).1 k = wo
        have hwl : ∀ i, wo = some i → i < k := fun i q => wishP_lt (hwo.trans q)
        refine g_istore (L' := [(0, .ref 1), (1, .ref p), (2, .int st), (3, .int ((chG P k ln j).1)), (4, .int (nI j)), (5, .int (nI (ln j))), (6, .int (optI (-1) wo))]) (pc' := 39) dX0_make_37 (by decide) rfl rfl ?_
        refine g_aload_n (j := 0) (pc' := 40) dX0_make_39 rfl rfl ?_
        refine g_getR (pc' := 43) dX0_make_40 fX0_37 rfl rfl rfl ?_
        refine g_iload (j := 5) (pc' := 45) dX0_make_43 rfl rfl ?_
        refine g_iload (j := 6) (pc' := 47) dX0_make_45 rfl rfl ?_
        refine g_iast (n := ln j) (pc' := 48) dX0_make_47 rfl rfl (by omega) rfl ?_
        have hstep : ∀ x, (∃ i, i < j + 1 ∧ ln i = x) → um M2 10 (ln j) (optI (-1) wo) 10 x = optI (-1) ((chG P k ln (j + 1)).2 x) := by
          rintro x ⟨i, hi, rfl⟩
          simp only [chG]
          rw [hwo]
          by_cases e : ln i = ln j
          · rw [e, um_at, if_pos rfl]
          · rw [um_at2 e, if_neg e]
            exact h1 _ ⟨i, by
              rcases Nat.lt_or_ge i j with q | q
              · exact q
              · exact absurd (congrArg ln (show i = j by omega)) e, rfl⟩
        have hfr : ∀ a, a ≠ 10 → um M2 10 (ln j) (optI (-1) wo) a = M1 a := fun a ha => by rw [um_ne ha]; exact h2 a ha
        have hch : (chG P k ln (j + 1)).1 = addS (chG P k ln j).1 wo := by simp only [chG]; rw [hwo]
        cases wo with
        | none =>
          have e9 : (optI (-1) none) = (-1 : Int32) := rfl
          show Go mX0_make _ _ _ 48 [(0, .ref 1), (1, .ref p), (2, .int st), (3, .int ((chG P k ln j).1)), (4, .int (nI j)), (5, .int (nI (ln j))), (6, .int (-1))] [] (SK, (um M2 10 (ln j) (optI (-1) none)), N) _
          refine g_iload (j := 6) (pc' := 50) dX0_make_48 rfl rfl ?_
          refine g_iconst (v := (-1)) (pc' := 51) dX0_make_50 (by decide) rfl ?_
          refine g_icmp_eq (tgt := 61) (pc' := 54) dX0_make_51 (by decide) rfl (fun hc2 => ?_) (fun hc2 => ?_)
          · refine g_iinc (j := 4) (v := nI (j + 1)) (L' := [(0, .ref 1), (1, .ref p), (2, .int st), (3, .int ((chG P k ln j).1)), (4, .int (nI (j + 1))), (5, .int (nI (ln j))), (6, .int (-1))]) (pc' := 64) dX0_make_61 rfl (nI_1 j) (by decide) rfl rfl ?_
            refine g_goto (tgt := 11) dX0_make_64 (by decide) ?_
            refine g_less (L' := [(0, .ref 1), (1, .ref p), (2, .int st), (3, .int ((chG P k ln j).1)), (4, .int (nI (j + 1)))]) [0, 1, 2, 3, 4] rfl ?_
            have e8 := ih (j + 1) _ (by omega) hstep hfr
            rw [hch] at e8
            exact e8
          · exact absurd rfl hc2
        | some i =>
          have hik := hwl i rfl
          show Go mX0_make _ _ _ 48 [(0, .ref 1), (1, .ref p), (2, .int st), (3, .int ((chG P k ln j).1)), (4, .int (nI j)), (5, .int (nI (ln j))), (6, .int (nI i))] [] (SK, (um M2 10 (ln j) (optI (-1) (some i))), N) _
          refine g_iload (j := 6) (pc' := 50) dX0_make_48 rfl rfl ?_
          refine g_iconst (v := (-1)) (pc' := 51) dX0_make_50 (by decide) rfl ?_
          refine g_icmp_eq (tgt := 61) (pc' := 54) dX0_make_51 (by decide) rfl (fun hc2 => ?_) (fun hc2 => ?_)
          · exfalso
            have h2 := congrArg Int32.toInt hc2
            rw [nI_toInt (by omega)] at h2
            have h4 : (-1 : Int32).toInt = -1 := by decide
            omega
          · refine g_iload_n (j := 3) (pc' := 55) dX0_make_54 rfl rfl ?_
            refine g_iconst (v := 1) (pc' := 56) dX0_make_55 (by decide) rfl ?_
            refine g_iload (j := 6) (pc' := 58) dX0_make_56 rfl rfl ?_
            refine g_ishl (pc' := 59) dX0_make_58 rfl ?_
            refine g_ior (pc' := 60) dX0_make_59 rfl ?_
            refine g_istore_n (L' := [(0, .ref 1), (1, .ref p), (2, .int st), (3, .int (((chG P k ln j).1) ||| (1 <<< ((nI i) &&& 31)))), (4, .int (nI j)), (5, .int (nI (ln j))), (6, .int (nI i))]) (pc' := 61) dX0_make_60 (by decide) rfl rfl ?_
            refine g_iinc (j := 4) (v := nI (j + 1)) (L' := [(0, .ref 1), (1, .ref p), (2, .int st), (3, .int (((chG P k ln j).1) ||| (1 <<< ((nI i) &&& 31)))), (4, .int (nI (j + 1))), (5, .int (nI (ln j))), (6, .int (nI i))]) (pc' := 64) dX0_make_61 rfl (nI_1 j) (by decide) rfl rfl ?_
            refine g_goto (tgt := 11) dX0_make_64 (by decide) ?_
            refine g_less (L' := [(0, .ref 1), (1, .ref p), (2, .int st), (3, .int (((chG P k ln j).1) ||| (1 <<< ((nI i) &&& 31)))), (4, .int (nI (j + 1)))]) [0, 1, 2, 3, 4] rfl ?_
            have e8 := ih (j + 1) _ (by omega) hstep hfr
            rw [hch] at e8
            exact e8
  exact loop n 0 M1 (by omega) (fun x hx => by obtain ⟨i, hi, -⟩ := hx; omega) (fun a _ => rfl)
