/-! ===== Choice.hold, placeOf ===== -/
theorem s_valQ {M : Nat → Nat → Int32} {N : Nat → Nat → Int64} {p n k : Nat} {P : Nat → Int32} (hp : isPar p) (hok : OkP n k P) {m i : Nat} (hm : m < n) (hi : i < k) (e1 : M (p + 1) m = P (4 + m)) (e6 : M (p + 6) i = P (34 + i)) (e7 : M (p + 7) i = P (40 + i)) : Run mX0_esteem 2 0 0 [.ref 1, .ref p, .int (nI m), .int (nI i)] (SK, M, N) (fun r h' => h' = (SK, M, N) ∧ r = some (.int (valP P m i))) := by
  obtain ⟨hn6, hk6, -, -, ho, -⟩ := hok
  obtain ⟨⟨q, hq, eq⟩, -⟩ := ho m hm
  have h9 := s_esteem (M := M) (N := N) (p := p) (m := m) (n := i) (k := q) hp.at (by omega) (by omega) (by rw [e1, eq]) hq
  rw [e1, e6, e7] at h9
  exact h9
theorem nI_ne_m1 {i : Nat} (h : i < 1000) : ¬ nI i = -1 := by
  intro q
  have h2 := congrArg Int32.toInt q
  rw [nI_toInt (by omega)] at h2
  have h4 : (-1 : Int32).toInt = -1 := by decide
  omega
/-- the parish is marched; Choice's cells hold what was chosen; all else stays -/
def Held (M M' : Nat → Nat → Int32) (p n k : Nat) (P : Nat → Int32) (st : Int32) : Prop := IsC M' p n k (marchP n k P st) ∧ ∀ a, a ≠ 8 → a ≠ 9 → a ≠ 10 → (a < p ∨ p + 8 ≤ a) → M' a = M a
set_option maxRecDepth 100000 in
set_option maxHeartbeats 1000000 in
theorem s_hold {M : Nat → Nat → Int32} {N : Nat → Nat → Int64} {p n k : Nat} {P : Nat → Int32} (hp : isPar p) (hok : OkP n k P) (hc0 : IsC M p n k P) (st : Int32) : Run mX0_hold 5 0 0 [.ref 1, .ref p, .int st] (SK, M, N) (fun r h' => ∃ M', h' = (SK, M', N) ∧ r = none ∧ Held M M' p n k P st) := by
  refine Run.of (by decide) (Nat.le_of_ble_eq_true rfl) ?_
  have hn6 := hok.1
  have hk6 := hok.2.1
  have hpg := hp.ge
  refine g_aload_n (j := 0) (pc' := 1) dX0_hold_0 rfl rfl ?_
  refine g_aload_n (j := 1) (pc' := 2) dX0_hold_1 rfl rfl ?_
  refine g_iload_n (j := 2) (pc' := 3) dX0_hold_2 rfl rfl ?_
  refine g_callV (my := mX0_make) (k := 1) (st := []) (av := [.ref p, .int st]) (mcr := 0) (msr := 0) (mc := 0) (ms := 0) (pc' := 6) dX0_hold_3 kX0_make wX0_92 rfl ⟨rfl, rfl⟩ rfl (Nat.le_of_ble_eq_true rfl) (by decide) (s_make hp hok hc0 st) rfl ?_
  rintro _ _ ⟨M1, rfl, rfl, hm8, hm9, hm10, hmf⟩
  show Go mX0_hold _ _ _ 6 [(0, .ref 1), (1, .ref p), (2, .int st)] [.int ((choP P n k st).1)] (SK, M1, N) _
  have hcM : IsC M1 p n k P := hc0.keep (fun a a1 a2 => hmf a (by omega) (by omega) (by omega))
  generalize hcp : choP P n k st = cp at hm10
  have hclt : ∀ m i, cp.2 m = some i → i < k := fun m i q => by rw [← hcp] at q; exact choP_lt q
  refine g_istore_n (L' := [(0, .ref 1), (1, .ref p), (2, .int st), (3, .int cp.1)]) (pc' := 7) dX0_hold_6 (by decide) rfl rfl ?_
  refine g_iconst (v := 0) (pc' := 8) dX0_hold_7 (by decide) rfl ?_
  refine g_istore (L' := [(0, .ref 1), (1, .ref p), (2, .int st), (3, .int cp.1), (4, .int 0)]) (pc' := 10) dX0_hold_8 (by decide) rfl rfl ?_
  have names : ∀ (t i : Nat) (M3 : Nat → Nat → Int32), i + t = k → (M3 p = M1 p ∧ M3 (p + 1) = M1 (p + 1) ∧ M3 (p + 3) = M1 (p + 3)) → (∀ j, j < n → M3 (p + 5) j = optI (-1) (cp.2 j) ∧ M3 (p + 4) j = credM P cp.2 j ∧ M3 (p + 2) j = handM P cp.2 j) → (∀ j, j < i → M3 (p + 6) j = worthM P cp.1 j ∧ M3 (p + 7) j = debtM P cp.1 j) → (∀ j, i ≤ j → j < k → M3 (p + 6) j = P (34 + j) ∧ M3 (p + 7) j = P (40 + j)) → (∀ a, (a < p ∨ p + 8 ≤ a) → M3 a = M1 a) → Go mX0_hold 5 0 0 97 [(0, .ref 1), (1, .ref p), (2, .int st), (3, .int cp.1), (4, .int (nI i))] [] (SK, M3, N) (fun r h' => ∃ M', h' = (SK, M', N) ∧ r = none ∧ Held M M' p n k P st) := by
    intro t
    induction t with
    | zero =>
      intro i M3 hi h0 h5 h6 h7 hf
      have hik : k = i := by omega
      subst hik
      refine g_iload (j := 4) (pc' := 99) dX0_hold_97 rfl rfl ?_
      refine g_aload_n (j := 1) (pc' := 100) dX0_hold_99 rfl rfl ?_
      refine g_getI (pc' := 103) dX0_hold_100 fX0_83 hp.at.c0 rfl rfl ?_
      rw [show M3 p 1 = nI k by rw [h0.1]; exact hcM.2.1]
      refine g_icmp_ge (tgt := 164) (pc' := 106) dX0_hold_103 (by decide) rfl (fun hc => ?_) (fun hc => ?_)
      · refine g_aload_n (j := 1) (pc' := 165) dX0_hold_164 rfl rfl ?_
        refine g_dup (pc' := 166) dX0_hold_165 rfl rfl ?_
        refine g_getI (pc' := 169) dX0_hold_166 fX0_51 hp.at.c0 rfl rfl ?_
        refine g_iconst (v := 1) (pc' := 170) dX0_hold_169 (by decide) rfl ?_
        refine g_iadd (pc' := 171) dX0_hold_170 rfl ?_
        refine g_putI (pc' := 174) dX0_hold_171 fX0_51 hp.at.c0 rfl ⟨rfl, rfl⟩ rfl ?_
        generalize hM4 : (um M3 p 3 ((M3 p 3) + 1)) = M4
        have g0 : M4 p 3 = P 3 + 1 := by rw [← hM4, um_at, h0.1, hcM.2.2.2.1]
        have g1 : ∀ j, j ≠ 3 → M4 p j = M1 p j := fun j hj => by rw [← hM4, um_at2 hj, h0.1]
        have g2 : ∀ a, a ≠ p → M4 a = M3 a := fun a ha => by rw [← hM4, um_ne ha]
        have hIs : IsC M4 p n k (marchP n k P st) := by
          refine ⟨(g1 0 (by omega)).trans hcM.1, (g1 1 (by omega)).trans hcM.2.1, ?_, ?_, ?_, fun m hm => ?_, fun i hi => ?_⟩
          · rw [g1 2 (by omega), mp_same (by omega) (by omega) hn6 hk6]; exact hcM.2.2.1
          · rw [g0, mp_3]
          · rw [g1 4 (by omega), mp_same (by omega) (by omega) hn6 hk6]; exact hcM.2.2.2.2.1
          · obtain ⟨e1, e2, e3, e4, e5⟩ := hcM.2.2.2.2.2.1 m hm
            obtain ⟨q5, q4, q2⟩ := h5 m hm
            rw [g2 (p + 1) (by omega), g2 (p + 2) (by omega), g2 (p + 3) (by omega), g2 (p + 4) (by omega), g2 (p + 5) (by omega), h0.2.1, h0.2.2, q5, q4, q2, e1, e3, mp_hand hn6 hm, mp_cred hn6 hm, mp_call hn6 hm, mp_same (by omega) (by omega) hn6 hk6, mp_same (by omega) (by omega) hn6 hk6, hcp]
            exact ⟨rfl, rfl, rfl, rfl, (unN_optI (fun i q => hclt m i q) hk6).symm⟩
          · obtain ⟨q6, q7⟩ := h6 i hi
            rw [g2 (p + 6) (by omega), g2 (p + 7) (by omega), q6, q7, mp_worth hn6 hk6 hi, mp_debt hn6 hk6 hi, hcp]
            exact ⟨rfl, rfl⟩
        exact g_vret dX0_hold_174 rfl (⟨M4, rfl, rfl, hIs, fun a a8 a9 a10 ha => (g2 a (by omega)).trans ((hf a ha).trans (hmf a a8 a9 a10))⟩)
      · exact absurd (nI_le (Nat.le_refl _) (by omega)) hc
    | succ t ih =>
      intro i M3 hi h0 h5 h6 h7 hf
      refine g_iload (j := 4) (pc' := 99) dX0_hold_97 rfl rfl ?_
      refine g_aload_n (j := 1) (pc' := 100) dX0_hold_99 rfl rfl ?_
      refine g_getI (pc' := 103) dX0_hold_100 fX0_83 hp.at.c0 rfl rfl ?_
      rw [show M3 p 1 = nI k by rw [h0.1]; exact hcM.2.1]
      refine g_icmp_ge (tgt := 164) (pc' := 106) dX0_hold_103 (by decide) rfl (fun hc => ?_) (fun hc => ?_)
      · exact absurd hc (nI_ge (by omega) (by omega))
      · obtain ⟨⟨qw, qw20, eqw⟩, ⟨qd, qd20, eqd⟩⟩ := hok.2.2.2.2.2.2.1 i (by omega)
        refine g_iload_n (j := 3) (pc' := 107) dX0_hold_106 rfl rfl ?_
        refine g_iload (j := 4) (pc' := 109) dX0_hold_107 rfl rfl ?_
        refine g_ishr (pc' := 110) dX0_hold_109 rfl ?_
        refine g_iconst (v := 1) (pc' := 111) dX0_hold_110 (by decide) rfl ?_
        refine g_iand (pc' := 112) dX0_hold_111 rfl ?_
        refine g_if_eq (tgt := 138) (pc' := 115) dX0_hold_112 (by decide) rfl (fun hc2 => ?_) (fun hc2 => ?_)
        · refine g_aload_n (j := 1) (pc' := 139) dX0_hold_138 rfl rfl ?_
          refine g_getR (pc' := 142) dX0_hold_139 fX0_59 hp.at.c0 rfl rfl ?_
          refine g_iload (j := 4) (pc' := 144) dX0_hold_142 rfl rfl ?_
          refine g_iconst (v := 0) (pc' := 145) dX0_hold_144 (by decide) rfl ?_
          refine g_aload_n (j := 1) (pc' := 146) dX0_hold_145 rfl rfl ?_
          refine g_getR (pc' := 149) dX0_hold_146 fX0_59 hp.at.c0 rfl rfl ?_
          refine g_iload (j := 4) (pc' := 151) dX0_hold_149 rfl rfl ?_
          refine g_iald (n := i) (pc' := 152) dX0_hold_151 hp.at.c6 rfl (by omega) rfl ?_
          refine g_iconst (v := 1) (pc' := 153) dX0_hold_152 (by decide) rfl ?_
          refine g_isub (pc' := 154) dX0_hold_153 rfl ?_
          rw [(h7 i (Nat.le_refl _) (by omega)).1]
          refine g_max (st := [.int (nI i), .ref (p + 6)]) (pc' := 157) dX0_hold_154 zX0_102 (Nat.le_of_ble_eq_true rfl) (by decide) rfl ?_
          refine g_top (y := decI (P (34 + i))) (by rw [eqw]; exact dec_max qw (by omega)) ?_
          refine g_iast (n := i) (pc' := 158) dX0_hold_157 hp.at.c6 rfl (by omega) rfl ?_
          refine g_iinc (j := 4) (v := nI (i + 1)) (L' := [(0, .ref 1), (1, .ref p), (2, .int st), (3, .int cp.1), (4, .int (nI (i + 1)))]) (pc' := 161) dX0_hold_158 rfl (nI_1 i) (by decide) rfl rfl ?_
          refine g_goto (tgt := 97) dX0_hold_161 (by decide) ?_
          refine ih (i + 1) _ (by omega) ⟨?_, ?_, ?_⟩ (fun j hj => ?_) (fun j hj => ?_) (fun j j1 j2 => ?_) (fun a ha => ?_)
          · rw [um_ne (by omega)]; exact h0.1
          · rw [um_ne (by omega)]; exact h0.2.1
          · rw [um_ne (by omega)]; exact h0.2.2
          · rw [um_ne (by omega), um_ne (by omega), um_ne (by omega)]; exact h5 j hj
          · by_cases e : j = i
            · subst e
              rw [um_at, um_ne (by omega)]
              unfold worthM debtM
              rw [if_pos hc2, if_pos hc2]
              exact ⟨rfl, (h7 j (Nat.le_refl _) (by omega)).2⟩
            · have h9 := h6 j (by omega)
              rw [um_at2 e, um_ne (by omega)]
              exact h9
          · rw [um_at2 (by omega), um_ne (by omega)]; exact h7 j (by omega) j2
          · rw [um_ne (by omega)]; exact hf a ha
        · refine g_aload_n (j := 1) (pc' := 116) dX0_hold_115 rfl rfl ?_
          refine g_getR (pc' := 119) dX0_hold_116 fX0_62 hp.at.c0 rfl rfl ?_
          refine g_iload (j := 4) (pc' := 121) dX0_hold_119 rfl rfl ?_
          refine g_iconst (v := 0) (pc' := 122) dX0_hold_121 (by decide) rfl ?_
          refine g_aload_n (j := 1) (pc' := 123) dX0_hold_122 rfl rfl ?_
          refine g_getR (pc' := 126) dX0_hold_123 fX0_62 hp.at.c0 rfl rfl ?_
          refine g_iload (j := 4) (pc' := 128) dX0_hold_126 rfl rfl ?_
          refine g_iald (n := i) (pc' := 129) dX0_hold_128 hp.at.c7 rfl (by omega) rfl ?_
          refine g_iconst (v := 1) (pc' := 130) dX0_hold_129 (by decide) rfl ?_
          refine g_isub (pc' := 131) dX0_hold_130 rfl ?_
          rw [(h7 i (Nat.le_refl _) (by omega)).2]
          refine g_max (st := [.int (nI i), .ref (p + 7)]) (pc' := 134) dX0_hold_131 zX0_102 (Nat.le_of_ble_eq_true rfl) (by decide) rfl ?_
          refine g_top (y := decI (P (40 + i))) (by rw [eqd]; exact dec_max qd (by omega)) ?_
          refine g_iast (n := i) (pc' := 135) dX0_hold_134 hp.at.c7 rfl (by omega) rfl ?_
          refine g_goto (tgt := 158) dX0_hold_135 (by decide) ?_
          refine g_iinc (j := 4) (v := nI (i + 1)) (L' := [(0, .ref 1), (1, .ref p), (2, .int st), (3, .int cp.1), (4, .int (nI (i + 1)))]) (pc' := 161) dX0_hold_158 rfl (nI_1 i) (by decide) rfl rfl ?_
          refine g_goto (tgt := 97) dX0_hold_161 (by decide) ?_
          refine ih (i + 1) _ (by omega) ⟨?_, ?_, ?_⟩ (fun j hj => ?_) (fun j hj => ?_) (fun j j1 j2 => ?_) (fun a ha => ?_)
          · rw [um_ne (by omega)]; exact h0.1
          · rw [um_ne (by omega)]; exact h0.2.1
          · rw [um_ne (by omega)]; exact h0.2.2
          · rw [um_ne (by omega), um_ne (by omega), um_ne (by omega)]; exact h5 j hj
          · by_cases e : j = i
            · subst e
              rw [um_at, um_ne (by omega)]
              unfold worthM debtM
              rw [if_neg hc2, if_neg hc2]
              exact ⟨(h7 j (Nat.le_refl _) (by omega)).1, rfl⟩
            · have h9 := h6 j (by omega)
              rw [um_at2 e, um_ne (by omega)]
              exact h9
          · rw [um_at2 (by omega), um_ne (by omega)]; exact h7 j (by omega) j2
          · rw [um_ne (by omega)]; exact hf a ha
  have men : ∀ (t m : Nat) (M2 : Nat → Nat → Int32), m + t = n → (∀ j, j < m → M2 (p + 5) j = optI (-1) (cp.2 j) ∧ M2 (p + 4) j = credM P cp.2 j ∧ M2 (p + 2) j = handM P cp.2 j) → (∀ j, m ≤ j → M2 (p + 4) j = M1 (p + 4) j ∧ M2 (p + 2) j = M1 (p + 2) j) → (∀ a, a ≠ p + 2 → a ≠ p + 4 → a ≠ p + 5 → M2 a = M1 a) → Go mX0_hold 5 0 0 10 [(0, .ref 1), (1, .ref p), (2, .int st), (3, .int cp.1), (4, .int (nI m))] [] (SK, M2, N) (fun r h' => ∃ M', h' = (SK, M', N) ∧ r = none ∧ Held M M' p n k P st) := by
    intro t
    induction t with
    | zero =>
      intro m M2 hm h1 h2 h3
      have hmn : n = m := by omega
      subst hmn
      refine g_iload (j := 4) (pc' := 12) dX0_hold_10 rfl rfl ?_
      refine g_aload_n (j := 1) (pc' := 13) dX0_hold_12 rfl rfl ?_
      refine g_getI (pc' := 16) dX0_hold_13 fX0_76 hp.at.c0 rfl rfl ?_
      rw [show M2 p 0 = nI n by rw [h3 p (by omega) (by omega) (by omega)]; exact hcM.1]
      refine g_icmp_ge (tgt := 94) (pc' := 19) dX0_hold_16 (by decide) rfl (fun hc => ?_) (fun hc => ?_)
      · refine g_iconst (v := 0) (pc' := 95) dX0_hold_94 (by decide) rfl ?_
        refine g_istore (L' := [(0, .ref 1), (1, .ref p), (2, .int st), (3, .int cp.1), (4, .int 0)]) (pc' := 97) dX0_hold_95 (by decide) rfl rfl ?_
        exact names k 0 M2 (by omega) ⟨h3 p (by omega) (by omega) (by omega), h3 _ (by omega) (by omega) (by omega), h3 _ (by omega) (by omega) (by omega)⟩ h1 (fun j hj => by omega) (fun j _ hj => by rw [h3 (p + 6) (by omega) (by omega) (by omega), h3 (p + 7) (by omega) (by omega) (by omega)]; exact hcM.2.2.2.2.2.2 j hj) (fun a ha => h3 a (by omega) (by omega) (by omega))
      · exact absurd (nI_le (Nat.le_refl _) (by omega)) hc
    | succ t ih =>
      intro m M2 hm h1 h2 h3
      refine g_iload (j := 4) (pc' := 12) dX0_hold_10 rfl rfl ?_
      refine g_aload_n (j := 1) (pc' := 13) dX0_hold_12 rfl rfl ?_
      refine g_getI (pc' := 16) dX0_hold_13 fX0_76 hp.at.c0 rfl rfl ?_
      rw [show M2 p 0 = nI n by rw [h3 p (by omega) (by omega) (by omega)]; exact hcM.1]
      refine g_icmp_ge (tgt := 94) (pc' := 19) dX0_hold_16 (by decide) rfl (fun hc => ?_) (fun hc => ?_)
      · exact absurd hc (nI_ge (by omega) (by omega))
      · have hch : M2 10 m = optI (-1) (cp.2 m) := by rw [h3 10 (by omega) (by omega) (by omega)]; exact hm10 m (by omega)
        obtain ⟨e1, e2, e3, e4, e5⟩ := hcM.2.2.2.2.2.1 m (by omega)
        obtain ⟨f4, f2⟩ := h2 m (Nat.le_refl _)
        refine g_aload_n (j := 0) (pc' := 20) dX0_hold_19 rfl rfl ?_
        refine g_getR (pc' := 23) dX0_hold_20 fX0_37 rfl rfl rfl ?_
        refine g_iload (j := 4) (pc' := 25) dX0_hold_23 rfl rfl ?_
        refine g_iald (n := m) (pc' := 26) dX0_hold_25 rfl rfl (by omega) rfl ?_
        refine g_top (y := optI (-1) (cp.2 m)) (hch) ?_
        refine g_istore (L' := [(0, .ref 1), (1, .ref p), (2, .int st), (3, .int cp.1), (4, .int (nI m)), (5, .int (optI (-1) (cp.2 m)))]) (pc' := 28) dX0_hold_26 (by decide) rfl rfl ?_
        refine g_aload_n (j := 1) (pc' := 29) dX0_hold_28 rfl rfl ?_
        refine g_getR (pc' := 32) dX0_hold_29 fX0_96 hp.at.c0 rfl rfl ?_
        refine g_iload (j := 4) (pc' := 34) dX0_hold_32 rfl rfl ?_
        refine g_iload (j := 5) (pc' := 36) dX0_hold_34 rfl rfl ?_
        refine g_iast (n := m) (pc' := 37) dX0_hold_36 hp.at.c5 rfl (by omega) rfl ?_
        cases hcm : cp.2 m with
        | none =>
          show Go mX0_hold _ _ _ 37 [(0, .ref 1), (1, .ref p), (2, .int st), (3, .int cp.1), (4, .int (nI m)), (5, .int (-1))] [] (SK, (um M2 (p + 5) m (-1)), N) _
          refine g_iload (j := 5) (pc' := 39) dX0_hold_37 rfl rfl ?_
          refine g_iconst (v := (-1)) (pc' := 40) dX0_hold_39 (by decide) rfl ?_
          refine g_icmp_eq (tgt := 65) (pc' := 43) dX0_hold_40 (by decide) rfl (fun hc2 => ?_) (fun hc2 => ?_)
          · refine g_aload_n (j := 1) (pc' := 66) dX0_hold_65 rfl rfl ?_
            refine g_getR (pc' := 69) dX0_hold_66 fX0_45 hp.at.c0 rfl rfl ?_
            refine g_iload (j := 4) (pc' := 71) dX0_hold_69 rfl rfl ?_
            refine g_iald (n := m) (pc' := 72) dX0_hold_71 hp.at.c2 rfl (by omega) rfl ?_
            refine g_top (y := M2 (p + 2) m) (by simp (disch := omega) only [um_ne, um_at, um_at2, cpy2_ne]) ?_
            refine g_bipush (v := 9) (pc' := 74) dX0_hold_72 (by decide) rfl ?_
            rw [f2, e2]
            refine g_icmp_ge (tgt := 88) (pc' := 77) dX0_hold_74 (by decide) rfl (fun hc3 => ?_) (fun hc3 => ?_)
            · refine g_iinc (j := 4) (v := nI (m + 1)) (L' := [(0, .ref 1), (1, .ref p), (2, .int st), (3, .int cp.1), (4, .int (nI (m + 1))), (5, .int (-1))]) (pc' := 91) dX0_hold_88 rfl (nI_1 m) (by decide) rfl rfl ?_
              refine g_goto (tgt := 10) dX0_hold_91 (by decide) ?_
              refine g_less (L' := [(0, .ref 1), (1, .ref p), (2, .int st), (3, .int cp.1), (4, .int (nI (m + 1)))]) [0, 1, 2, 3, 4] rfl ?_
              generalize hM5 : (um M2 (p + 5) m (-1)) = M5
              refine ih (m + 1) M5 (by omega) (fun j hj => ?_) (fun j hj => ?_) (fun a a2 a4 a5 => ?_)
              · by_cases e : j = m
                · subst e
                  unfold credM handM
                  rw [hcm, ← hM5]
                  simp (disch := omega) only [um_ne, um_at]
                  exact ⟨rfl, by rw [f4, e4], by rw [f2, e2, if_neg (Int32.not_lt.mpr hc3)]⟩
                · have h9 := h1 j (by omega)
                  rw [← hM5]
                  simp (disch := omega) only [um_ne, um_at2]
                  exact h9
              · have h9 := h2 j (by omega)
                rw [← hM5]
                simp (disch := omega) only [um_ne, um_at2]
                exact h9
              · rw [← hM5]
                simp (disch := omega) only [um_ne]
                exact h3 a a2 a4 a5
            · refine g_aload_n (j := 1) (pc' := 78) dX0_hold_77 rfl rfl ?_
              refine g_getR (pc' := 81) dX0_hold_78 fX0_45 hp.at.c0 rfl rfl ?_
              refine g_iload (j := 4) (pc' := 83) dX0_hold_81 rfl rfl ?_
              refine g_dup2 (pc' := 84) dX0_hold_83 rfl rfl rfl ?_
              refine g_iald (n := m) (pc' := 85) dX0_hold_84 hp.at.c2 rfl (by omega) rfl ?_
              refine g_top (y := M2 (p + 2) m) (by simp (disch := omega) only [um_ne, um_at, um_at2, cpy2_ne]) ?_
              rw [f2, e2]
              refine g_iconst (v := 1) (pc' := 86) dX0_hold_85 (by decide) rfl ?_
              refine g_iadd (pc' := 87) dX0_hold_86 rfl ?_
              refine g_iast (n := m) (pc' := 88) dX0_hold_87 hp.at.c2 rfl (by omega) rfl ?_
              refine g_iinc (j := 4) (v := nI (m + 1)) (L' := [(0, .ref 1), (1, .ref p), (2, .int st), (3, .int cp.1), (4, .int (nI (m + 1))), (5, .int (-1))]) (pc' := 91) dX0_hold_88 rfl (nI_1 m) (by decide) rfl rfl ?_
              refine g_goto (tgt := 10) dX0_hold_91 (by decide) ?_
              refine g_less (L' := [(0, .ref 1), (1, .ref p), (2, .int st), (3, .int cp.1), (4, .int (nI (m + 1)))]) [0, 1, 2, 3, 4] rfl ?_
              generalize hM5 : (um (um M2 (p + 5) m (-1)) (p + 2) m ((P (10 + m)) + 1)) = M5
              refine ih (m + 1) M5 (by omega) (fun j hj => ?_) (fun j hj => ?_) (fun a a2 a4 a5 => ?_)
              · by_cases e : j = m
                · subst e
                  unfold credM handM
                  rw [hcm, ← hM5]
                  simp (disch := omega) only [um_ne, um_at]
                  exact ⟨rfl, by rw [f4, e4], by rw [if_pos (Int32.not_le.mp hc3)]⟩
                · have h9 := h1 j (by omega)
                  rw [← hM5]
                  simp (disch := omega) only [um_ne, um_at2]
                  exact h9
              · have h9 := h2 j (by omega)
                rw [← hM5]
                simp (disch := omega) only [um_ne, um_at2]
                exact h9
              · rw [← hM5]
                simp (disch := omega) only [um_ne]
                exact h3 a a2 a4 a5
          · exact absurd rfl hc2
        | some i =>
          have hik := hclt m i hcm
          show Go mX0_hold _ _ _ 37 [(0, .ref 1), (1, .ref p), (2, .int st), (3, .int cp.1), (4, .int (nI m)), (5, .int (nI i))] [] (SK, (um M2 (p + 5) m (nI i)), N) _
          refine g_iload (j := 5) (pc' := 39) dX0_hold_37 rfl rfl ?_
          refine g_iconst (v := (-1)) (pc' := 40) dX0_hold_39 (by decide) rfl ?_
          refine g_icmp_eq (tgt := 65) (pc' := 43) dX0_hold_40 (by decide) rfl (fun hc2 => ?_) (fun hc2 => ?_)
          · exact absurd hc2 (nI_ne_m1 (by omega))
          · refine g_aload_n (j := 1) (pc' := 44) dX0_hold_43 rfl rfl ?_
            refine g_getR (pc' := 47) dX0_hold_44 fX0_99 hp.at.c0 rfl rfl ?_
            refine g_iload (j := 4) (pc' := 49) dX0_hold_47 rfl rfl ?_
            refine g_dup2 (pc' := 50) dX0_hold_49 rfl rfl rfl ?_
            refine g_iald (n := m) (pc' := 51) dX0_hold_50 hp.at.c4 rfl (by omega) rfl ?_
            refine g_top (y := M2 (p + 4) m) (by simp (disch := omega) only [um_ne, um_at, um_at2, cpy2_ne]) ?_
            refine g_aload_n (j := 0) (pc' := 52) dX0_hold_51 rfl rfl ?_
            refine g_aload_n (j := 1) (pc' := 53) dX0_hold_52 rfl rfl ?_
            refine g_iload (j := 4) (pc' := 55) dX0_hold_53 rfl rfl ?_
            refine g_iload (j := 5) (pc' := 57) dX0_hold_55 rfl rfl ?_
            have hnm := hcM.2.2.2.2.2.2 i hik
            refine g_callV (my := mX0_esteem) (k := 1) (st := [.int (M2 (p + 4) m), .int (nI m), .ref (p + 4)]) (av := [.ref p, .int (nI m), .int (nI i)]) (mcr := 0) (msr := 0) (mc := 0) (ms := 0) (pc' := 60) dX0_hold_57 kX0_esteem wX0_86 rfl ⟨rfl, rfl⟩ rfl (Nat.le_of_ble_eq_true rfl) (by decide) (s_valQ hp hok (by omega) hik (by rw [um_ne (by omega), h3 (p + 1) (by omega) (by omega) (by omega)]; exact e1) (by rw [um_ne (by omega), h3 (p + 6) (by omega) (by omega) (by omega)]; exact hnm.1) (by rw [um_ne (by omega), h3 (p + 7) (by omega) (by omega) (by omega)]; exact hnm.2)) rfl ?_
            rintro _ _ ⟨rfl, rfl⟩
            show Go mX0_hold _ _ _ 60 [(0, .ref 1), (1, .ref p), (2, .int st), (3, .int cp.1), (4, .int (nI m)), (5, .int (nI i))] [.int (valP P m i), .int (M2 (p + 4) m), .int (nI m), .ref (p + 4)] (SK, (um M2 (p + 5) m (nI i)), N) _
            refine g_iadd (pc' := 61) dX0_hold_60 rfl ?_
            refine g_iast (n := m) (pc' := 62) dX0_hold_61 hp.at.c4 rfl (by omega) rfl ?_
            refine g_goto (tgt := 88) dX0_hold_62 (by decide) ?_
            refine g_iinc (j := 4) (v := nI (m + 1)) (L' := [(0, .ref 1), (1, .ref p), (2, .int st), (3, .int cp.1), (4, .int (nI (m + 1))), (5, .int (nI i))]) (pc' := 91) dX0_hold_88 rfl (nI_1 m) (by decide) rfl rfl ?_
            refine g_goto (tgt := 10) dX0_hold_91 (by decide) ?_
            refine g_less (L' := [(0, .ref 1), (1, .ref p), (2, .int st), (3, .int cp.1), (4, .int (nI (m + 1)))]) [0, 1, 2, 3, 4] rfl ?_
            generalize hM5 : (um (um M2 (p + 5) m (nI i)) (p + 4) m ((M2 (p + 4) m) + (valP P m i))) = M5
            refine ih (m + 1) M5 (by omega) (fun j hj => ?_) (fun j hj => ?_) (fun a a2 a4 a5 => ?_)
            · by_cases e : j = m
              · subst e
                unfold credM handM
                rw [hcm, ← hM5]
                simp (disch := omega) only [um_ne, um_at]
                exact ⟨rfl, by rw [f4, e4], by rw [f2, e2]⟩
              · have h9 := h1 j (by omega)
                rw [← hM5]
                simp (disch := omega) only [um_ne, um_at2]
                exact h9
            · have h9 := h2 j (by omega)
              rw [← hM5]
              simp (disch := omega) only [um_ne, um_at2]
              exact h9
            · rw [← hM5]
              simp (disch := omega) only [um_ne]
              exact h3 a a2 a4 a5
  exact men n 0 M1 (by omega) (fun j hj => by omega) (fun j _ => ⟨rfl, rfl⟩) (fun a _ _ _ => rfl)
