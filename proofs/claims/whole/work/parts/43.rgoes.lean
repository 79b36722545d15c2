theorem and1 (y : Int32) : y &&& 1 = 0 ∨ y &&& 1 = 1 := by
  have h : (y &&& 1).toBitVec.toNat = y.toBitVec.toNat % 2 := by
    rw [Int32.toBitVec_and]
    show (y.toBitVec &&& 1#32).toNat = _
    rw [BitVec.toNat_and]
    exact Nat.and_one_is_mod _
  rcases Nat.mod_two_eq_zero_or_one y.toBitVec.toNat with h0 | h0
  · left; exact Int32.toBitVec_inj.mp (BitVec.eq_of_toNat_eq (by rw [h, h0]; rfl))
  · right; exact Int32.toBitVec_inj.mp (BitVec.eq_of_toNat_eq (by rw [h, h0]; rfl))
/-- a march, when t men are done -/
def G1 (P : Nat → Int32) (ch : Nat → Option Nat) (t : Nat) : Nat → Int32 := fun j =>
  if 10 ≤ j ∧ j < 10 + t then handM P ch (j - 10) else if 22 ≤ j ∧ j < 22 + t then credM P ch (j - 22) else if 28 ≤ j ∧ j < 28 + t then optI (-4) (ch (j - 28)) else P j
def G2 (P Q : Nat → Int32) (s : Int32) (t : Nat) : Nat → Int32 := fun j =>
  if 34 ≤ j ∧ j < 34 + t then worthM P s (j - 34) else if 40 ≤ j ∧ j < 40 + t then debtM P s (j - 40) else Q j
theorem G1_step {P : Nat → Int32} {ch : Nat → Option Nat} {t : Nat} (ht : t < 6) (j : Nat) : G1 P ch (t + 1) j = if j = 10 + t then handM P ch t else if j = 22 + t then credM P ch t else if j = 28 + t then optI (-4) (ch t) else G1 P ch t j := by
  unfold G1
  by_cases a : j = 10 + t
  · rw [if_pos (by omega), if_pos a, a, Nat.add_sub_cancel_left]
  · by_cases a0 : 10 ≤ j ∧ j < 10 + t
    · rw [if_pos (by omega), if_neg a, if_neg (by omega), if_neg (by omega), if_pos a0]
    · rw [if_neg (by omega), if_neg a]
      by_cases b : j = 22 + t
      · rw [if_pos (by omega), if_pos b, b, Nat.add_sub_cancel_left]
      · by_cases b0 : 22 ≤ j ∧ j < 22 + t
        · rw [if_pos (by omega), if_neg b, if_neg (by omega), if_neg a0, if_pos b0]
        · rw [if_neg (by omega), if_neg b]
          by_cases c : j = 28 + t
          · rw [if_pos (by omega), if_pos c, c, Nat.add_sub_cancel_left]
          · by_cases c0 : 28 ≤ j ∧ j < 28 + t
            · rw [if_pos (by omega), if_neg c, if_neg a0, if_neg b0, if_pos c0]
            · rw [if_neg (by omega), if_neg c, if_neg a0, if_neg b0, if_neg c0]
theorem G1_P {P : Nat → Int32} {ch : Nat → Option Nat} {t j : Nat} (h : j < 10 ∨ (10 + t ≤ j ∧ j < 22) ∨ (22 + t ≤ j ∧ j < 28) ∨ 28 + t ≤ j) (ht : t ≤ 6) : G1 P ch t j = P j := by
  unfold G1
  rw [if_neg (by omega), if_neg (by omega), if_neg (by omega)]
theorem G2_step {P Q : Nat → Int32} {s : Int32} {t : Nat} (ht : t < 6) (j : Nat) : G2 P Q s (t + 1) j = if j = 34 + t then worthM P s t else if j = 40 + t then debtM P s t else G2 P Q s t j := by
  unfold G2
  by_cases a : j = 34 + t
  · rw [if_pos (by omega), if_pos a, a, Nat.add_sub_cancel_left]
  · by_cases a0 : 34 ≤ j ∧ j < 34 + t
    · rw [if_pos (by omega), if_neg a, if_neg (by omega), if_pos a0]
    · rw [if_neg (by omega), if_neg a]
      by_cases b : j = 40 + t
      · rw [if_pos (by omega), if_pos b, b, Nat.add_sub_cancel_left]
      · by_cases b0 : 40 ≤ j ∧ j < 40 + t
        · rw [if_pos (by omega), if_neg b, if_neg a0, if_pos b0]
        · rw [if_neg (by omega), if_neg b, if_neg a0, if_neg b0]
theorem G2_Q {P Q : Nat → Int32} {s : Int32} {t j : Nat} (h : j < 34 ∨ (34 + t ≤ j ∧ j < 40) ∨ 40 + t ≤ j) (ht : t ≤ 6) : G2 P Q s t j = Q j := by
  unfold G2
  rw [if_neg (by omega), if_neg (by omega)]
theorem G_march {n k : Nat} {P : Nat → Int32} {st : Int32} (hn : n ≤ 6) (hk : k ≤ 6) (j : Nat) (h3 : j ≠ 3) : G2 P (G1 P (choP P n k st).2 n) (choP P n k st).1 k j = marchP n k P st j := by
  unfold marchP G2 G1
  rw [if_neg h3]
  by_cases c1 : 34 ≤ j ∧ j < 34 + k
  · rw [if_pos c1, if_neg (by omega), if_neg (by omega), if_neg (by omega), if_pos c1]
  · rw [if_neg c1]
    by_cases c2 : 40 ≤ j ∧ j < 40 + k
    · rw [if_pos c2, if_neg (by omega), if_neg (by omega), if_neg (by omega), if_neg c1, if_pos c2]
    · rw [if_neg c2]
      by_cases c3 : 10 ≤ j ∧ j < 10 + n
      · rw [if_pos c3, if_pos c3]
      · rw [if_neg c3, if_neg c3]
        by_cases c4 : 22 ≤ j ∧ j < 22 + n
        · rw [if_pos c4, if_pos c4]
        · rw [if_neg c4, if_neg c4]
          by_cases c5 : 28 ≤ j ∧ j < 28 + n
          · rw [if_pos c5, if_pos c5]
          · rw [if_neg c5, if_neg c5, if_neg c1, if_neg c2]
set_option maxRecDepth 100000 in
set_option maxHeartbeats 1000000 in
theorem r_valueW {M : Nat → Nat → Int32} {N : Nat → Nat → Int64} {n k c : Nat} {P : Nat → Int32} (hs : SK[c]? = some (100, rep 352)) (hok : OkP n k P) {m i : Nat} (hm : m < n) (hi : i < k) (h1 : M c (4 + m) = P (4 + m)) (h2 : M c (34 + i) = P (34 + i)) (h3 : M c (40 + i) = P (40 + i)) : Run mX12_valueOf 0 0 0 [.ref c, .int (nI m), .int (nI i)] (SK, M, N) (fun r h' => h' = (SK, M, N) ∧ r = some (.int (valP P m i))) := by
  refine Run.of (by decide) (Nat.le_of_ble_eq_true rfl) ?_
  have hn6 := hok.1
  have hk6 := hok.2.1
  obtain ⟨⟨q, hq, eq⟩, -⟩ := hok.2.2.2.2.1 m hm
  refine g_aload_n (j := 0) (pc' := 1) dX12_valueOf_0 rfl rfl ?_
  refine g_bipush (v := 34) (pc' := 3) dX12_valueOf_1 (by decide) rfl ?_
  refine g_iload_n (j := 2) (pc' := 4) dX12_valueOf_3 rfl rfl ?_
  refine g_iadd (pc' := 5) dX12_valueOf_4 rfl ?_
  refine g_iald (n := 34 + i) (pc' := 6) dX12_valueOf_5 hs (nI_addE rfl rfl) (by omega) rfl ?_
  refine g_top (y := P (34 + i)) (h2) ?_
  refine g_istore_n (L' := [(0, .ref c), (1, .int (nI m)), (2, .int (nI i)), (3, .int (P (34 + i)))]) (pc' := 7) dX12_valueOf_6 (by decide) rfl rfl ?_
  refine g_aload_n (j := 0) (pc' := 8) dX12_valueOf_7 rfl rfl ?_
  refine g_bipush (v := 40) (pc' := 10) dX12_valueOf_8 (by decide) rfl ?_
  refine g_iload_n (j := 2) (pc' := 11) dX12_valueOf_10 rfl rfl ?_
  refine g_iadd (pc' := 12) dX12_valueOf_11 rfl ?_
  refine g_iald (n := 40 + i) (pc' := 13) dX12_valueOf_12 hs (nI_addE rfl rfl) (by omega) rfl ?_
  refine g_top (y := P (40 + i)) (h3) ?_
  refine g_istore (L' := [(0, .ref c), (1, .int (nI m)), (2, .int (nI i)), (3, .int (P (34 + i))), (4, .int (P (40 + i)))]) (pc' := 15) dX12_valueOf_13 (by decide) rfl rfl ?_
  refine g_aload_n (j := 0) (pc' := 16) dX12_valueOf_15 rfl rfl ?_
  refine g_iconst (v := 4) (pc' := 17) dX12_valueOf_16 (by decide) rfl ?_
  refine g_iload_n (j := 1) (pc' := 18) dX12_valueOf_17 rfl rfl ?_
  refine g_iadd (pc' := 19) dX12_valueOf_18 rfl ?_
  refine g_iald (n := 4 + m) (pc' := 20) dX12_valueOf_19 hs (nI_addE rfl rfl) (by omega) rfl ?_
  refine g_top (y := nI q) (h1.trans eq) ?_
  unfold valP
  rw [eq]
  unfold valK
  rcases (show q = 0 ∨ q = 1 ∨ q = 2 ∨ q = 3 ∨ q = 4 by omega) with rfl | rfl | rfl | rfl | rfl
  · refine g_tblOut (tgt := 85) dX12_valueOf_20 (Or.inl (by decide)) (by decide) ?_
    refine g_iload_n (j := 3) (pc' := 86) dX12_valueOf_85 rfl rfl ?_
    refine g_iload (j := 4) (pc' := 88) dX12_valueOf_86 rfl rfl ?_
    refine g_isub (pc' := 89) dX12_valueOf_88 rfl ?_
    exact g_iret dX12_valueOf_89 rfl rfl (⟨rfl, rfl⟩)
  · refine g_tblIn (off := 32) (tgt := 52) dX12_valueOf_20 (by decide) (by decide) (by decide) (by decide) ?_
    refine g_iconst (v := 2) (pc' := 53) dX12_valueOf_52 (by decide) rfl ?_
    refine g_iload_n (j := 3) (pc' := 54) dX12_valueOf_53 rfl rfl ?_
    refine g_imul (pc' := 55) dX12_valueOf_54 rfl ?_
    refine g_iload (j := 4) (pc' := 57) dX12_valueOf_55 rfl rfl ?_
    refine g_isub (pc' := 58) dX12_valueOf_57 rfl ?_
    exact g_iret dX12_valueOf_58 rfl rfl (⟨rfl, rfl⟩)
  · refine g_tblIn (off := 58) (tgt := 78) dX12_valueOf_20 (by decide) (by decide) (by decide) (by decide) ?_
    refine g_iload_n (j := 3) (pc' := 79) dX12_valueOf_78 rfl rfl ?_
    refine g_iconst (v := 2) (pc' := 80) dX12_valueOf_79 (by decide) rfl ?_
    refine g_iload (j := 4) (pc' := 82) dX12_valueOf_80 rfl rfl ?_
    refine g_imul (pc' := 83) dX12_valueOf_82 rfl ?_
    refine g_isub (pc' := 84) dX12_valueOf_83 rfl ?_
    exact g_iret dX12_valueOf_84 rfl rfl (⟨rfl, rfl⟩)
  · refine g_tblIn (off := 39) (tgt := 59) dX12_valueOf_20 (by decide) (by decide) (by decide) (by decide) ?_
    rw [if_neg (by decide), if_pos (by decide)]
    refine g_iconst (v := 2) (pc' := 60) dX12_valueOf_59 (by decide) rfl ?_
    refine g_iload_n (j := 3) (pc' := 61) dX12_valueOf_60 rfl rfl ?_
    refine g_imul (pc' := 62) dX12_valueOf_61 rfl ?_
    refine g_iload (j := 4) (pc' := 64) dX12_valueOf_62 rfl rfl ?_
    refine g_isub (pc' := 65) dX12_valueOf_64 rfl ?_
    refine g_iload_n (j := 1) (pc' := 66) dX12_valueOf_65 rfl rfl ?_
    refine g_iload_n (j := 2) (pc' := 67) dX12_valueOf_66 rfl rfl ?_
    refine g_icmp_ne (tgt := 75) (pc' := 70) dX12_valueOf_67 (by decide) rfl (fun hc => ?_) (fun hc => ?_)
    · rw [decide_eq_false (fun z => hc (congrArg nI z))]
      refine g_iconst (v := 0) (pc' := 76) dX12_valueOf_75 (by decide) rfl ?_
      refine g_iadd (pc' := 77) dX12_valueOf_76 rfl ?_
      exact g_iret dX12_valueOf_77 rfl rfl (⟨rfl, rfl⟩)
    · rw [decide_eq_true ((nI_eq (by omega) (by omega)).mp hc)]
      refine g_bipush (v := 9) (pc' := 72) dX12_valueOf_70 (by decide) rfl ?_
      refine g_goto (tgt := 76) dX12_valueOf_72 (by decide) ?_
      refine g_iadd (pc' := 77) dX12_valueOf_76 rfl ?_
      exact g_iret dX12_valueOf_77 rfl rfl (⟨rfl, rfl⟩)
  · refine g_tblIn (off := 58) (tgt := 78) dX12_valueOf_20 (by decide) (by decide) (by decide) (by decide) ?_
    refine g_iload_n (j := 3) (pc' := 79) dX12_valueOf_78 rfl rfl ?_
    refine g_iconst (v := 2) (pc' := 80) dX12_valueOf_79 (by decide) rfl ?_
    refine g_iload (j := 4) (pc' := 82) dX12_valueOf_80 rfl rfl ?_
    refine g_imul (pc' := 83) dX12_valueOf_82 rfl ?_
    refine g_isub (pc' := 84) dX12_valueOf_83 rfl ?_
    exact g_iret dX12_valueOf_84 rfl rfl (⟨rfl, rfl⟩)
set_option maxRecDepth 100000 in
set_option maxHeartbeats 1000000 in
theorem r_goes {M : Nat → Nat → Int32} {N : Nat → Nat → Int64} {n k c : Nat} {P : Nat → Int32} (hs : SK[c]? = some (100, rep 352)) (hc : c < 198) (hok : OkP n k P) (hP : ∀ j, j < 47 → M c j = P j) (st : Int32) : Run mX12_goes 10 0 0 [.ref 189, .ref c, .int st] (SK, M, N) (fun r h' => ∃ M', h' = (SK, M', N) ∧ r = none ∧ (∀ j, j < 47 → M' c j = marchP n k P st j) ∧ (∀ j, 47 ≤ j → M' c j = M c j) ∧ ∀ a, a ≠ c → a ≠ 198 → a ≠ 199 → a ≠ 200 → M' a = M a) := by
  refine Run.of (by decide) (Nat.le_of_ble_eq_true rfl) ?_
  have hn6 := hok.1
  have hk6 := hok.2.1
  refine g_aload_n (j := 0) (pc' := 1) dX12_goes_0 rfl rfl ?_
  refine g_aload_n (j := 1) (pc' := 2) dX12_goes_1 rfl rfl ?_
  refine g_iload_n (j := 2) (pc' := 3) dX12_goes_2 rfl rfl ?_
  refine g_callV (my := mX12_layOff) (k := 189) (st := []) (av := [.ref c, .int st]) (mcr := 0) (msr := 0) (mc := 0) (ms := 0) (pc' := 6) dX12_goes_3 kX12_layOff wX12_70 rfl ⟨rfl, rfl⟩ rfl (Nat.le_of_ble_eq_true rfl) (by decide) (r_layOff hs (by omega) hok hP st) rfl ?_
  rintro _ _ ⟨Ma, rfl, rfl, ha1, ha2⟩
  show Go mX12_goes _ _ _ 6 [(0, .ref 189), (1, .ref c), (2, .int st)] [] (SK, Ma, N) _
  have hPa : ∀ j, j < 47 → Ma c j = P j := fun j hj => by rw [ha2 c (by omega)]; exact hP j hj
  refine g_aload_n (j := 0) (pc' := 7) dX12_goes_6 rfl rfl ?_
  refine g_aload_n (j := 1) (pc' := 8) dX12_goes_7 rfl rfl ?_
  refine g_callV (my := mX12_chooses) (k := 189) (st := []) (av := [.ref c]) (mcr := 0) (msr := 0) (mc := 0) (ms := 0) (pc' := 11) dX12_goes_8 kX12_chooses wX12_74 rfl ⟨rfl, rfl⟩ rfl (Nat.le_of_ble_eq_true rfl) (by decide) (r_chooses hs (by omega) (by omega) hok hPa ha1) rfl ?_
  rintro _ _ ⟨Mb, rfl, rfl, hb1, hb2, hb3⟩
  show Go mX12_goes _ _ _ 11 [(0, .ref 189), (1, .ref c), (2, .int st)] [.int ((chG P k (lineA (fun m => offP P st m) n) n).1)] (SK, Mb, N) _
  have hPb : ∀ j, j < 47 → Mb c j = P j := fun j hj => by rw [hb3 c (by omega) (by omega)]; exact hPa j hj
  have hGm := @G_march n k P st hn6 hk6
  have hcl := @chG_lt P k (lineA (fun m => offP P st m) n) n
  unfold choP at hGm
  change ∀ (j : Nat), j ≠ 3 → G2 P (G1 P (chG P k (lineA (fun m => offP P st m) n) n).2 n) (chG P k (lineA (fun m => offP P st m) n) n).1 k j = marchP n k P st j at hGm
  generalize (chG P k (lineA (fun m => offP P st m) n) n).1 = s at hGm
  generalize (chG P k (lineA (fun m => offP P st m) n) n).2 = ch at hGm hb1 hcl
  have hFb : (∀ j, 47 ≤ j → Mb c j = M c j) ∧ ∀ a, a ≠ c → a ≠ 198 → a ≠ 199 → a ≠ 200 → Mb a = M a := ⟨fun j hj => by rw [hb3 c (by omega) (by omega), ha2 c (by omega)], fun a a0 a1 a2 a3 => by rw [hb3 a a2 a3, ha2 a a1]⟩
  refine g_istore_n (L' := [(0, .ref 189), (1, .ref c), (2, .int st), (3, .int s)]) (pc' := 12) dX12_goes_11 (by decide) rfl rfl ?_
  refine g_iconst (v := 0) (pc' := 13) dX12_goes_12 (by decide) rfl ?_
  refine g_istore (L' := [(0, .ref 189), (1, .ref c), (2, .int st), (3, .int s), (4, .int 0)]) (pc' := 15) dX12_goes_13 (by decide) rfl rfl ?_
  have lop2 : ∀ (i t : Nat) (M1 : Nat → Nat → Int32), t + i = k → (∀ j, j < 47 → M1 c j = G2 P (G1 P ch n) s t j) → ((∀ j, 47 ≤ j → M1 c j = M c j) ∧ ∀ a, a ≠ c → a ≠ 198 → a ≠ 199 → a ≠ 200 → M1 a = M a) → Go mX12_goes 10 0 0 111 [(0, .ref 189), (1, .ref c), (2, .int st), (3, .int s), (4, .int (nI t))] [] (SK, M1, N) (fun r h' => ∃ M', h' = (SK, M', N) ∧ r = none ∧ (∀ j, j < 47 → M' c j = marchP n k P st j) ∧ (∀ j, 47 ≤ j → M' c j = M c j) ∧ ∀ a, a ≠ c → a ≠ 198 → a ≠ 199 → a ≠ 200 → M' a = M a) := by
    intro i
    induction i with
    | zero =>
      intro t M1 ht h1 hf
      refine g_iload (j := 4) (pc' := 113) dX12_goes_111 rfl rfl ?_
      refine g_aload_n (j := 1) (pc' := 114) dX12_goes_113 rfl rfl ?_
      refine g_iconst (v := 1) (pc' := 115) dX12_goes_114 (by decide) rfl ?_
      refine g_iald (n := 1) (pc' := 116) dX12_goes_115 hs rfl (by omega) rfl ?_
      refine g_top (y := nI k) (by rw [h1 1 (by omega), G2_Q (by omega) (by omega), G1_P (by omega) (by omega)]; exact hok.2.2.2.1) ?_
      refine g_icmp_ge (tgt := 169) (pc' := 119) dX12_goes_116 (by decide) rfl (fun hc => ?_) (fun hc => (absurd (nI_le (a := k) (b := t) (by omega) (by omega)) hc))
      obtain rfl : t = k := by omega
      refine g_aload_n (j := 1) (pc' := 170) dX12_goes_169 rfl rfl ?_
      refine g_iconst (v := 3) (pc' := 171) dX12_goes_170 (by decide) rfl ?_
      refine g_dup2 (pc' := 172) dX12_goes_171 rfl rfl rfl ?_
      refine g_iald (n := 3) (pc' := 173) dX12_goes_172 hs rfl (by omega) rfl ?_
      refine g_top (y := P 3) (by rw [h1 3 (by omega), G2_Q (by omega) (by omega), G1_P (by omega) (by omega)]) ?_
      refine g_iconst (v := 1) (pc' := 174) dX12_goes_173 (by decide) rfl ?_
      refine g_iadd (pc' := 175) dX12_goes_174 rfl ?_
      refine g_iast (n := 3) (pc' := 176) dX12_goes_175 hs rfl (by omega) rfl ?_
      generalize hM2 : (um M1 c 3 ((P 3) + 1)) = M2
      refine g_vret dX12_goes_176 rfl (⟨M2, rfl, rfl, fun j hj => ?_, fun j hj => by rw [← hM2, um_at2 (by omega)]; exact hf.1 j hj, fun a a0 a1 a2 a3 => by rw [← hM2, um_ne a0]; exact hf.2 a a0 a1 a2 a3⟩)
      rw [← hM2]
      by_cases e : j = 3
      · subst e; rw [um_at, mp_3]
      · rw [um_at2 e, h1 j hj]; exact hGm j e
    | succ i ih =>
      intro t M1 ht h1 hf
      refine g_iload (j := 4) (pc' := 113) dX12_goes_111 rfl rfl ?_
      refine g_aload_n (j := 1) (pc' := 114) dX12_goes_113 rfl rfl ?_
      refine g_iconst (v := 1) (pc' := 115) dX12_goes_114 (by decide) rfl ?_
      refine g_iald (n := 1) (pc' := 116) dX12_goes_115 hs rfl (by omega) rfl ?_
      refine g_top (y := nI k) (by rw [h1 1 (by omega), G2_Q (by omega) (by omega), G1_P (by omega) (by omega)]; exact hok.2.2.2.1) ?_
      refine g_icmp_ge (tgt := 169) (pc' := 119) dX12_goes_116 (by decide) rfl (fun hc => (absurd hc (nI_ge (a := t) (b := k) (by omega) (by omega)))) (fun hc => ?_)
      have hw : M1 c (34 + t) = P (34 + t) := by rw [h1 _ (by omega), G2_Q (by omega) (by omega), G1_P (by omega) (by omega)]
      have hd : M1 c (40 + t) = P (40 + t) := by rw [h1 _ (by omega), G2_Q (by omega) (by omega), G1_P (by omega) (by omega)]
      rcases and1 (s >>> (nI t &&& 31)) with h0 | h0
      · refine g_iload_n (j := 3) (pc' := 120) dX12_goes_119 rfl rfl ?_
        refine g_iload (j := 4) (pc' := 122) dX12_goes_120 rfl rfl ?_
        refine g_ishr (pc' := 123) dX12_goes_122 rfl ?_
        refine g_iconst (v := 1) (pc' := 124) dX12_goes_123 (by decide) rfl ?_
        refine g_iand (pc' := 125) dX12_goes_124 rfl ?_
        refine g_iconst (v := 1) (pc' := 126) dX12_goes_125 (by decide) rfl ?_
        refine g_icmp_ne (tgt := 137) (pc' := 129) dX12_goes_126 (by decide) rfl (fun hc => ?_) (fun hc => (absurd hc (by rw [h0]; decide)))
        refine g_bipush (v := 34) (pc' := 139) dX12_goes_137 (by decide) rfl ?_
        refine g_iload (j := 4) (pc' := 141) dX12_goes_139 rfl rfl ?_
        refine g_iadd (pc' := 142) dX12_goes_141 rfl ?_
        refine g_top (y := nI (34 + t)) (nI_add 34 t) ?_
        refine g_istore (L' := [(0, .ref 189), (1, .ref c), (2, .int st), (3, .int s), (4, .int (nI t)), (5, .int (nI (34 + t)))]) (pc' := 144) dX12_goes_142 (by decide) rfl rfl ?_
        refine g_aload_n (j := 1) (pc' := 145) dX12_goes_144 rfl rfl ?_
        refine g_iload (j := 5) (pc' := 147) dX12_goes_145 rfl rfl ?_
        refine g_dup2 (pc' := 148) dX12_goes_147 rfl rfl rfl ?_
        refine g_iald (n := 34 + t) (pc' := 149) dX12_goes_148 hs rfl (by omega) rfl ?_
        refine g_top (y := P (34 + t)) (hw) ?_
        refine g_aload_n (j := 1) (pc' := 150) dX12_goes_149 rfl rfl ?_
        refine g_iload (j := 5) (pc' := 152) dX12_goes_150 rfl rfl ?_
        refine g_iald (n := 34 + t) (pc' := 153) dX12_goes_152 hs rfl (by omega) rfl ?_
        refine g_top (y := P (34 + t)) (hw) ?_
        refine g_if_le (tgt := 160) (pc' := 156) dX12_goes_153 (by decide) rfl (fun hc5 => ?_) (fun hc5 => ?_)
        · refine g_iconst (v := 0) (pc' := 161) dX12_goes_160 (by decide) rfl ?_
          refine g_isub (pc' := 162) dX12_goes_161 rfl ?_
          refine g_top (y := decI (P (34 + t))) (by rw [decI, if_neg (Int32.not_lt.mpr hc5)]; exact Int32.sub_zero _) ?_
          refine g_iast (n := 34 + t) (pc' := 163) dX12_goes_162 hs rfl (by omega) rfl ?_
          generalize hM2 : (um M1 c (34 + t) (decI (P (34 + t)))) = M2
          refine g_iinc (j := 4) (v := nI (t + 1)) (L' := [(0, .ref 189), (1, .ref c), (2, .int st), (3, .int s), (4, .int (nI (t + 1))), (5, .int (nI (34 + t)))]) (pc' := 166) dX12_goes_163 rfl (nI_1 t) (by decide) rfl rfl ?_
          refine g_goto (tgt := 111) dX12_goes_166 (by decide) ?_
          refine g_less (L' := [(0, .ref 189), (1, .ref c), (2, .int st), (3, .int s), (4, .int (nI (t + 1)))]) [0, 1, 2, 3, 4] rfl ?_
          refine ih (t + 1) M2 (by omega) (fun j hj => ?_) ⟨fun j hj => by rw [← hM2, um_at2 (by omega)]; exact hf.1 j hj, fun a a0 a1 a2 a3 => by rw [← hM2, um_ne a0]; exact hf.2 a a0 a1 a2 a3⟩
          rw [← hM2, G2_step (by omega)]
          by_cases e : j = 34 + t
          · subst e; rw [um_at, if_pos rfl, worthM, if_pos h0]
          · rw [um_at2 e, if_neg e]
            by_cases e2 : j = 40 + t
            · subst e2; rw [if_pos rfl, debtM, if_pos h0]; exact hd
            · rw [if_neg e2]; exact h1 j hj
        · refine g_iconst (v := 1) (pc' := 157) dX12_goes_156 (by decide) rfl ?_
          refine g_goto (tgt := 161) dX12_goes_157 (by decide) ?_
          refine g_isub (pc' := 162) dX12_goes_161 rfl ?_
          refine g_top (y := decI (P (34 + t))) (by rw [decI, if_pos (Int32.not_le.mp hc5)]) ?_
          refine g_iast (n := 34 + t) (pc' := 163) dX12_goes_162 hs rfl (by omega) rfl ?_
          generalize hM2 : (um M1 c (34 + t) (decI (P (34 + t)))) = M2
          refine g_iinc (j := 4) (v := nI (t + 1)) (L' := [(0, .ref 189), (1, .ref c), (2, .int st), (3, .int s), (4, .int (nI (t + 1))), (5, .int (nI (34 + t)))]) (pc' := 166) dX12_goes_163 rfl (nI_1 t) (by decide) rfl rfl ?_
          refine g_goto (tgt := 111) dX12_goes_166 (by decide) ?_
          refine g_less (L' := [(0, .ref 189), (1, .ref c), (2, .int st), (3, .int s), (4, .int (nI (t + 1)))]) [0, 1, 2, 3, 4] rfl ?_
          refine ih (t + 1) M2 (by omega) (fun j hj => ?_) ⟨fun j hj => by rw [← hM2, um_at2 (by omega)]; exact hf.1 j hj, fun a a0 a1 a2 a3 => by rw [← hM2, um_ne a0]; exact hf.2 a a0 a1 a2 a3⟩
          rw [← hM2, G2_step (by omega)]
          by_cases e : j = 34 + t
          · subst e; rw [um_at, if_pos rfl, worthM, if_pos h0]
          · rw [um_at2 e, if_neg e]
            by_cases e2 : j = 40 + t
            · subst e2; rw [if_pos rfl, debtM, if_pos h0]; exact hd
            · rw [if_neg e2]; exact h1 j hj
      · refine g_iload_n (j := 3) (pc' := 120) dX12_goes_119 rfl rfl ?_
        refine g_iload (j := 4) (pc' := 122) dX12_goes_120 rfl rfl ?_
        refine g_ishr (pc' := 123) dX12_goes_122 rfl ?_
        refine g_iconst (v := 1) (pc' := 124) dX12_goes_123 (by decide) rfl ?_
        refine g_iand (pc' := 125) dX12_goes_124 rfl ?_
        refine g_iconst (v := 1) (pc' := 126) dX12_goes_125 (by decide) rfl ?_
        refine g_icmp_ne (tgt := 137) (pc' := 129) dX12_goes_126 (by decide) rfl (fun hc => (absurd h0 hc)) (fun hc => ?_)
        refine g_bipush (v := 40) (pc' := 131) dX12_goes_129 (by decide) rfl ?_
        refine g_iload (j := 4) (pc' := 133) dX12_goes_131 rfl rfl ?_
        refine g_iadd (pc' := 134) dX12_goes_133 rfl ?_
        refine g_goto (tgt := 142) dX12_goes_134 (by decide) ?_
        refine g_top (y := nI (40 + t)) (nI_add 40 t) ?_
        refine g_istore (L' := [(0, .ref 189), (1, .ref c), (2, .int st), (3, .int s), (4, .int (nI t)), (5, .int (nI (40 + t)))]) (pc' := 144) dX12_goes_142 (by decide) rfl rfl ?_
        refine g_aload_n (j := 1) (pc' := 145) dX12_goes_144 rfl rfl ?_
        refine g_iload (j := 5) (pc' := 147) dX12_goes_145 rfl rfl ?_
        refine g_dup2 (pc' := 148) dX12_goes_147 rfl rfl rfl ?_
        refine g_iald (n := 40 + t) (pc' := 149) dX12_goes_148 hs rfl (by omega) rfl ?_
        refine g_top (y := P (40 + t)) (hd) ?_
        refine g_aload_n (j := 1) (pc' := 150) dX12_goes_149 rfl rfl ?_
        refine g_iload (j := 5) (pc' := 152) dX12_goes_150 rfl rfl ?_
        refine g_iald (n := 40 + t) (pc' := 153) dX12_goes_152 hs rfl (by omega) rfl ?_
        refine g_top (y := P (40 + t)) (hd) ?_
        refine g_if_le (tgt := 160) (pc' := 156) dX12_goes_153 (by decide) rfl (fun hc5 => ?_) (fun hc5 => ?_)
        · refine g_iconst (v := 0) (pc' := 161) dX12_goes_160 (by decide) rfl ?_
          refine g_isub (pc' := 162) dX12_goes_161 rfl ?_
          refine g_top (y := decI (P (40 + t))) (by rw [decI, if_neg (Int32.not_lt.mpr hc5)]; exact Int32.sub_zero _) ?_
          refine g_iast (n := 40 + t) (pc' := 163) dX12_goes_162 hs rfl (by omega) rfl ?_
          generalize hM2 : (um M1 c (40 + t) (decI (P (40 + t)))) = M2
          refine g_iinc (j := 4) (v := nI (t + 1)) (L' := [(0, .ref 189), (1, .ref c), (2, .int st), (3, .int s), (4, .int (nI (t + 1))), (5, .int (nI (40 + t)))]) (pc' := 166) dX12_goes_163 rfl (nI_1 t) (by decide) rfl rfl ?_
          refine g_goto (tgt := 111) dX12_goes_166 (by decide) ?_
          refine g_less (L' := [(0, .ref 189), (1, .ref c), (2, .int st), (3, .int s), (4, .int (nI (t + 1)))]) [0, 1, 2, 3, 4] rfl ?_
          refine ih (t + 1) M2 (by omega) (fun j hj => ?_) ⟨fun j hj => by rw [← hM2, um_at2 (by omega)]; exact hf.1 j hj, fun a a0 a1 a2 a3 => by rw [← hM2, um_ne a0]; exact hf.2 a a0 a1 a2 a3⟩
          rw [← hM2, G2_step (by omega)]
          by_cases e : j = 40 + t
          · subst e; rw [um_at, if_neg (by omega), if_pos rfl, debtM, if_neg (by rw [h0]; decide)]
          · rw [um_at2 e]
            by_cases e2 : j = 34 + t
            · subst e2; rw [if_pos rfl, worthM, if_neg (by rw [h0]; decide)]; exact hw
            · rw [if_neg e2, if_neg e]; exact h1 j hj
        · refine g_iconst (v := 1) (pc' := 157) dX12_goes_156 (by decide) rfl ?_
          refine g_goto (tgt := 161) dX12_goes_157 (by decide) ?_
          refine g_isub (pc' := 162) dX12_goes_161 rfl ?_
          refine g_top (y := decI (P (40 + t))) (by rw [decI, if_pos (Int32.not_le.mp hc5)]) ?_
          refine g_iast (n := 40 + t) (pc' := 163) dX12_goes_162 hs rfl (by omega) rfl ?_
          generalize hM2 : (um M1 c (40 + t) (decI (P (40 + t)))) = M2
          refine g_iinc (j := 4) (v := nI (t + 1)) (L' := [(0, .ref 189), (1, .ref c), (2, .int st), (3, .int s), (4, .int (nI (t + 1))), (5, .int (nI (40 + t)))]) (pc' := 166) dX12_goes_163 rfl (nI_1 t) (by decide) rfl rfl ?_
          refine g_goto (tgt := 111) dX12_goes_166 (by decide) ?_
          refine g_less (L' := [(0, .ref 189), (1, .ref c), (2, .int st), (3, .int s), (4, .int (nI (t + 1)))]) [0, 1, 2, 3, 4] rfl ?_
          refine ih (t + 1) M2 (by omega) (fun j hj => ?_) ⟨fun j hj => by rw [← hM2, um_at2 (by omega)]; exact hf.1 j hj, fun a a0 a1 a2 a3 => by rw [← hM2, um_ne a0]; exact hf.2 a a0 a1 a2 a3⟩
          rw [← hM2, G2_step (by omega)]
          by_cases e : j = 40 + t
          · subst e; rw [um_at, if_neg (by omega), if_pos rfl, debtM, if_neg (by rw [h0]; decide)]
          · rw [um_at2 e]
            by_cases e2 : j = 34 + t
            · subst e2; rw [if_pos rfl, worthM, if_neg (by rw [h0]; decide)]; exact hw
            · rw [if_neg e2, if_neg e]; exact h1 j hj
  have lop1 : ∀ (i t : Nat) (M1 : Nat → Nat → Int32), t + i = n → (∀ j, j < 47 → M1 c j = G1 P ch t j) → (∀ m, m < n → M1 200 m = optI (-4) (ch m)) → ((∀ j, 47 ≤ j → M1 c j = M c j) ∧ ∀ a, a ≠ c → a ≠ 198 → a ≠ 199 → a ≠ 200 → M1 a = M a) → Go mX12_goes 10 0 0 15 [(0, .ref 189), (1, .ref c), (2, .int st), (3, .int s), (4, .int (nI t))] [] (SK, M1, N) (fun r h' => ∃ M', h' = (SK, M', N) ∧ r = none ∧ (∀ j, j < 47 → M' c j = marchP n k P st j) ∧ (∀ j, 47 ≤ j → M' c j = M c j) ∧ ∀ a, a ≠ c → a ≠ 198 → a ≠ 199 → a ≠ 200 → M' a = M a) := by
    intro i
    induction i with
    | zero =>
      intro t M1 ht h1 h20 hf
      refine g_iload (j := 4) (pc' := 17) dX12_goes_15 rfl rfl ?_
      refine g_aload_n (j := 1) (pc' := 18) dX12_goes_17 rfl rfl ?_
      refine g_iconst (v := 0) (pc' := 19) dX12_goes_18 (by decide) rfl ?_
      refine g_iald (n := 0) (pc' := 20) dX12_goes_19 hs rfl (by omega) rfl ?_
      refine g_top (y := nI n) (by rw [h1 0 (by omega), G1_P (by omega) (by omega)]; exact hok.2.2.1) ?_
      refine g_icmp_ge (tgt := 108) (pc' := 23) dX12_goes_20 (by decide) rfl (fun hc => ?_) (fun hc => (absurd (nI_le (a := n) (b := t) (by omega) (by omega)) hc))
      obtain rfl : t = n := by omega
      refine g_iconst (v := 0) (pc' := 109) dX12_goes_108 (by decide) rfl ?_
      refine g_istore (L' := [(0, .ref 189), (1, .ref c), (2, .int st), (3, .int s), (4, .int 0)]) (pc' := 111) dX12_goes_109 (by decide) rfl rfl ?_
      exact lop2 k 0 M1 (by omega) (fun j hj => by rw [h1 j hj, G2_Q (by omega) (by omega)]) hf
    | succ i ih =>
      intro t M1 ht h1 h20 hf
      refine g_iload (j := 4) (pc' := 17) dX12_goes_15 rfl rfl ?_
      refine g_aload_n (j := 1) (pc' := 18) dX12_goes_17 rfl rfl ?_
      refine g_iconst (v := 0) (pc' := 19) dX12_goes_18 (by decide) rfl ?_
      refine g_iald (n := 0) (pc' := 20) dX12_goes_19 hs rfl (by omega) rfl ?_
      refine g_top (y := nI n) (by rw [h1 0 (by omega), G1_P (by omega) (by omega)]; exact hok.2.2.1) ?_
      refine g_icmp_ge (tgt := 108) (pc' := 23) dX12_goes_20 (by decide) rfl (fun hc => (absurd hc (nI_ge (a := t) (b := n) (by omega) (by omega)))) (fun hc => ?_)
      refine g_aload_n (j := 1) (pc' := 24) dX12_goes_23 rfl rfl ?_
      refine g_bipush (v := 28) (pc' := 26) dX12_goes_24 (by decide) rfl ?_
      refine g_iload (j := 4) (pc' := 28) dX12_goes_26 rfl rfl ?_
      refine g_iadd (pc' := 29) dX12_goes_28 rfl ?_
      refine g_aload_n (j := 0) (pc' := 30) dX12_goes_29 rfl rfl ?_
      refine g_getR (pc' := 33) dX12_goes_30 fX12_41 rfl rfl rfl ?_
      refine g_iload (j := 4) (pc' := 35) dX12_goes_33 rfl rfl ?_
      refine g_iald (n := t) (pc' := 36) dX12_goes_35 rfl rfl (by omega) rfl ?_
      refine g_top (y := optI (-4) (ch t)) (h20 t (by omega)) ?_
      refine g_iast (n := 28 + t) (pc' := 37) dX12_goes_36 hs (nI_addE rfl rfl) (by omega) rfl ?_
      generalize hM2 : (um M1 c (28 + t) (optI (-4) (ch t))) = M2
      have h2j : ∀ j, j ≠ 28 + t → M2 c j = M1 c j := fun j hj => by rw [← hM2, um_at2 hj]
      have h2a : ∀ a, a ≠ c → M2 a = M1 a := fun a ha => by rw [← hM2, um_ne ha]
      have h28 : M2 c (28 + t) = optI (-4) (ch t) := by rw [← hM2]; exact um_at
      have hhand : M2 c (10 + t) = P (10 + t) := by rw [h2j _ (by omega), h1 _ (by omega), G1_P (by omega) (by omega)]
      have hcred : M2 c (22 + t) = P (22 + t) := by rw [h2j _ (by omega), h1 _ (by omega), G1_P (by omega) (by omega)]
      refine g_aload_n (j := 0) (pc' := 38) dX12_goes_37 rfl rfl ?_
      refine g_getR (pc' := 41) dX12_goes_38 fX12_41 rfl rfl rfl ?_
      refine g_iload (j := 4) (pc' := 43) dX12_goes_41 rfl rfl ?_
      refine g_iald (n := t) (pc' := 44) dX12_goes_43 rfl rfl (by omega) rfl ?_
      refine g_top (y := optI (-4) (ch t)) (by rw [h2a 200 (by omega)]; exact h20 t (by omega)) ?_
      have hct := @hcl t
      have h200 : M2 200 t = optI (-4) (ch t) := by rw [h2a 200 (by omega)]; exact h20 t (by omega)
      have hstep := fun j => G1_step (P := P) (ch := ch) (t := t) (by omega) j
      cases ho : ch t with
      | none =>
        rw [ho] at h200
        show Go mX12_goes _ _ _ 44 [(0, .ref 189), (1, .ref c), (2, .int st), (3, .int s), (4, .int (nI t))] [.int (-4)] (SK, M2, N) _
        refine g_bipush (v := (-4)) (pc' := 46) dX12_goes_44 (by decide) rfl ?_
        refine g_icmp_ne (tgt := 79) (pc' := 49) dX12_goes_46 (by decide) rfl (fun hc => (absurd rfl hc)) (fun hc => ?_)
        refine g_aload_n (j := 1) (pc' := 50) dX12_goes_49 rfl rfl ?_
        refine g_bipush (v := 10) (pc' := 52) dX12_goes_50 (by decide) rfl ?_
        refine g_iload (j := 4) (pc' := 54) dX12_goes_52 rfl rfl ?_
        refine g_iadd (pc' := 55) dX12_goes_54 rfl ?_
        refine g_dup2 (pc' := 56) dX12_goes_55 rfl rfl rfl ?_
        refine g_iald (n := 10 + t) (pc' := 57) dX12_goes_56 hs (nI_addE rfl rfl) (by omega) rfl ?_
        refine g_top (y := P (10 + t)) (hhand) ?_
        refine g_aload_n (j := 1) (pc' := 58) dX12_goes_57 rfl rfl ?_
        refine g_bipush (v := 10) (pc' := 60) dX12_goes_58 (by decide) rfl ?_
        refine g_iload (j := 4) (pc' := 62) dX12_goes_60 rfl rfl ?_
        refine g_iadd (pc' := 63) dX12_goes_62 rfl ?_
        refine g_iald (n := 10 + t) (pc' := 64) dX12_goes_63 hs (nI_addE rfl rfl) (by omega) rfl ?_
        refine g_top (y := P (10 + t)) (hhand) ?_
        refine g_bipush (v := 9) (pc' := 66) dX12_goes_64 (by decide) rfl ?_
        refine g_icmp_ge (tgt := 73) (pc' := 69) dX12_goes_66 (by decide) rfl (fun hc5 => ?_) (fun hc5 => ?_)
        · refine g_iconst (v := 0) (pc' := 74) dX12_goes_73 (by decide) rfl ?_
          refine g_iadd (pc' := 75) dX12_goes_74 rfl ?_
          refine g_top (y := P (10 + t)) (Int32.add_zero _) ?_
          refine g_iast (n := 10 + t) (pc' := 76) dX12_goes_75 hs (nI_addE rfl rfl) (by omega) rfl ?_
          refine g_goto (tgt := 102) dX12_goes_76 (by decide) ?_
          generalize hM3 : (um M2 c (10 + t) (P (10 + t))) = M3
          refine g_iinc (j := 4) (v := nI (t + 1)) (L' := [(0, .ref 189), (1, .ref c), (2, .int st), (3, .int s), (4, .int (nI (t + 1)))]) (pc' := 105) dX12_goes_102 rfl (nI_1 t) (by decide) rfl rfl ?_
          refine g_goto (tgt := 15) dX12_goes_105 (by decide) ?_
          refine ih (t + 1) M3 (by omega) (fun j hj => ?_) (fun m hm => by rw [← hM3, um_ne (by omega), h2a 200 (by omega)]; exact h20 m hm) ⟨fun j hj => by rw [← hM3, um_at2 (by omega), h2j j (by omega)]; exact hf.1 j hj, fun a a0 a1 a2 a3 => by rw [← hM3, um_ne a0, h2a a a0]; exact hf.2 a a0 a1 a2 a3⟩
          rw [← hM3, hstep]
          by_cases e : j = 10 + t
          · subst e; rw [um_at, if_pos rfl, handM, ho]; dsimp only; rw [if_neg (Int32.not_lt.mpr hc5)]
          · rw [um_at2 e, if_neg e]
            by_cases e2 : j = 22 + t
            · subst e2; rw [if_pos rfl, credM, ho]; exact hcred
            · rw [if_neg e2]
              by_cases e3 : j = 28 + t
              · subst e3; rw [if_pos rfl]; exact h28
              · rw [if_neg e3, h2j j e3]; exact h1 j hj
        · refine g_iconst (v := 1) (pc' := 70) dX12_goes_69 (by decide) rfl ?_
          refine g_goto (tgt := 74) dX12_goes_70 (by decide) ?_
          refine g_iadd (pc' := 75) dX12_goes_74 rfl ?_
          refine g_iast (n := 10 + t) (pc' := 76) dX12_goes_75 hs (nI_addE rfl rfl) (by omega) rfl ?_
          refine g_goto (tgt := 102) dX12_goes_76 (by decide) ?_
          generalize hM3 : (um M2 c (10 + t) ((P (10 + t)) + 1)) = M3
          refine g_iinc (j := 4) (v := nI (t + 1)) (L' := [(0, .ref 189), (1, .ref c), (2, .int st), (3, .int s), (4, .int (nI (t + 1)))]) (pc' := 105) dX12_goes_102 rfl (nI_1 t) (by decide) rfl rfl ?_
          refine g_goto (tgt := 15) dX12_goes_105 (by decide) ?_
          refine ih (t + 1) M3 (by omega) (fun j hj => ?_) (fun m hm => by rw [← hM3, um_ne (by omega), h2a 200 (by omega)]; exact h20 m hm) ⟨fun j hj => by rw [← hM3, um_at2 (by omega), h2j j (by omega)]; exact hf.1 j hj, fun a a0 a1 a2 a3 => by rw [← hM3, um_ne a0, h2a a a0]; exact hf.2 a a0 a1 a2 a3⟩
          rw [← hM3, hstep]
          by_cases e : j = 10 + t
          · subst e; rw [um_at, if_pos rfl, handM, ho]; dsimp only; rw [if_pos (Int32.not_le.mp hc5)]
          · rw [um_at2 e, if_neg e]
            by_cases e2 : j = 22 + t
            · subst e2; rw [if_pos rfl, credM, ho]; exact hcred
            · rw [if_neg e2]
              by_cases e3 : j = 28 + t
              · subst e3; rw [if_pos rfl]; exact h28
              · rw [if_neg e3, h2j j e3]; exact h1 j hj
      | some x =>
        have hx := hct ho
        rw [ho] at h200
        show Go mX12_goes _ _ _ 44 [(0, .ref 189), (1, .ref c), (2, .int st), (3, .int s), (4, .int (nI t))] [.int (nI x)] (SK, M2, N) _
        refine g_bipush (v := (-4)) (pc' := 46) dX12_goes_44 (by decide) rfl ?_
        refine g_icmp_ne (tgt := 79) (pc' := 49) dX12_goes_46 (by decide) rfl (fun hc => ?_) (fun hc => (absurd hc (nI_ne_m4 (by omega))))
        refine g_aload_n (j := 1) (pc' := 80) dX12_goes_79 rfl rfl ?_
        refine g_bipush (v := 22) (pc' := 82) dX12_goes_80 (by decide) rfl ?_
        refine g_iload (j := 4) (pc' := 84) dX12_goes_82 rfl rfl ?_
        refine g_iadd (pc' := 85) dX12_goes_84 rfl ?_
        refine g_dup2 (pc' := 86) dX12_goes_85 rfl rfl rfl ?_
        refine g_iald (n := 22 + t) (pc' := 87) dX12_goes_86 hs (nI_addE rfl rfl) (by omega) rfl ?_
        refine g_top (y := P (22 + t)) (hcred) ?_
        refine g_aload_n (j := 1) (pc' := 88) dX12_goes_87 rfl rfl ?_
        refine g_iload (j := 4) (pc' := 90) dX12_goes_88 rfl rfl ?_
        refine g_aload_n (j := 0) (pc' := 91) dX12_goes_90 rfl rfl ?_
        refine g_getR (pc' := 94) dX12_goes_91 fX12_41 rfl rfl rfl ?_
        refine g_iload (j := 4) (pc' := 96) dX12_goes_94 rfl rfl ?_
        refine g_iald (n := t) (pc' := 97) dX12_goes_96 rfl rfl (by omega) rfl ?_
        refine g_top (y := nI x) (h200) ?_
        refine g_callS (my := mX12_valueOf) (st := [.int (P (22 + t)), .int (22 + (nI t)), .ref c]) (av := [.ref c, .int (nI t), .int (nI x)]) (mcr := 0) (msr := 0) (mc := 0) (ms := 0) (pc' := 100) dX12_goes_97 kX12_valueOf wX12_67 rfl (Nat.le_of_ble_eq_true rfl) (by decide) (r_valueW hs hok (show t < n by omega) hx (by rw [h2j _ (by omega), h1 _ (by omega), G1_P (by omega) (by omega)]) (by rw [h2j _ (by omega), h1 _ (by omega), G1_P (by omega) (by omega)]) (by rw [h2j _ (by omega), h1 _ (by omega), G1_P (by omega) (by omega)])) rfl ?_
        rintro _ _ ⟨rfl, rfl⟩
        show Go mX12_goes _ _ _ 100 [(0, .ref 189), (1, .ref c), (2, .int st), (3, .int s), (4, .int (nI t))] [.int (valP P t x), .int (P (22 + t)), .int (22 + (nI t)), .ref c] (SK, M2, N) _
        refine g_iadd (pc' := 101) dX12_goes_100 rfl ?_
        refine g_iast (n := 22 + t) (pc' := 102) dX12_goes_101 hs (nI_addE rfl rfl) (by omega) rfl ?_
        generalize hM3 : (um M2 c (22 + t) ((P (22 + t)) + (valP P t x))) = M3
        refine g_iinc (j := 4) (v := nI (t + 1)) (L' := [(0, .ref 189), (1, .ref c), (2, .int st), (3, .int s), (4, .int (nI (t + 1)))]) (pc' := 105) dX12_goes_102 rfl (nI_1 t) (by decide) rfl rfl ?_
        refine g_goto (tgt := 15) dX12_goes_105 (by decide) ?_
        refine ih (t + 1) M3 (by omega) (fun j hj => ?_) (fun m hm => by rw [← hM3, um_ne (by omega), h2a 200 (by omega)]; exact h20 m hm) ⟨fun j hj => by rw [← hM3, um_at2 (by omega), h2j j (by omega)]; exact hf.1 j hj, fun a a0 a1 a2 a3 => by rw [← hM3, um_ne a0, h2a a a0]; exact hf.2 a a0 a1 a2 a3⟩
        rw [← hM3, hstep]
        by_cases e : j = 22 + t
        · subst e; rw [um_at, if_neg (by omega), if_pos rfl, credM, ho]
        · rw [um_at2 e, if_neg e]
          by_cases e2 : j = 10 + t
          · subst e2; rw [if_pos rfl, handM, ho]; exact hhand
          · rw [if_neg e2]
            by_cases e3 : j = 28 + t
            · subst e3; rw [if_pos rfl]; exact h28
            · rw [if_neg e3, h2j j e3]; exact h1 j hj
  exact lop1 n 0 Mb (by omega) (fun j hj => by rw [hPb j hj, G1_P (by omega) (by omega)]) hb1 hFb
