/-! ===== Parish, Past ===== -/
theorem cpy2_in {α : Type} {M : Nat → Nat → α} {k0 sp k1 dp n b : Nat} (h1 : dp ≤ b) (h2 : b < dp + n) : cpy2 M k0 sp k1 dp n k1 b = M k0 (sp + (b - dp)) := if_pos ⟨rfl, h1, h2⟩
theorem cpy2_out {α : Type} {M : Nat → Nat → α} {k0 sp k1 dp n b : Nat} (h : b < dp ∨ dp + n ≤ b) : cpy2 M k0 sp k1 dp n k1 b = M k1 b := if_neg (fun q => by omega)
/-- parish p is as parish q was; all else stays -/
def Copied (M M' : Nat → Nat → Int32) (p q : Nat) : Prop := (∀ j, j < 5 → M' p j = M q j) ∧ (∀ i j, 1 ≤ i → i ≤ 7 → j < 6 → M' (p + i) j = M (q + i) j) ∧ ∀ a, (a < p ∨ p + 8 ≤ a) → M' a = M a
set_option maxRecDepth 100000 in
set_option maxHeartbeats 1000000 in
theorem s_become {M : Nat → Nat → Int32} {N : Nat → Nat → Int64} {p q : Nat} (hp : ParAt p) (hq : ParAt q) (hpq : p + 8 ≤ q ∨ q + 8 ≤ p) : Run mX4_become 1 0 0 [.ref p, .ref q] (SK, M, N) (fun r h' => ∃ M', h' = (SK, M', N) ∧ r = none ∧ Copied M M' p q) := by
  refine Run.of (by decide) (Nat.le_of_ble_eq_true rfl) ?_
  refine g_aload_n (j := 0) (pc' := 1) dX4_become_0 rfl rfl ?_
  refine g_aload_n (j := 1) (pc' := 2) dX4_become_1 rfl rfl ?_
  refine g_getI (pc' := 5) dX4_become_2 fX4_9 hq.c0 rfl rfl ?_
  refine g_putI (pc' := 8) dX4_become_5 fX4_9 hp.c0 rfl ⟨rfl, rfl⟩ rfl ?_
  refine g_aload_n (j := 0) (pc' := 9) dX4_become_8 rfl rfl ?_
  refine g_aload_n (j := 1) (pc' := 10) dX4_become_9 rfl rfl ?_
  refine g_getI (pc' := 13) dX4_become_10 fX4_15 hq.c0 rfl rfl ?_
  refine g_top (y := M q 1) (by simp (disch := omega) only [um_ne, um_at, um_at2, cpy2_ne]) ?_
  refine g_putI (pc' := 16) dX4_become_13 fX4_15 hp.c0 rfl ⟨rfl, rfl⟩ rfl ?_
  refine g_aload_n (j := 0) (pc' := 17) dX4_become_16 rfl rfl ?_
  refine g_aload_n (j := 1) (pc' := 18) dX4_become_17 rfl rfl ?_
  refine g_getI (pc' := 21) dX4_become_18 fX4_18 hq.c0 rfl rfl ?_
  refine g_top (y := M q 2) (by simp (disch := omega) only [um_ne, um_at, um_at2, cpy2_ne]) ?_
  refine g_putI (pc' := 24) dX4_become_21 fX4_18 hp.c0 rfl ⟨rfl, rfl⟩ rfl ?_
  refine g_aload_n (j := 0) (pc' := 25) dX4_become_24 rfl rfl ?_
  refine g_aload_n (j := 1) (pc' := 26) dX4_become_25 rfl rfl ?_
  refine g_getI (pc' := 29) dX4_become_26 fX4_21 hq.c0 rfl rfl ?_
  refine g_top (y := M q 3) (by simp (disch := omega) only [um_ne, um_at, um_at2, cpy2_ne]) ?_
  refine g_putI (pc' := 32) dX4_become_29 fX4_21 hp.c0 rfl ⟨rfl, rfl⟩ rfl ?_
  refine g_aload_n (j := 0) (pc' := 33) dX4_become_32 rfl rfl ?_
  refine g_aload_n (j := 1) (pc' := 34) dX4_become_33 rfl rfl ?_
  refine g_getI (pc' := 37) dX4_become_34 fX4_24 hq.c0 rfl rfl ?_
  refine g_top (y := M q 4) (by simp (disch := omega) only [um_ne, um_at, um_at2, cpy2_ne]) ?_
  refine g_putI (pc' := 40) dX4_become_37 fX4_24 hp.c0 rfl ⟨rfl, rfl⟩ rfl ?_
  refine g_aload_n (j := 1) (pc' := 41) dX4_become_40 rfl rfl ?_
  refine g_getR (pc' := 44) dX4_become_41 fX4_27 hq.c0 rfl rfl ?_
  refine g_iconst (v := 0) (pc' := 45) dX4_become_44 (by decide) rfl ?_
  refine g_aload_n (j := 0) (pc' := 46) dX4_become_45 rfl rfl ?_
  refine g_getR (pc' := 49) dX4_become_46 fX4_27 hp.c0 rfl rfl ?_
  refine g_iconst (v := 0) (pc' := 50) dX4_become_49 (by decide) rfl ?_
  refine g_bipush (v := 6) (pc' := 52) dX4_become_50 (by decide) rfl ?_
  refine g_acopyI (sp := 0) (dp := 0) (n := 6) (st := []) (pc' := 55) dX4_become_52 wX4_49 hq.c1 hp.c1 rfl rfl rfl (by omega) (by omega) (Nat.le_of_ble_eq_true rfl) (by decide) rfl ?_
  refine g_aload_n (j := 1) (pc' := 56) dX4_become_55 rfl rfl ?_
  refine g_getR (pc' := 59) dX4_become_56 fX4_31 hq.c0 rfl rfl ?_
  refine g_iconst (v := 0) (pc' := 60) dX4_become_59 (by decide) rfl ?_
  refine g_aload_n (j := 0) (pc' := 61) dX4_become_60 rfl rfl ?_
  refine g_getR (pc' := 64) dX4_become_61 fX4_31 hp.c0 rfl rfl ?_
  refine g_iconst (v := 0) (pc' := 65) dX4_become_64 (by decide) rfl ?_
  refine g_bipush (v := 6) (pc' := 67) dX4_become_65 (by decide) rfl ?_
  refine g_acopyI (sp := 0) (dp := 0) (n := 6) (st := []) (pc' := 70) dX4_become_67 wX4_49 hq.c2 hp.c2 rfl rfl rfl (by omega) (by omega) (Nat.le_of_ble_eq_true rfl) (by decide) rfl ?_
  refine g_aload_n (j := 1) (pc' := 71) dX4_become_70 rfl rfl ?_
  refine g_getR (pc' := 74) dX4_become_71 fX4_34 hq.c0 rfl rfl ?_
  refine g_iconst (v := 0) (pc' := 75) dX4_become_74 (by decide) rfl ?_
  refine g_aload_n (j := 0) (pc' := 76) dX4_become_75 rfl rfl ?_
  refine g_getR (pc' := 79) dX4_become_76 fX4_34 hp.c0 rfl rfl ?_
  refine g_iconst (v := 0) (pc' := 80) dX4_become_79 (by decide) rfl ?_
  refine g_bipush (v := 6) (pc' := 82) dX4_become_80 (by decide) rfl ?_
  refine g_acopyI (sp := 0) (dp := 0) (n := 6) (st := []) (pc' := 85) dX4_become_82 wX4_49 hq.c3 hp.c3 rfl rfl rfl (by omega) (by omega) (Nat.le_of_ble_eq_true rfl) (by decide) rfl ?_
  refine g_aload_n (j := 1) (pc' := 86) dX4_become_85 rfl rfl ?_
  refine g_getR (pc' := 89) dX4_become_86 fX4_37 hq.c0 rfl rfl ?_
  refine g_iconst (v := 0) (pc' := 90) dX4_become_89 (by decide) rfl ?_
  refine g_aload_n (j := 0) (pc' := 91) dX4_become_90 rfl rfl ?_
  refine g_getR (pc' := 94) dX4_become_91 fX4_37 hp.c0 rfl rfl ?_
  refine g_iconst (v := 0) (pc' := 95) dX4_become_94 (by decide) rfl ?_
  refine g_bipush (v := 6) (pc' := 97) dX4_become_95 (by decide) rfl ?_
  refine g_acopyI (sp := 0) (dp := 0) (n := 6) (st := []) (pc' := 100) dX4_become_97 wX4_49 hq.c4 hp.c4 rfl rfl rfl (by omega) (by omega) (Nat.le_of_ble_eq_true rfl) (by decide) rfl ?_
  refine g_aload_n (j := 1) (pc' := 101) dX4_become_100 rfl rfl ?_
  refine g_getR (pc' := 104) dX4_become_101 fX4_40 hq.c0 rfl rfl ?_
  refine g_iconst (v := 0) (pc' := 105) dX4_become_104 (by decide) rfl ?_
  refine g_aload_n (j := 0) (pc' := 106) dX4_become_105 rfl rfl ?_
  refine g_getR (pc' := 109) dX4_become_106 fX4_40 hp.c0 rfl rfl ?_
  refine g_iconst (v := 0) (pc' := 110) dX4_become_109 (by decide) rfl ?_
  refine g_bipush (v := 6) (pc' := 112) dX4_become_110 (by decide) rfl ?_
  refine g_acopyI (sp := 0) (dp := 0) (n := 6) (st := []) (pc' := 115) dX4_become_112 wX4_49 hq.c5 hp.c5 rfl rfl rfl (by omega) (by omega) (Nat.le_of_ble_eq_true rfl) (by decide) rfl ?_
  refine g_aload_n (j := 1) (pc' := 116) dX4_become_115 rfl rfl ?_
  refine g_getR (pc' := 119) dX4_become_116 fX4_43 hq.c0 rfl rfl ?_
  refine g_iconst (v := 0) (pc' := 120) dX4_become_119 (by decide) rfl ?_
  refine g_aload_n (j := 0) (pc' := 121) dX4_become_120 rfl rfl ?_
  refine g_getR (pc' := 124) dX4_become_121 fX4_43 hp.c0 rfl rfl ?_
  refine g_iconst (v := 0) (pc' := 125) dX4_become_124 (by decide) rfl ?_
  refine g_bipush (v := 6) (pc' := 127) dX4_become_125 (by decide) rfl ?_
  refine g_acopyI (sp := 0) (dp := 0) (n := 6) (st := []) (pc' := 130) dX4_become_127 wX4_49 hq.c6 hp.c6 rfl rfl rfl (by omega) (by omega) (Nat.le_of_ble_eq_true rfl) (by decide) rfl ?_
  refine g_aload_n (j := 1) (pc' := 131) dX4_become_130 rfl rfl ?_
  refine g_getR (pc' := 134) dX4_become_131 fX4_46 hq.c0 rfl rfl ?_
  refine g_iconst (v := 0) (pc' := 135) dX4_become_134 (by decide) rfl ?_
  refine g_aload_n (j := 0) (pc' := 136) dX4_become_135 rfl rfl ?_
  refine g_getR (pc' := 139) dX4_become_136 fX4_46 hp.c0 rfl rfl ?_
  refine g_iconst (v := 0) (pc' := 140) dX4_become_139 (by decide) rfl ?_
  refine g_bipush (v := 6) (pc' := 142) dX4_become_140 (by decide) rfl ?_
  refine g_acopyI (sp := 0) (dp := 0) (n := 6) (st := []) (pc' := 145) dX4_become_142 wX4_49 hq.c7 hp.c7 rfl rfl rfl (by omega) (by omega) (Nat.le_of_ble_eq_true rfl) (by decide) rfl ?_
  generalize hM1 : (cpy2 (cpy2 (cpy2 (cpy2 (cpy2 (cpy2 (cpy2 (um (um (um (um (um M p 0 (M q 0)) p 1 (M q 1)) p 2 (M q 2)) p 3 (M q 3)) p 4 (M q 4)) (q + 1) 0 (p + 1) 0 6) (q + 2) 0 (p + 2) 0 6) (q + 3) 0 (p + 3) 0 6) (q + 4) 0 (p + 4) 0 6) (q + 5) 0 (p + 5) 0 6) (q + 6) 0 (p + 6) 0 6) (q + 7) 0 (p + 7) 0 6) = M1
  have h5 : ∀ j, j < 5 → M1 p j = M q j := by
    intro j hj
    rw [← hM1]
    rcases (show j = 0 ∨ j = 1 ∨ j = 2 ∨ j = 3 ∨ j = 4 by omega) with rfl | rfl | rfl | rfl | rfl <;> simp (disch := omega) only [cpy2_ne, um_ne, um_at, um_at2]
  have h6 : ∀ i j, 1 ≤ i → i ≤ 7 → j < 6 → M1 (p + i) j = M (q + i) j := by
    intro i j hi1 hi7 hj
    rw [← hM1]
    rcases (show i = 1 ∨ i = 2 ∨ i = 3 ∨ i = 4 ∨ i = 5 ∨ i = 6 ∨ i = 7 by omega) with rfl | rfl | rfl | rfl | rfl | rfl | rfl <;> simp (disch := omega) only [cpy2_ne, cpy2_in, um_ne, Nat.zero_add, Nat.sub_zero]
  have h7 : ∀ a, (a < p ∨ p + 8 ≤ a) → M1 a = M a := by
    intro a ha
    rw [← hM1]
    simp (disch := omega) only [cpy2_ne, um_ne]
  exact g_vret dX4_become_145 rfl (⟨M1, rfl, rfl, h5, h6, h7⟩)
set_option maxRecDepth 100000 in
set_option maxHeartbeats 1000000 in
theorem s_empty {M : Nat → Nat → Int32} {N : Nat → Nat → Int64} {p : Nat} (hp : ParAt p) : Run mX4_empty 0 0 0 [.ref p] (SK, M, N) (fun r h' => ∃ M', h' = (SK, M', N) ∧ r = none ∧ (M' p 0 = 0 ∧ M' p 1 = 0 ∧ M' p 2 = M p 2 ∧ M' p 3 = 0 ∧ M' p 4 = M p 4) ∧ ∀ a, a ≠ p → M' a = M a) := by
  refine Run.of (by decide) (Nat.le_of_ble_eq_true rfl) ?_
  refine g_aload_n (j := 0) (pc' := 1) dX4_empty_0 rfl rfl ?_
  refine g_iconst (v := 0) (pc' := 2) dX4_empty_1 (by decide) rfl ?_
  refine g_putI (pc' := 5) dX4_empty_2 fX4_9 hp.c0 rfl ⟨rfl, rfl⟩ rfl ?_
  refine g_aload_n (j := 0) (pc' := 6) dX4_empty_5 rfl rfl ?_
  refine g_iconst (v := 0) (pc' := 7) dX4_empty_6 (by decide) rfl ?_
  refine g_putI (pc' := 10) dX4_empty_7 fX4_15 hp.c0 rfl ⟨rfl, rfl⟩ rfl ?_
  refine g_aload_n (j := 0) (pc' := 11) dX4_empty_10 rfl rfl ?_
  refine g_iconst (v := 0) (pc' := 12) dX4_empty_11 (by decide) rfl ?_
  refine g_putI (pc' := 15) dX4_empty_12 fX4_21 hp.c0 rfl ⟨rfl, rfl⟩ rfl ?_
  generalize hM1 : (um (um (um M p 0 0) p 1 0) p 3 0) = M1
  exact g_vret dX4_empty_15 rfl (⟨M1, rfl, rfl, ⟨by rw [← hM1]; simp (disch := omega) only [um_at, um_at2], by rw [← hM1]; simp (disch := omega) only [um_at, um_at2], by rw [← hM1]; simp (disch := omega) only [um_at, um_at2], by rw [← hM1]; simp (disch := omega) only [um_at, um_at2], by rw [← hM1]; simp (disch := omega) only [um_at, um_at2]⟩, fun a ha => by rw [← hM1]; simp (disch := omega) only [um_ne]⟩)
set_option maxRecDepth 100000 in
set_option maxHeartbeats 1000000 in
theorem s_addMan {M : Nat → Nat → Int32} {N : Nat → Nat → Int64} {p n : Nat} (ki ha ox : Int32) (hp : ParAt p) (hn : M p 0 = nI n) (h6 : n < 6) : Run mX4_addMan 0 0 0 [.ref p, .int ki, .int ha, .int ox] (SK, M, N) (fun r h' => ∃ M', h' = (SK, M', N) ∧ r = none ∧ (M' p 0 = nI (n + 1) ∧ M' p 1 = M p 1 ∧ M' p 2 = M p 2 ∧ M' p 3 = M p 3 ∧ M' p 4 = M p 4) ∧ (M' (p + 1) n = ki ∧ M' (p + 2) n = ha ∧ M' (p + 3) n = ox ∧ M' (p + 4) n = 0 ∧ M' (p + 5) n = -1) ∧ (∀ i m, 1 ≤ i → i ≤ 5 → m ≠ n → M' (p + i) m = M (p + i) m) ∧ ∀ a, (a < p ∨ p + 6 ≤ a) → M' a = M a) := by
  refine Run.of (by decide) (Nat.le_of_ble_eq_true rfl) ?_
  refine g_aload_n (j := 0) (pc' := 1) dX4_addMan_0 rfl rfl ?_
  refine g_getR (pc' := 4) dX4_addMan_1 fX4_27 hp.c0 rfl rfl ?_
  refine g_aload_n (j := 0) (pc' := 5) dX4_addMan_4 rfl rfl ?_
  refine g_getI (pc' := 8) dX4_addMan_5 fX4_9 hp.c0 rfl rfl ?_
  refine g_iload_n (j := 1) (pc' := 9) dX4_addMan_8 rfl rfl ?_
  refine g_iast (n := n) (pc' := 10) dX4_addMan_9 hp.c1 hn (by omega) rfl ?_
  refine g_aload_n (j := 0) (pc' := 11) dX4_addMan_10 rfl rfl ?_
  refine g_getR (pc' := 14) dX4_addMan_11 fX4_31 hp.c0 rfl rfl ?_
  refine g_aload_n (j := 0) (pc' := 15) dX4_addMan_14 rfl rfl ?_
  refine g_getI (pc' := 18) dX4_addMan_15 fX4_9 hp.c0 rfl rfl ?_
  refine g_top (y := M p 0) (by simp (disch := omega) only [um_ne, um_at, um_at2, cpy2_ne]) ?_
  refine g_iload_n (j := 2) (pc' := 19) dX4_addMan_18 rfl rfl ?_
  refine g_iast (n := n) (pc' := 20) dX4_addMan_19 hp.c2 hn (by omega) rfl ?_
  refine g_aload_n (j := 0) (pc' := 21) dX4_addMan_20 rfl rfl ?_
  refine g_getR (pc' := 24) dX4_addMan_21 fX4_34 hp.c0 rfl rfl ?_
  refine g_aload_n (j := 0) (pc' := 25) dX4_addMan_24 rfl rfl ?_
  refine g_getI (pc' := 28) dX4_addMan_25 fX4_9 hp.c0 rfl rfl ?_
  refine g_top (y := M p 0) (by simp (disch := omega) only [um_ne, um_at, um_at2, cpy2_ne]) ?_
  refine g_iload_n (j := 3) (pc' := 29) dX4_addMan_28 rfl rfl ?_
  refine g_iast (n := n) (pc' := 30) dX4_addMan_29 hp.c3 hn (by omega) rfl ?_
  refine g_aload_n (j := 0) (pc' := 31) dX4_addMan_30 rfl rfl ?_
  refine g_getR (pc' := 34) dX4_addMan_31 fX4_37 hp.c0 rfl rfl ?_
  refine g_aload_n (j := 0) (pc' := 35) dX4_addMan_34 rfl rfl ?_
  refine g_getI (pc' := 38) dX4_addMan_35 fX4_9 hp.c0 rfl rfl ?_
  refine g_top (y := M p 0) (by simp (disch := omega) only [um_ne, um_at, um_at2, cpy2_ne]) ?_
  refine g_iconst (v := 0) (pc' := 39) dX4_addMan_38 (by decide) rfl ?_
  refine g_iast (n := n) (pc' := 40) dX4_addMan_39 hp.c4 hn (by omega) rfl ?_
  refine g_aload_n (j := 0) (pc' := 41) dX4_addMan_40 rfl rfl ?_
  refine g_getR (pc' := 44) dX4_addMan_41 fX4_40 hp.c0 rfl rfl ?_
  refine g_aload_n (j := 0) (pc' := 45) dX4_addMan_44 rfl rfl ?_
  refine g_getI (pc' := 48) dX4_addMan_45 fX4_9 hp.c0 rfl rfl ?_
  refine g_top (y := M p 0) (by simp (disch := omega) only [um_ne, um_at, um_at2, cpy2_ne]) ?_
  refine g_iconst (v := (-1)) (pc' := 49) dX4_addMan_48 (by decide) rfl ?_
  refine g_iast (n := n) (pc' := 50) dX4_addMan_49 hp.c5 hn (by omega) rfl ?_
  refine g_aload_n (j := 0) (pc' := 51) dX4_addMan_50 rfl rfl ?_
  refine g_dup (pc' := 52) dX4_addMan_51 rfl rfl ?_
  refine g_getI (pc' := 55) dX4_addMan_52 fX4_9 hp.c0 rfl rfl ?_
  refine g_top (y := M p 0) (by simp (disch := omega) only [um_ne, um_at, um_at2, cpy2_ne]) ?_
  refine g_iconst (v := 1) (pc' := 56) dX4_addMan_55 (by decide) rfl ?_
  refine g_iadd (pc' := 57) dX4_addMan_56 rfl ?_
  refine g_putI (pc' := 60) dX4_addMan_57 fX4_9 hp.c0 rfl ⟨rfl, rfl⟩ rfl ?_
  generalize hM1 : (um (um (um (um (um (um M (p + 1) n ki) (p + 2) n ha) (p + 3) n ox) (p + 4) n 0) (p + 5) n (-1)) p 0 ((M p 0) + 1)) = M1
  exact g_vret dX4_addMan_60 rfl (⟨M1, rfl, rfl, ⟨by rw [← hM1]; simp (disch := omega) only [um_ne, um_at, um_at2, hn, nI_succ], by rw [← hM1]; simp (disch := omega) only [um_ne, um_at, um_at2], by rw [← hM1]; simp (disch := omega) only [um_ne, um_at, um_at2], by rw [← hM1]; simp (disch := omega) only [um_ne, um_at, um_at2], by rw [← hM1]; simp (disch := omega) only [um_ne, um_at, um_at2]⟩, ⟨by rw [← hM1]; simp (disch := omega) only [um_ne, um_at, um_at2], by rw [← hM1]; simp (disch := omega) only [um_ne, um_at, um_at2], by rw [← hM1]; simp (disch := omega) only [um_ne, um_at, um_at2], by rw [← hM1]; simp (disch := omega) only [um_ne, um_at, um_at2], by rw [← hM1]; simp (disch := omega) only [um_ne, um_at, um_at2]⟩, fun i m hi1 hi5 hm => by rw [← hM1]; rcases (show i = 1 ∨ i = 2 ∨ i = 3 ∨ i = 4 ∨ i = 5 by omega) with rfl | rfl | rfl | rfl | rfl <;> simp (disch := omega) only [um_ne, um_at2], fun a ha => by rw [← hM1]; simp (disch := omega) only [um_ne, um_at, um_at2]⟩)
set_option maxRecDepth 100000 in
set_option maxHeartbeats 1000000 in
theorem s_addName {M : Nat → Nat → Int32} {N : Nat → Nat → Int64} {p n : Nat} (wo de : Int32) (hp : ParAt p) (hn : M p 1 = nI n) (h6 : n < 6) : Run mX4_addName 0 0 0 [.ref p, .int wo, .int de] (SK, M, N) (fun r h' => ∃ M', h' = (SK, M', N) ∧ r = none ∧ (M' p 0 = M p 0 ∧ M' p 1 = nI (n + 1) ∧ M' p 2 = M p 2 ∧ M' p 3 = M p 3 ∧ M' p 4 = M p 4) ∧ (M' (p + 6) n = wo ∧ M' (p + 7) n = de) ∧ (∀ i m, 6 ≤ i → i ≤ 7 → m ≠ n → M' (p + i) m = M (p + i) m) ∧ ∀ a, a ≠ p → a ≠ p + 6 → a ≠ p + 7 → M' a = M a) := by
  refine Run.of (by decide) (Nat.le_of_ble_eq_true rfl) ?_
  refine g_aload_n (j := 0) (pc' := 1) dX4_addName_0 rfl rfl ?_
  refine g_getR (pc' := 4) dX4_addName_1 fX4_43 hp.c0 rfl rfl ?_
  refine g_aload_n (j := 0) (pc' := 5) dX4_addName_4 rfl rfl ?_
  refine g_getI (pc' := 8) dX4_addName_5 fX4_15 hp.c0 rfl rfl ?_
  refine g_iload_n (j := 1) (pc' := 9) dX4_addName_8 rfl rfl ?_
  refine g_iast (n := n) (pc' := 10) dX4_addName_9 hp.c6 hn (by omega) rfl ?_
  refine g_aload_n (j := 0) (pc' := 11) dX4_addName_10 rfl rfl ?_
  refine g_getR (pc' := 14) dX4_addName_11 fX4_46 hp.c0 rfl rfl ?_
  refine g_aload_n (j := 0) (pc' := 15) dX4_addName_14 rfl rfl ?_
  refine g_getI (pc' := 18) dX4_addName_15 fX4_15 hp.c0 rfl rfl ?_
  refine g_top (y := M p 1) (by simp (disch := omega) only [um_ne, um_at, um_at2, cpy2_ne]) ?_
  refine g_iload_n (j := 2) (pc' := 19) dX4_addName_18 rfl rfl ?_
  refine g_iast (n := n) (pc' := 20) dX4_addName_19 hp.c7 hn (by omega) rfl ?_
  refine g_aload_n (j := 0) (pc' := 21) dX4_addName_20 rfl rfl ?_
  refine g_dup (pc' := 22) dX4_addName_21 rfl rfl ?_
  refine g_getI (pc' := 25) dX4_addName_22 fX4_15 hp.c0 rfl rfl ?_
  refine g_top (y := M p 1) (by simp (disch := omega) only [um_ne, um_at, um_at2, cpy2_ne]) ?_
  refine g_iconst (v := 1) (pc' := 26) dX4_addName_25 (by decide) rfl ?_
  refine g_iadd (pc' := 27) dX4_addName_26 rfl ?_
  refine g_putI (pc' := 30) dX4_addName_27 fX4_15 hp.c0 rfl ⟨rfl, rfl⟩ rfl ?_
  generalize hM1 : (um (um (um M (p + 6) n wo) (p + 7) n de) p 1 ((M p 1) + 1)) = M1
  exact g_vret dX4_addName_30 rfl (⟨M1, rfl, rfl, ⟨by rw [← hM1]; simp (disch := omega) only [um_ne, um_at, um_at2], by rw [← hM1]; simp (disch := omega) only [um_ne, um_at, um_at2, hn, nI_succ], by rw [← hM1]; simp (disch := omega) only [um_ne, um_at, um_at2], by rw [← hM1]; simp (disch := omega) only [um_ne, um_at, um_at2], by rw [← hM1]; simp (disch := omega) only [um_ne, um_at, um_at2]⟩, ⟨by rw [← hM1]; simp (disch := omega) only [um_ne, um_at, um_at2], by rw [← hM1]; simp (disch := omega) only [um_ne, um_at, um_at2]⟩, fun i m hi1 hi5 hm => by rw [← hM1]; rcases (show i = 6 ∨ i = 7 by omega) with rfl | rfl <;> simp (disch := omega) only [um_ne, um_at2], fun a h1 h2 h3 => by rw [← hM1]; simp (disch := omega) only [um_ne, um_at, um_at2]⟩)
/-- the first place from i on, of k, at which f holds -/
def firstIx (f : Nat → Bool) : Nat → Nat → Option Nat
  | _, 0 => none
  | i, k + 1 => if f i then some i else firstIx f (i + 1) k
theorem firstIx_lt {f : Nat → Bool} : ∀ {k i m : Nat}, firstIx f i k = some m → i ≤ m ∧ m < i + k ∧ f m = true
  | 0, _, _, h => by cases h
  | k + 1, i, m, h => by
    unfold firstIx at h
    split at h
    · cases h
      exact ⟨Nat.le_refl _, by omega, by assumption⟩
    · obtain ⟨h1, h2, h3⟩ := firstIx_lt h
      exact ⟨by omega, by omega, h3⟩
def optI (e : Int32) : Option Nat → Int32
  | none => e
  | some m => nI m
set_option maxRecDepth 100000 in
set_option maxHeartbeats 1000000 in
theorem s_who {M : Nat → Nat → Int32} {N : Nat → Nat → Int64} {p n : Nat} (v : Int32) (hp : ParAt p) (hn : M p 0 = nI n) (h6 : n ≤ 6) : Run mX4_whoIsCalled 0 0 0 [.ref p, .int v] (SK, M, N) (fun r h' => h' = (SK, M, N) ∧ r = some (.int (optI (-1) (firstIx (fun m => M (p + 5) m == v) 0 n)))) := by
  refine Run.of (by decide) (Nat.le_of_ble_eq_true rfl) ?_
  refine g_iconst (v := 0) (pc' := 1) dX4_whoIsCalled_0 (by decide) rfl ?_
  refine g_istore_n (L' := [(0, .ref p), (1, .int v), (2, .int 0)]) (pc' := 2) dX4_whoIsCalled_1 (by decide) rfl rfl ?_
  have loop : ∀ (j i : Nat), i + j = n → Go mX4_whoIsCalled 0 0 0 2 [(0, .ref p), (1, .int v), (2, .int (nI i))] [] (SK, M, N) (fun r h' => h' = (SK, M, N) ∧ r = some (.int (optI (-1) (firstIx (fun m => M (p + 5) m == v) i j)))) := by
    intro j
    induction j with
    | zero =>
      intro i hi
      refine g_iload_n (j := 2) (pc' := 3) dX4_whoIsCalled_2 rfl rfl ?_
      refine g_aload_n (j := 0) (pc' := 4) dX4_whoIsCalled_3 rfl rfl ?_
      refine g_getI (pc' := 7) dX4_whoIsCalled_4 fX4_9 hp.c0 rfl rfl ?_
      rw [hn]
      refine g_icmp_ge (tgt := 28) (pc' := 10) dX4_whoIsCalled_7 (by decide) rfl (fun hc => ?_) (fun hc => ?_)
      · refine g_iconst (v := (-1)) (pc' := 29) dX4_whoIsCalled_28 (by decide) rfl ?_
        exact g_iret dX4_whoIsCalled_29 rfl rfl (⟨rfl, rfl⟩)
      · exact absurd (nI_le (by omega) (by omega)) hc
    | succ j ih =>
      intro i hi
      refine g_iload_n (j := 2) (pc' := 3) dX4_whoIsCalled_2 rfl rfl ?_
      refine g_aload_n (j := 0) (pc' := 4) dX4_whoIsCalled_3 rfl rfl ?_
      refine g_getI (pc' := 7) dX4_whoIsCalled_4 fX4_9 hp.c0 rfl rfl ?_
      rw [hn]
      refine g_icmp_ge (tgt := 28) (pc' := 10) dX4_whoIsCalled_7 (by decide) rfl (fun hc => ?_) (fun hc => ?_)
      · exact absurd hc (nI_ge (by omega) (by omega))
      · refine g_aload_n (j := 0) (pc' := 11) dX4_whoIsCalled_10 rfl rfl ?_
        refine g_getR (pc' := 14) dX4_whoIsCalled_11 fX4_40 hp.c0 rfl rfl ?_
        refine g_iload_n (j := 2) (pc' := 15) dX4_whoIsCalled_14 rfl rfl ?_
        refine g_iald (n := i) (pc' := 16) dX4_whoIsCalled_15 hp.c5 rfl (by omega) rfl ?_
        refine g_iload_n (j := 1) (pc' := 17) dX4_whoIsCalled_16 rfl rfl ?_
        refine g_icmp_ne (tgt := 22) (pc' := 20) dX4_whoIsCalled_17 (by decide) rfl (fun hc2 => ?_) (fun hc2 => ?_)
        · refine g_iinc (j := 2) (v := nI (i + 1)) (L' := [(0, .ref p), (1, .int v), (2, .int (nI (i + 1)))]) (pc' := 25) dX4_whoIsCalled_22 rfl (nI_1 i) (by decide) rfl rfl ?_
          refine g_goto (tgt := 2) dX4_whoIsCalled_25 (by decide) ?_
          have h9 := ih (i + 1) (by omega)
          simp only [firstIx, beq_iff_eq, hc2, if_false]
          exact h9
        · refine g_iload_n (j := 2) (pc' := 21) dX4_whoIsCalled_20 rfl rfl ?_
          exact g_iret dX4_whoIsCalled_21 rfl rfl (⟨rfl, by simp only [firstIx, beq_iff_eq, hc2, if_true, optI]⟩)
  exact loop n 0 (by omega)
def drawI (x : Int32) : Int32 := (x * 1103515245 + 12345) &&& 2147483647
def stonesI (x : Int32) : Int32 := x / 65536 - x / 65536 / 21 * 21
set_option maxRecDepth 100000 in
set_option maxHeartbeats 1000000 in
theorem s_drawStones {M : Nat → Nat → Int32} {N : Nat → Nat → Int64} {p : Nat} (hp : ParAt p) : Run mX4_drawStones 0 0 0 [.ref p] (SK, M, N) (fun r h' => ∃ M', h' = (SK, M', N) ∧ r = some (.int (stonesI (drawI (M p 4)))) ∧ (M' p 0 = M p 0 ∧ M' p 1 = M p 1 ∧ M' p 2 = M p 2 ∧ M' p 3 = M p 3 ∧ M' p 4 = drawI (M p 4)) ∧ ∀ a, a ≠ p → M' a = M a) := by
  refine Run.of (by decide) (Nat.le_of_ble_eq_true rfl) ?_
  refine g_aload_n (j := 0) (pc' := 1) dX4_drawStones_0 rfl rfl ?_
  refine g_aload_n (j := 0) (pc' := 2) dX4_drawStones_1 rfl rfl ?_
  refine g_getI (pc' := 5) dX4_drawStones_2 fX4_24 hp.c0 rfl rfl ?_
  refine g_ldc (v := 1103515245) (pc' := 7) dX4_drawStones_5 qX4_55 rfl ?_
  refine g_imul (pc' := 8) dX4_drawStones_7 rfl ?_
  refine g_sipush (v := 12345) (pc' := 11) dX4_drawStones_8 (by decide) rfl ?_
  refine g_iadd (pc' := 12) dX4_drawStones_11 rfl ?_
  refine g_ldc (v := 2147483647) (pc' := 14) dX4_drawStones_12 qX4_56 rfl ?_
  refine g_iand (pc' := 15) dX4_drawStones_14 rfl ?_
  refine g_putI (pc' := 18) dX4_drawStones_15 fX4_24 hp.c0 rfl ⟨rfl, rfl⟩ rfl ?_
  refine g_aload_n (j := 0) (pc' := 19) dX4_drawStones_18 rfl rfl ?_
  refine g_getI (pc' := 22) dX4_drawStones_19 fX4_24 hp.c0 rfl rfl ?_
  refine g_top (y := (((M p 4) * 1103515245) + 12345) &&& 2147483647) (by simp (disch := omega) only [um_ne, um_at, um_at2, cpy2_ne]) ?_
  refine g_ldc (v := 65536) (pc' := 24) dX4_drawStones_22 qX4_57 rfl ?_
  refine g_idiv (pc' := 25) dX4_drawStones_24 (by decide) rfl ?_
  refine g_bipush (v := 21) (pc' := 27) dX4_drawStones_25 (by decide) rfl ?_
  refine g_irem (pc' := 28) dX4_drawStones_27 (by decide) rfl ?_
  generalize hM1 : (um M p 4 ((((M p 4) * 1103515245) + 12345) &&& 2147483647)) = M1
  exact g_iret dX4_drawStones_28 rfl rfl (⟨M1, rfl, rfl, ⟨by rw [← hM1]; simp (disch := omega) only [um_ne, um_at, um_at2], by rw [← hM1]; simp (disch := omega) only [um_ne, um_at, um_at2], by rw [← hM1]; simp (disch := omega) only [um_ne, um_at, um_at2], by rw [← hM1]; simp (disch := omega) only [um_ne, um_at, um_at2], by rw [← hM1]; simp (disch := omega) only [um_at, drawI]⟩, fun a ha => by rw [← hM1]; simp (disch := omega) only [um_ne, um_at, um_at2]⟩)
