/-! ===== Parish, Past ===== -/
theorem cpy2_in {α : Type} {M : Nat → Nat → α} {k0 sp k1 dp n b : Nat} (h1 : dp ≤ b) (h2 : b < dp + n) : cpy2 M k0 sp k1 dp n k1 b = M k0 (sp + (b - dp)) := if_pos ⟨rfl, h1, h2⟩
theorem cpy2_out {α : Type} {M : Nat → Nat → α} {k0 sp k1 dp n b : Nat} (h : b < dp ∨ dp + n ≤ b) : cpy2 M k0 sp k1 dp n k1 b = M k1 b := if_neg (fun q => by omega)
/-- parish p is as parish q was; all else stays -/
def Copied (M M' : Nat → Nat → Int32) (p q : Nat) : Prop := (∀ j, j < 5 → M' p j = M q j) ∧ (∀ i j, 1 ≤ i → i ≤ 7 → j < 6 → M' (p + i) j = M (q + i) j) ∧ ∀ a, (a < p ∨ p + 8 ≤ a) → M' a = M a
set_option maxRecDepth 100000 in
set_option maxHeartbeats 1000000 in
theorem s_become {M : Nat → Nat → Int32} {N : Nat → Nat → Int64} {p q : Nat} (hp : ParAt p) (hq : ParAt q) (hpq : p + 8 ≤ q ∨ q + 8 ≤ p) : Run mX4_become 1 0 0 [.ref p, .ref q] (SK, M, N) (fun r h' => ∃ M', h' = (SK, M', N) ∧ r = none ∧ Copied M M' p q) := by
  refine Run.of (by decide) (Nat.le_of_ble_eq_true rfl) ?_
  refine g_aload_n (j := 0) (pc' := 1) dX4_become_0 rfl rfl ?_
  refine g_aload_n (j := 1) (pc' := 2) dX4_become_1 rfl rfl ?_
  refine g_getI (pc' := 5) dX4_become_2 fX4_9 hq.c0 rfl rfl ?_
  refine g_putI (pc' := 8) dX4_become_5 fX4_9 hp.c0 rfl ⟨rfl, rfl⟩ rfl ?_
  refine g_aload_n (j := 0) (pc' := 9) dX4_become_8 rfl rfl ?_
  refine g_aload_n (j := 1) (pc' := 10) dX4_become_9 rfl rfl ?_
  refine g_getI (pc' := 13) dX4_become_10 fX4_15 hq.c0 rfl rfl ?_
  refine g_putI (pc' := 16) dX4_become_13 fX4_15 hp.c0 rfl ⟨rfl, rfl⟩ rfl ?_
  refine g_aload_n (j := 0) (pc' := 17) dX4_become_16 rfl rfl ?_
  refine g_aload_n (j := 1) (pc' := 18) dX4_become_17 rfl rfl ?_
  refine g_getI (pc' := 21) dX4_become_18 fX4_18 hq.c0 rfl rfl ?_
  refine g_putI (pc' := 24) dX4_become_21 fX4_18 hp.c0 rfl ⟨rfl, rfl⟩ rfl ?_
  refine g_aload_n (j := 0) (pc' := 25) dX4_become_24 rfl rfl ?_
  refine g_aload_n (j := 1) (pc' := 26) dX4_become_25 rfl rfl ?_
  refine g_getI (pc' := 29) dX4_become_26 fX4_21 hq.c0 rfl rfl ?_
  refine g_putI (pc' := 32) dX4_become_29 fX4_21 hp.c0 rfl ⟨rfl, rfl⟩ rfl ?_
  refine g_aload_n (j := 0) (pc' := 33) dX4_become_32 rfl rfl ?_
  refine g_aload_n (j := 1) (pc' := 34) dX4_become_33 rfl rfl ?_
  refine g_getI (pc' := 37) dX4_become_34 fX4_24 hq.c0 rfl rfl ?_
  refine g_putI (pc' := 40) dX4_become_37 fX4_24 hp.c0 rfl ⟨rfl, rfl⟩ rfl ?_
  refine g_aload_n (j := 1) (pc' := 41) dX4_become_40 rfl rfl ?_
  refine g_getR (pc' := 44) dX4_become_41 fX4_27 hq.c0 rfl rfl ?_
  refine g_iconst (v := 0) (pc' := 45) dX4_become_44 (by decide) rfl ?_
  refine g_aload_n (j := 0) (pc' := 46) dX4_become_45 rfl rfl ?_
  refine g_getR (pc' := 49) dX4_become_46 fX4_27 hp.c0 rfl rfl ?_
  refine g_iconst (v := 0) (pc' := 50) dX4_become_49 (by decide) rfl ?_
  refine g_bipush (v := 6) (pc' := 52) dX4_become_50 (by decide) rfl ?_
  refine g_acopyI (sp := 0) (dp := 0) (n := 6) (st := []) (pc' := 55) dX4_become_52 wX4_49 hq.c1 hp.c1 rfl rfl rfl (by omega) (by omega) (Nat.le_of_ble_eq_true rfl) (by decide) rfl ?_
  refine g_aload_n (j := 1) (pc' := 56) dX4_become_55 rfl rfl ?_
  refine g_getR (pc' := 59) dX4_become_56 fX4_31 hq.c0 rfl rfl ?_
  refine g_iconst (v := 0) (pc' := 60) dX4_become_59 (by decide) rfl ?_
  refine g_aload_n (j := 0) (pc' := 61) dX4_become_60 rfl rfl ?_
  refine g_getR (pc' := 64) dX4_become_61 fX4_31 hp.c0 rfl rfl ?_
  refine g_iconst (v := 0) (pc' := 65) dX4_become_64 (by decide) rfl ?_
  refine g_bipush (v := 6) (pc' := 67) dX4_become_65 (by decide) rfl ?_
  refine g_acopyI (sp := 0) (dp := 0) (n := 6) (st := []) (pc' := 70) dX4_become_67 wX4_49 hq.c2 hp.c2 rfl rfl rfl (by omega) (by omega) (Nat.le_of_ble_eq_true rfl) (by decide) rfl ?_
  refine g_aload_n (j := 1) (pc' := 71) dX4_become_70 rfl rfl ?_
  refine g_getR (pc' := 74) dX4_become_71 fX4_34 hq.c0 rfl rfl ?_
  refine g_iconst (v := 0) (pc' := 75) dX4_become_74 (by decide) rfl ?_
  refine g_aload_n (j := 0) (pc' := 76) dX4_become_75 rfl rfl ?_
  refine g_getR (pc' := 79) dX4_become_76 fX4_34 hp.c0 rfl rfl ?_
  refine g_iconst (v := 0) (pc' := 80) dX4_become_79 (by decide) rfl ?_
  refine g_bipush (v := 6) (pc' := 82) dX4_become_80 (by decide) rfl ?_
  refine g_acopyI (sp := 0) (dp := 0) (n := 6) (st := []) (pc' := 85) dX4_become_82 wX4_49 hq.c3 hp.c3 rfl rfl rfl (by omega) (by omega) (Nat.le_of_ble_eq_true rfl) (by decide) rfl ?_
  refine g_aload_n (j := 1) (pc' := 86) dX4_become_85 rfl rfl ?_
  refine g_getR (pc' := 89) dX4_become_86 fX4_37 hq.c0 rfl rfl ?_
  refine g_iconst (v := 0) (pc' := 90) dX4_become_89 (by decide) rfl ?_
  refine g_aload_n (j := 0) (pc' := 91) dX4_become_90 rfl rfl ?_
  refine g_getR (pc' := 94) dX4_become_91 fX4_37 hp.c0 rfl rfl ?_
  refine g_iconst (v := 0) (pc' := 95) dX4_become_94 (by decide) rfl ?_
  refine g_bipush (v := 6) (pc' := 97) dX4_become_95 (by decide) rfl ?_
  refine g_acopyI (sp := 0) (dp := 0) (n := 6) (st := []) (pc' := 100) dX4_become_97 wX4_49 hq.c4 hp.c4 rfl rfl rfl (by omega) (by omega) (Nat.le_of_ble_eq_true rfl) (by decide) rfl ?_
  refine g_aload_n (j := 1) (pc' := 101) dX4_become_100 rfl rfl ?_
  refine g_getR (pc' := 104) dX4_become_101 fX4_40 hq.c0 rfl rfl ?_
  refine g_iconst (v := 0) (pc' := 105) dX4_become_104 (by decide) rfl ?_
  refine g_aload_n (j := 0) (pc' := 106) dX4_become_105 rfl rfl ?_
  refine g_getR (pc' := 109) dX4_become_106 fX4_40 hp.c0 rfl rfl ?_
  refine g_iconst (v := 0) (pc' := 110) dX4_become_109 (by decide) rfl ?_
  refine g_bipush (v := 6) (pc' := 112) dX4_become_110 (by decide) rfl ?_
  refine g_acopyI (sp := 0) (dp := 0) (n := 6) (st := []) (pc' := 115) dX4_become_112 wX4_49 hq.c5 hp.c5 rfl rfl rfl (by omega) (by omega) (Nat.le_of_ble_eq_true rfl) (by decide) rfl ?_
  refine g_aload_n (j := 1) (pc' := 116) dX4_become_115 rfl rfl ?_
  refine g_getR (pc' := 119) dX4_become_116 fX4_43 hq.c0 rfl rfl ?_
  refine g_iconst (v := 0) (pc' := 120) dX4_become_119 (by decide) rfl ?_
  refine g_aload_n (j := 0) (pc' := 121) dX4_become_120 rfl rfl ?_
  refine g_getR (pc' := 124) dX4_become_121 fX4_43 hp.c0 rfl rfl ?_
  refine g_iconst (v := 0) (pc' := 125) dX4_become_124 (by decide) rfl ?_
  refine g_bipush (v := 6) (pc' := 127) dX4_become_125 (by decide) rfl ?_
  refine g_acopyI (sp := 0) (dp := 0) (n := 6) (st := []) (pc' := 130) dX4_become_127 wX4_49 hq.c6 hp.c6 rfl rfl rfl (by omega) (by omega) (Nat.le_of_ble_eq_true rfl) (by decide) rfl ?_
  refine g_aload_n (j := 1) (pc' := 131) dX4_become_130 rfl rfl ?_
  refine g_getR (pc' := 134) dX4_become_131 fX4_46 hq.c0 rfl rfl ?_
  refine g_iconst (v := 0) (pc' := 135) dX4_become_134 (by decide) rfl ?_
  refine g_aload_n (j := 0) (pc' := 136) dX4_become_135 rfl rfl ?_
  refine g_getR (pc' := 139) dX4_become_136 fX4_46 hp.c0 rfl rfl ?_
  refine g_iconst (v := 0) (pc' := 140) dX4_become_139 (by decide) rfl ?_
  refine g_bipush (v := 6) (pc' := 142) dX4_become_140 (by decide) rfl ?_
  refine g_acopyI (sp := 0) (dp := 0) (n := 6) (st := []) (pc' := 145) dX4_become_142 wX4_49 hq.c7 hp.c7 rfl rfl rfl (by omega) (by omega) (Nat.le_of_ble_eq_true rfl) (by decide) rfl ?_
  generalize hM1 : (cpy2 (cpy2 (cpy2 (cpy2 (cpy2 (cpy2 (cpy2 (um (um (um (um (um M p 0 (M q 0)) p 1 ((um M p 0 (M q 0)) q 1)) p 2 ((um (um M p 0 (M q 0)) p 1 ((um M p 0 (M q 0)) q 1)) q 2)) p 3 ((um (um (um M p 0 (M q 0)) p 1 ((um M p 0 (M q 0)) q 1)) p 2 ((um (um M p 0 (M q 0)) p 1 ((um M p 0 (M q 0)) q 1)) q 2)) q 3)) p 4 ((um (um (um (um M p 0 (M q 0)) p 1 ((um M p 0 (M q 0)) q 1)) p 2 ((um (um M p 0 (M q 0)) p 1 ((um M p 0 (M q 0)) q 1)) q 2)) p 3 ((um (um (um M p 0 (M q 0)) p 1 ((um M p 0 (M q 0)) q 1)) p 2 ((um (um M p 0 (M q 0)) p 1 ((um M p 0 (M q 0)) q 1)) q 2)) q 3)) q 4)) (q + 1) 0 (p + 1) 0 6) (q + 2) 0 (p + 2) 0 6) (q + 3) 0 (p + 3) 0 6) (q + 4) 0 (p + 4) 0 6) (q + 5) 0 (p + 5) 0 6) (q + 6) 0 (p + 6) 0 6) (q + 7) 0 (p + 7) 0 6) = M1
  have h5 : ∀ j, j < 5 → M1 p j = M q j := by
    intro j hj
    rw [← hM1]
    rcases (show j = 0 ∨ j = 1 ∨ j = 2 ∨ j = 3 ∨ j = 4 by omega) with rfl | rfl | rfl | rfl | rfl <;> simp (disch := omega) only [cpy2_ne, um_ne, um_at, um_at2]
  have h6 : ∀ i j, 1 ≤ i → i ≤ 7 → j < 6 → M1 (p + i) j = M (q + i) j := by
    intro i j hi1 hi7 hj
    rw [← hM1]
    rcases (show i = 1 ∨ i = 2 ∨ i = 3 ∨ i = 4 ∨ i = 5 ∨ i = 6 ∨ i = 7 by omega) with rfl | rfl | rfl | rfl | rfl | rfl | rfl <;> simp (disch := omega) only [cpy2_ne, cpy2_in, um_ne, Nat.zero_add, Nat.sub_zero]
  have h7 : ∀ a, (a < p ∨ p + 8 ≤ a) → M1 a = M a := by
    intro a ha
    rw [← hM1]
    simp (disch := omega) only [cpy2_ne, um_ne]
  exact g_vret dX4_become_145 rfl (⟨M1, rfl, rfl, h5, h6, h7⟩)
