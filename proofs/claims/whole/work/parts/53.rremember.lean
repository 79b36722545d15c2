set_option maxRecDepth 100000 in
set_option maxHeartbeats 1000000 in
theorem r_remember {M : Nat → Nat → Int32} {N : Nat → Nat → Int64} {n k : Nat} {P : Nat → Int32} {pa : List (Nat → Int32)} (h8 : pa.length ≤ 8) (hY : YR M 190 (n, k, P, pa)) : Run mX12_remember 1 0 0 [.ref 189] (SK, M, N) (fun r h' => ∃ M', h' = (SK, M', N) ∧ r = none ∧ YR M' 190 (n, k, P, keepL P pa) ∧ ∀ a, a ≠ 190 → M' a = M a) := by
  refine Run.of (by decide) (Nat.le_of_ble_eq_true rfl) ?_
  have tail : ∀ (M1 : Nat → Nat → Int32) (pa' : List (Nat → Int32)) (L : Nat), pa'.length = L → L ≤ 7 → YR M1 190 (n, k, P, pa') → (∀ a, a ≠ 190 → M1 a = M a) → Go mX12_remember 1 0 0 59 [(0, .ref 189)] [] (SK, M1, N) (fun r h' => ∃ M', h' = (SK, M', N) ∧ r = none ∧ YR M' 190 (n, k, P, P :: pa') ∧ ∀ a, a ≠ 190 → M' a = M a) := by
    intro M1 pa' L hL hL7 hY hf
    obtain ⟨h1, h2, h3⟩ := hY
    dsimp only at h1 h2 h3
    rw [hL] at h2
    refine g_bipush (v := 48) (pc' := 61) dX12_remember_59 (by decide) rfl ?_
    refine g_bipush (v := 38) (pc' := 63) dX12_remember_61 (by decide) rfl ?_
    refine g_aload_n (j := 0) (pc' := 64) dX12_remember_63 rfl rfl ?_
    refine g_getR (pc' := 67) dX12_remember_64 fX12_7 rfl rfl rfl ?_
    refine g_bipush (v := 47) (pc' := 69) dX12_remember_67 (by decide) rfl ?_
    refine g_iald (n := 47) (pc' := 70) dX12_remember_69 rfl rfl (by omega) rfl ?_
    refine g_top (y := nI L) (h2) ?_
    refine g_imul (pc' := 71) dX12_remember_70 rfl ?_
    refine g_iadd (pc' := 72) dX12_remember_71 rfl ?_
    refine g_top (y := nI (48 + 38 * L)) (by rw [show (38 : Int32) * nI L = nI (38 * L) from pk_mul 38 L]; exact nI_add 48 (38 * L)) ?_
    refine g_istore_n (L' := [(0, .ref 189), (1, .int (nI (48 + 38 * L)))]) (pc' := 73) dX12_remember_72 (by decide) rfl rfl ?_
    refine g_aload_n (j := 0) (pc' := 74) dX12_remember_73 rfl rfl ?_
    refine g_getR (pc' := 77) dX12_remember_74 fX12_7 rfl rfl rfl ?_
    refine g_bipush (v := 10) (pc' := 79) dX12_remember_77 (by decide) rfl ?_
    refine g_aload_n (j := 0) (pc' := 80) dX12_remember_79 rfl rfl ?_
    refine g_getR (pc' := 83) dX12_remember_80 fX12_7 rfl rfl rfl ?_
    refine g_iload_n (j := 1) (pc' := 84) dX12_remember_83 rfl rfl ?_
    refine g_bipush (v := 37) (pc' := 86) dX12_remember_84 (by decide) rfl ?_
    refine g_callS (my := mX12_copies) (st := []) (av := [.ref 190, .int 10, .ref 190, .int (nI (48 + 38 * L)), .int 37]) (mcr := 0) (msr := 0) (mc := 0) (ms := 0) (pc' := 89) dX12_remember_86 kX12_copies wX12_152 rfl (Nat.le_of_ble_eq_true rfl) (by decide) (s_copies (k0 := 190) (i := 10) (k1 := 190) (j := 48 + 38 * L) (n := 37) rfl rfl (by omega) (by omega) (by omega)) rfl ?_
    rintro _ _ ⟨rfl, rfl⟩
    show Go mX12_remember _ _ _ 89 [(0, .ref 189), (1, .int (nI (48 + 38 * L)))] [] (SK, (cpy2 M1 190 10 190 (48 + 38 * L) 37), N) _
    refine g_aload_n (j := 0) (pc' := 90) dX12_remember_89 rfl rfl ?_
    refine g_getR (pc' := 93) dX12_remember_90 fX12_7 rfl rfl rfl ?_
    refine g_iload_n (j := 1) (pc' := 94) dX12_remember_93 rfl rfl ?_
    refine g_bipush (v := 37) (pc' := 96) dX12_remember_94 (by decide) rfl ?_
    refine g_iadd (pc' := 97) dX12_remember_96 rfl ?_
    refine g_aload_n (j := 0) (pc' := 98) dX12_remember_97 rfl rfl ?_
    refine g_getR (pc' := 101) dX12_remember_98 fX12_7 rfl rfl rfl ?_
    refine g_iconst (v := 3) (pc' := 102) dX12_remember_101 (by decide) rfl ?_
    refine g_iald (n := 3) (pc' := 103) dX12_remember_102 rfl rfl (by omega) rfl ?_
    refine g_top (y := P 3) ((cpy2_out (by omega)).trans (h1 3 (by omega))) ?_
    refine g_iast (n := (48 + 38 * L) + 37) (pc' := 104) dX12_remember_103 rfl (nI_addE rfl rfl) (by omega) rfl ?_
    refine g_aload_n (j := 0) (pc' := 105) dX12_remember_104 rfl rfl ?_
    refine g_getR (pc' := 108) dX12_remember_105 fX12_7 rfl rfl rfl ?_
    refine g_bipush (v := 47) (pc' := 110) dX12_remember_108 (by decide) rfl ?_
    refine g_dup2 (pc' := 111) dX12_remember_110 rfl rfl rfl ?_
    refine g_iald (n := 47) (pc' := 112) dX12_remember_111 rfl rfl (by omega) rfl ?_
    refine g_top (y := nI L) (by rw [um_at2 (by omega), cpy2_out (by omega)]; exact h2) ?_
    refine g_iconst (v := 1) (pc' := 113) dX12_remember_112 (by decide) rfl ?_
    refine g_iadd (pc' := 114) dX12_remember_113 rfl ?_
    refine g_top (y := nI (L + 1)) (nI_1 L) ?_
    refine g_iast (n := 47) (pc' := 115) dX12_remember_114 rfl rfl (by omega) rfl ?_
    generalize hM2 : (um (um (cpy2 M1 190 10 190 (48 + 38 * L) 37) 190 ((48 + 38 * L) + 37) (P 3)) 190 47 (nI (L + 1))) = M2
    refine g_vret dX12_remember_115 rfl (⟨M2, rfl, rfl, ⟨fun j hj => ?_, ?_, fun i Q hi => ?_⟩, fun a ha => by rw [← hM2, um_ne ha, um_ne ha, cpy2_ne ha]; exact hf a ha⟩)
    · rw [← hM2, um_at2 (by omega), um_at2 (by omega), cpy2_out (by omega)]; exact h1 j hj
    · rw [← hM2, um_at]; show nI (L + 1) = nI (pa'.length + 1); rw [hL]
    · dsimp only at hi ⊢
      rw [List.length_cons, hL]
      cases i with
      | zero =>
        cases hi
        refine ⟨fun j hj => ?_, ?_⟩
        · rw [show 48 + 38 * (L + 1 - 1 - 0) + j = 48 + 38 * L + j by omega, ← hM2, um_at2 (by omega), um_at2 (by omega), cpy2_in (by omega) (by omega), Nat.add_sub_cancel_left]
          exact h1 (10 + j) (by omega)
        · rw [show 48 + 38 * (L + 1 - 1 - 0) + 37 = 48 + 38 * L + 37 by omega, ← hM2, um_at2 (by omega), um_at]
      | succ i =>
        have hi2 : pa'[i]? = some Q := hi
        have hil := (List.getElem?_eq_some_iff.mp hi2).1
        have h4 := h3 i Q hi2
        rw [hL] at h4
        rw [show L + 1 - 1 - (i + 1) = L - 1 - i by omega]
        refine ⟨fun j hj => ?_, ?_⟩
        · rw [← hM2, um_at2 (by omega), um_at2 (by omega), cpy2_out (by omega)]; exact h4.1 j hj
        · rw [← hM2, um_at2 (by omega), um_at2 (by omega), cpy2_out (by omega)]; exact h4.2
  obtain ⟨g1, g2, g3⟩ := id hY
  dsimp only at g1 g2 g3
  refine g_aload_n (j := 0) (pc' := 1) dX12_remember_0 rfl rfl ?_
  refine g_getR (pc' := 4) dX12_remember_1 fX12_7 rfl rfl rfl ?_
  refine g_bipush (v := 47) (pc' := 6) dX12_remember_4 (by decide) rfl ?_
  refine g_iald (n := 47) (pc' := 7) dX12_remember_6 rfl rfl (by omega) rfl ?_
  refine g_top (y := nI pa.length) (g2) ?_
  have hkl : keepL P pa = P :: pa.take 7 := rfl
  rw [hkl]
  refine g_bipush (v := 8) (pc' := 9) dX12_remember_7 (by decide) rfl ?_
  refine g_icmp_ne (tgt := 59) (pc' := 12) dX12_remember_9 (by decide) rfl (fun hc8 => ?_) (fun hc8 => ?_)
  · have hl7 : pa.length ≤ 7 := by rcases Nat.lt_or_eq_of_le h8 with q | q; omega; exact absurd (by rw [q]; rfl) hc8
    rw [List.take_of_length_le hl7]
    exact tail M pa pa.length rfl hl7 hY (fun _ _ => rfl)
  · have hl8 : pa.length = 8 := (nI_eq (b := 8) (by omega) (by omega)).mp hc8
    rw [hl8] at g2 g3
    refine g_iconst (v := 0) (pc' := 13) dX12_remember_12 (by decide) rfl ?_
    refine g_istore_n (L' := [(0, .ref 189), (1, .int 0)]) (pc' := 14) dX12_remember_13 (by decide) rfl rfl ?_
    have loop : ∀ (j t : Nat) (M1 : Nat → Nat → Int32), t + j = 266 → (∀ x, M1 190 x = if 48 ≤ x ∧ x < 48 + t then M 190 (x + 38) else M 190 x) → (∀ a, a ≠ 190 → M1 a = M a) → Go mX12_remember 1 0 0 14 [(0, .ref 189), (1, .int (nI t))] [] (SK, M1, N) (fun r h' => ∃ M', h' = (SK, M', N) ∧ r = none ∧ YR M' 190 (n, k, P, P :: pa.take 7) ∧ ∀ a, a ≠ 190 → M' a = M a) := by
      intro j
      induction j with
      | zero =>
        intro t M1 ht h1 hf
        refine g_iload_n (j := 1) (pc' := 15) dX12_remember_14 rfl rfl ?_
        refine g_sipush (v := 266) (pc' := 18) dX12_remember_15 (by decide) rfl ?_
        refine g_icmp_ge (tgt := 48) (pc' := 21) dX12_remember_18 (by decide) rfl (fun hc => ?_) (fun hc => (absurd (nI_le (a := 266) (b := t) (by omega) (by omega)) hc))
        obtain rfl : t = 266 := by omega
        refine g_less (L' := [(0, .ref 189)]) [0] rfl ?_
        refine g_aload_n (j := 0) (pc' := 49) dX12_remember_48 rfl rfl ?_
        refine g_getR (pc' := 52) dX12_remember_49 fX12_7 rfl rfl rfl ?_
        refine g_bipush (v := 47) (pc' := 54) dX12_remember_52 (by decide) rfl ?_
        refine g_dup2 (pc' := 55) dX12_remember_54 rfl rfl rfl ?_
        refine g_iald (n := 47) (pc' := 56) dX12_remember_55 rfl rfl (by omega) rfl ?_
        refine g_top (y := nI 8) (by rw [h1 47, if_neg (by omega)]; exact g2) ?_
        refine g_iconst (v := 1) (pc' := 57) dX12_remember_56 (by decide) rfl ?_
        refine g_isub (pc' := 58) dX12_remember_57 rfl ?_
        refine g_top (y := nI 7) (by decide) ?_
        refine g_iast (n := 47) (pc' := 59) dX12_remember_58 rfl rfl (by omega) rfl ?_
        generalize hM2 : (um M1 190 47 (nI 7)) = M2
        refine tail M2 (pa.take 7) 7 (by rw [List.length_take, hl8]; rfl) (Nat.le_refl _) ⟨fun j hj => ?_, ?_, fun i Q hi => ?_⟩ (fun a ha => by rw [← hM2, um_ne ha]; exact hf a ha)
        · rw [← hM2, um_at2 (by omega), h1 j, if_neg (by omega)]; exact g1 j hj
        · rw [← hM2, um_at]; show nI 7 = nI (pa.take 7).length; rw [List.length_take, hl8]; rfl
        · dsimp only at hi ⊢
          rw [List.length_take, hl8, show min 7 8 = 7 from rfl]
          have hi7 : i < 7 := by
            have := (List.getElem?_eq_some_iff.mp hi).1
            rw [List.length_take] at this
            omega
          rw [List.getElem?_take_of_lt hi7] at hi
          have h4 := g3 i Q hi
          refine ⟨fun j hj => ?_, ?_⟩
          · rw [← hM2, um_at2 (by omega), h1, if_pos (by omega), show 48 + 38 * (7 - 1 - i) + j + 38 = 48 + 38 * (8 - 1 - i) + j by omega]; exact h4.1 j hj
          · rw [← hM2, um_at2 (by omega), h1, if_pos (by omega), show 48 + 38 * (7 - 1 - i) + 37 + 38 = 48 + 38 * (8 - 1 - i) + 37 by omega]; exact h4.2
      | succ j ih =>
        intro t M1 ht h1 hf
        refine g_iload_n (j := 1) (pc' := 15) dX12_remember_14 rfl rfl ?_
        refine g_sipush (v := 266) (pc' := 18) dX12_remember_15 (by decide) rfl ?_
        refine g_icmp_ge (tgt := 48) (pc' := 21) dX12_remember_18 (by decide) rfl (fun hc => (absurd hc (nI_ge (a := t) (b := 266) (by omega) (by omega)))) (fun hc => ?_)
        refine g_aload_n (j := 0) (pc' := 22) dX12_remember_21 rfl rfl ?_
        refine g_getR (pc' := 25) dX12_remember_22 fX12_7 rfl rfl rfl ?_
        refine g_bipush (v := 48) (pc' := 27) dX12_remember_25 (by decide) rfl ?_
        refine g_iload_n (j := 1) (pc' := 28) dX12_remember_27 rfl rfl ?_
        refine g_iadd (pc' := 29) dX12_remember_28 rfl ?_
        refine g_aload_n (j := 0) (pc' := 30) dX12_remember_29 rfl rfl ?_
        refine g_getR (pc' := 33) dX12_remember_30 fX12_7 rfl rfl rfl ?_
        refine g_bipush (v := 48) (pc' := 35) dX12_remember_33 (by decide) rfl ?_
        refine g_iload_n (j := 1) (pc' := 36) dX12_remember_35 rfl rfl ?_
        refine g_iadd (pc' := 37) dX12_remember_36 rfl ?_
        refine g_bipush (v := 38) (pc' := 39) dX12_remember_37 (by decide) rfl ?_
        refine g_iadd (pc' := 40) dX12_remember_39 rfl ?_
        refine g_iald (n := (48 + t) + 38) (pc' := 41) dX12_remember_40 rfl (nI_addE (nI_addE rfl rfl) rfl) (by omega) rfl ?_
        refine g_top (y := M 190 (48 + t + 38)) (by rw [h1, if_neg (by omega)]) ?_
        refine g_iast (n := 48 + t) (pc' := 42) dX12_remember_41 rfl (nI_addE rfl rfl) (by omega) rfl ?_
        generalize hM2 : (um M1 190 (48 + t) (M 190 (48 + t + 38))) = M2
        refine g_iinc (j := 1) (v := nI (t + 1)) (L' := [(0, .ref 189), (1, .int (nI (t + 1)))]) (pc' := 45) dX12_remember_42 rfl (nI_1 t) (by decide) rfl rfl ?_
        refine g_goto (tgt := 14) dX12_remember_45 (by decide) ?_
        refine ih (t + 1) M2 (by omega) (fun x => ?_) (fun a ha => by rw [← hM2, um_ne ha]; exact hf a ha)
        rw [← hM2]
        by_cases e : x = 48 + t
        · subst e; rw [um_at, if_pos (by omega)]
        · rw [um_at2 e, h1 x]
          by_cases e2 : 48 ≤ x ∧ x < 48 + t
          · rw [if_pos e2, if_pos (by omega)]
          · rw [if_neg e2, if_neg (by omega)]
    exact loop 266 0 M (by omega) (fun x => by rw [if_neg (by omega)]) (fun _ _ => rfl)
