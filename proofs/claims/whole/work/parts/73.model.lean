abbrev modC (p : Nat) : List (Nat × List Value) := [(12, [.ref (p + 1), .ref (p + 2), .ref (p + 3), .ref (p + 4), .int 0, .ref (p + 5), .int 0, .ref (p + 6), .ref (p + 7), .ref (p + 8), .ref (p + 9), .ref (p + 10), .ref (p + 11), .int 0, .int 0, .ref (p + 12)]), (100, rep 352), (100, rep 352), (100, rep 352), (100, rep 352), (100, rep 80), (100, rep 4), (100, rep 4), (101, rep 96), (100, rep 6), (100, rep 6), (100, rep 6), (100, rep 448)]
set_option maxRecDepth 100000 in
set_option maxHeartbeats 1000000 in
theorem i_X12 {sk0 : List (Nat × List Value)} {p : Nat} (hp0 : sk0.length = p) (hpb : p ≤ 900) {M : Nat → Nat → Int32} {N : Nat → Nat → Int64} (h4 : M p 4 = 0) (h6 : M p 6 = 0) : Run mX12_init 3 12 2058 [.ref p] (sk0 ++ [(12, [.null, .null, .null, .null, .int 0, .null, .int 0, .null, .null, .null, .null, .null, .null, .int 0, .int 0, .null])], M, N) (fun r h' => ∃ M' N', h' = (sk0 ++ modC p, M', N') ∧ r = none ∧ M' p 4 = 0 ∧ M' p 6 = 0 ∧ (∀ j, j < 352 → M' (p + 1) j = emP 1 6 j) ∧ (M' (p + 7) 0 = -1 ∧ M' (p + 7) 1 = -1 ∧ M' (p + 7) 2 = -1 ∧ M' (p + 7) 3 = -1) ∧ ∀ a, (a < p ∨ p + 13 ≤ a) → M' a = M a) := by
  refine Run.of (by decide) (Nat.le_of_ble_eq_true rfl) ?_
  refine g_aload_n (j := 0) (pc' := 1) dX12_init_0 rfl rfl ?_
  refine g_objinit (pc' := 4) dX12_init_1 wX12_1 (Nat.le_of_ble_eq_true rfl) (by decide) rfl ?_
  refine g_aload_n (j := 0) (pc' := 5) dX12_init_4 rfl rfl ?_
  refine g_sipush (v := 352) (pc' := 8) dX12_init_5 (by decide) rfl ?_
  refine x_newaI (mcr := 11) (msr := 1706) (n := 352) (q := 1) (pc' := 10) hp0 dX12_init_8 acint rfl (by omega) rfl (by omega) rfl ?_
  refine x_l (l' := [(12, [.null, .null, .null, .null, .int 0, .null, .int 0, .null, .null, .null, .null, .null, .null, .int 0, .int 0, .null]), (100, rep 352)]) rfl ?_
  refine x_putFR (i := 0) (l' := [(12, [.ref (p + 1), .null, .null, .null, .int 0, .null, .int 0, .null, .null, .null, .null, .null, .null, .int 0, .int 0, .null]), (100, rep 352)]) (pc' := 13) hp0 dX12_init_10 fX12_7 ⟨rfl, rfl⟩ rfl (Nat.le_of_ble_eq_true rfl) (fun _ => ⟨rfl, rfl⟩) rfl rfl rfl ?_
  refine g_aload_n (j := 0) (pc' := 14) dX12_init_13 rfl rfl ?_
  refine g_sipush (v := 352) (pc' := 17) dX12_init_14 (by decide) rfl ?_
  refine x_newaI (mcr := 10) (msr := 1354) (n := 352) (q := 2) (pc' := 19) hp0 dX12_init_17 acint rfl (by omega) rfl (by omega) rfl ?_
  refine x_l (l' := [(12, [.ref (p + 1), .null, .null, .null, .int 0, .null, .int 0, .null, .null, .null, .null, .null, .null, .int 0, .int 0, .null]), (100, rep 352), (100, rep 352)]) rfl ?_
  refine x_putFR (i := 0) (l' := [(12, [.ref (p + 1), .ref (p + 2), .null, .null, .int 0, .null, .int 0, .null, .null, .null, .null, .null, .null, .int 0, .int 0, .null]), (100, rep 352), (100, rep 352)]) (pc' := 22) hp0 dX12_init_19 fX12_13 ⟨rfl, rfl⟩ rfl (Nat.le_of_ble_eq_true rfl) (fun _ => ⟨rfl, rfl⟩) rfl rfl rfl ?_
  refine g_aload_n (j := 0) (pc' := 23) dX12_init_22 rfl rfl ?_
  refine g_sipush (v := 352) (pc' := 26) dX12_init_23 (by decide) rfl ?_
  refine x_newaI (mcr := 9) (msr := 1002) (n := 352) (q := 3) (pc' := 28) hp0 dX12_init_26 acint rfl (by omega) rfl (by omega) rfl ?_
  refine x_l (l' := [(12, [.ref (p + 1), .ref (p + 2), .null, .null, .int 0, .null, .int 0, .null, .null, .null, .null, .null, .null, .int 0, .int 0, .null]), (100, rep 352), (100, rep 352), (100, rep 352)]) rfl ?_
  refine x_putFR (i := 0) (l' := [(12, [.ref (p + 1), .ref (p + 2), .ref (p + 3), .null, .int 0, .null, .int 0, .null, .null, .null, .null, .null, .null, .int 0, .int 0, .null]), (100, rep 352), (100, rep 352), (100, rep 352)]) (pc' := 31) hp0 dX12_init_28 fX12_16 ⟨rfl, rfl⟩ rfl (Nat.le_of_ble_eq_true rfl) (fun _ => ⟨rfl, rfl⟩) rfl rfl rfl ?_
  refine g_aload_n (j := 0) (pc' := 32) dX12_init_31 rfl rfl ?_
  refine g_sipush (v := 352) (pc' := 35) dX12_init_32 (by decide) rfl ?_
  refine x_newaI (mcr := 8) (msr := 650) (n := 352) (q := 4) (pc' := 37) hp0 dX12_init_35 acint rfl (by omega) rfl (by omega) rfl ?_
  refine x_l (l' := [(12, [.ref (p + 1), .ref (p + 2), .ref (p + 3), .null, .int 0, .null, .int 0, .null, .null, .null, .null, .null, .null, .int 0, .int 0, .null]), (100, rep 352), (100, rep 352), (100, rep 352), (100, rep 352)]) rfl ?_
  refine x_putFR (i := 0) (l' := [(12, [.ref (p + 1), .ref (p + 2), .ref (p + 3), .ref (p + 4), .int 0, .null, .int 0, .null, .null, .null, .null, .null, .null, .int 0, .int 0, .null]), (100, rep 352), (100, rep 352), (100, rep 352), (100, rep 352)]) (pc' := 40) hp0 dX12_init_37 fX12_19 ⟨rfl, rfl⟩ rfl (Nat.le_of_ble_eq_true rfl) (fun _ => ⟨rfl, rfl⟩) rfl rfl rfl ?_
  refine g_aload_n (j := 0) (pc' := 41) dX12_init_40 rfl rfl ?_
  refine g_bipush (v := 80) (pc' := 43) dX12_init_41 (by decide) rfl ?_
  refine x_newaI (mcr := 7) (msr := 570) (n := 80) (q := 5) (pc' := 45) hp0 dX12_init_43 acint rfl (by omega) rfl (by omega) rfl ?_
  refine x_l (l' := [(12, [.ref (p + 1), .ref (p + 2), .ref (p + 3), .ref (p + 4), .int 0, .null, .int 0, .null, .null, .null, .null, .null, .null, .int 0, .int 0, .null]), (100, rep 352), (100, rep 352), (100, rep 352), (100, rep 352), (100, rep 80)]) rfl ?_
  refine x_putFR (i := 0) (l' := [(12, [.ref (p + 1), .ref (p + 2), .ref (p + 3), .ref (p + 4), .int 0, .ref (p + 5), .int 0, .null, .null, .null, .null, .null, .null, .int 0, .int 0, .null]), (100, rep 352), (100, rep 352), (100, rep 352), (100, rep 352), (100, rep 80)]) (pc' := 48) hp0 dX12_init_45 fX12_22 ⟨rfl, rfl⟩ rfl (Nat.le_of_ble_eq_true rfl) (fun _ => ⟨rfl, rfl⟩) rfl rfl rfl ?_
  refine g_aload_n (j := 0) (pc' := 49) dX12_init_48 rfl rfl ?_
  refine g_iconst (v := 4) (pc' := 50) dX12_init_49 (by decide) rfl ?_
  refine x_newaI (mcr := 6) (msr := 566) (n := 4) (q := 6) (pc' := 52) hp0 dX12_init_50 acint rfl (by omega) rfl (by omega) rfl ?_
  refine x_l (l' := [(12, [.ref (p + 1), .ref (p + 2), .ref (p + 3), .ref (p + 4), .int 0, .ref (p + 5), .int 0, .null, .null, .null, .null, .null, .null, .int 0, .int 0, .null]), (100, rep 352), (100, rep 352), (100, rep 352), (100, rep 352), (100, rep 80), (100, rep 4)]) rfl ?_
  refine x_putFR (i := 0) (l' := [(12, [.ref (p + 1), .ref (p + 2), .ref (p + 3), .ref (p + 4), .int 0, .ref (p + 5), .int 0, .ref (p + 6), .null, .null, .null, .null, .null, .int 0, .int 0, .null]), (100, rep 352), (100, rep 352), (100, rep 352), (100, rep 352), (100, rep 80), (100, rep 4)]) (pc' := 55) hp0 dX12_init_52 fX12_25 ⟨rfl, rfl⟩ rfl (Nat.le_of_ble_eq_true rfl) (fun _ => ⟨rfl, rfl⟩) rfl rfl rfl ?_
  refine g_aload_n (j := 0) (pc' := 56) dX12_init_55 rfl rfl ?_
  refine g_iconst (v := 4) (pc' := 57) dX12_init_56 (by decide) rfl ?_
  refine x_newaI (mcr := 5) (msr := 562) (n := 4) (q := 7) (pc' := 59) hp0 dX12_init_57 acint rfl (by omega) rfl (by omega) rfl ?_
  refine x_l (l' := [(12, [.ref (p + 1), .ref (p + 2), .ref (p + 3), .ref (p + 4), .int 0, .ref (p + 5), .int 0, .ref (p + 6), .null, .null, .null, .null, .null, .int 0, .int 0, .null]), (100, rep 352), (100, rep 352), (100, rep 352), (100, rep 352), (100, rep 80), (100, rep 4), (100, rep 4)]) rfl ?_
  refine x_putFR (i := 0) (l' := [(12, [.ref (p + 1), .ref (p + 2), .ref (p + 3), .ref (p + 4), .int 0, .ref (p + 5), .int 0, .ref (p + 6), .ref (p + 7), .null, .null, .null, .null, .int 0, .int 0, .null]), (100, rep 352), (100, rep 352), (100, rep 352), (100, rep 352), (100, rep 80), (100, rep 4), (100, rep 4)]) (pc' := 62) hp0 dX12_init_59 fX12_28 ⟨rfl, rfl⟩ rfl (Nat.le_of_ble_eq_true rfl) (fun _ => ⟨rfl, rfl⟩) rfl rfl rfl ?_
  refine g_aload_n (j := 0) (pc' := 63) dX12_init_62 rfl rfl ?_
  refine g_bipush (v := 96) (pc' := 65) dX12_init_63 (by decide) rfl ?_
  refine x_newaL (mcr := 4) (msr := 466) (n := 96) (q := 8) (pc' := 67) hp0 dX12_init_65 aclong rfl (by omega) rfl (by omega) rfl ?_
  refine x_l (l' := [(12, [.ref (p + 1), .ref (p + 2), .ref (p + 3), .ref (p + 4), .int 0, .ref (p + 5), .int 0, .ref (p + 6), .ref (p + 7), .null, .null, .null, .null, .int 0, .int 0, .null]), (100, rep 352), (100, rep 352), (100, rep 352), (100, rep 352), (100, rep 80), (100, rep 4), (100, rep 4), (101, rep 96)]) rfl ?_
  refine x_putFR (i := 0) (l' := [(12, [.ref (p + 1), .ref (p + 2), .ref (p + 3), .ref (p + 4), .int 0, .ref (p + 5), .int 0, .ref (p + 6), .ref (p + 7), .ref (p + 8), .null, .null, .null, .int 0, .int 0, .null]), (100, rep 352), (100, rep 352), (100, rep 352), (100, rep 352), (100, rep 80), (100, rep 4), (100, rep 4), (101, rep 96)]) (pc' := 70) hp0 dX12_init_67 fX12_31 ⟨rfl, rfl⟩ rfl (Nat.le_of_ble_eq_true rfl) (fun _ => ⟨rfl, rfl⟩) rfl rfl rfl ?_
  refine g_aload_n (j := 0) (pc' := 71) dX12_init_70 rfl rfl ?_
  refine g_bipush (v := 6) (pc' := 73) dX12_init_71 (by decide) rfl ?_
  refine x_newaI (mcr := 3) (msr := 460) (n := 6) (q := 9) (pc' := 75) hp0 dX12_init_73 acint rfl (by omega) rfl (by omega) rfl ?_
  refine x_l (l' := [(12, [.ref (p + 1), .ref (p + 2), .ref (p + 3), .ref (p + 4), .int 0, .ref (p + 5), .int 0, .ref (p + 6), .ref (p + 7), .ref (p + 8), .null, .null, .null, .int 0, .int 0, .null]), (100, rep 352), (100, rep 352), (100, rep 352), (100, rep 352), (100, rep 80), (100, rep 4), (100, rep 4), (101, rep 96), (100, rep 6)]) rfl ?_
  refine x_putFR (i := 0) (l' := [(12, [.ref (p + 1), .ref (p + 2), .ref (p + 3), .ref (p + 4), .int 0, .ref (p + 5), .int 0, .ref (p + 6), .ref (p + 7), .ref (p + 8), .ref (p + 9), .null, .null, .int 0, .int 0, .null]), (100, rep 352), (100, rep 352), (100, rep 352), (100, rep 352), (100, rep 80), (100, rep 4), (100, rep 4), (101, rep 96), (100, rep 6)]) (pc' := 78) hp0 dX12_init_75 fX12_35 ⟨rfl, rfl⟩ rfl (Nat.le_of_ble_eq_true rfl) (fun _ => ⟨rfl, rfl⟩) rfl rfl rfl ?_
  refine g_aload_n (j := 0) (pc' := 79) dX12_init_78 rfl rfl ?_
  refine g_bipush (v := 6) (pc' := 81) dX12_init_79 (by decide) rfl ?_
  refine x_newaI (mcr := 2) (msr := 454) (n := 6) (q := 10) (pc' := 83) hp0 dX12_init_81 acint rfl (by omega) rfl (by omega) rfl ?_
  refine x_l (l' := [(12, [.ref (p + 1), .ref (p + 2), .ref (p + 3), .ref (p + 4), .int 0, .ref (p + 5), .int 0, .ref (p + 6), .ref (p + 7), .ref (p + 8), .ref (p + 9), .null, .null, .int 0, .int 0, .null]), (100, rep 352), (100, rep 352), (100, rep 352), (100, rep 352), (100, rep 80), (100, rep 4), (100, rep 4), (101, rep 96), (100, rep 6), (100, rep 6)]) rfl ?_
  refine x_putFR (i := 0) (l' := [(12, [.ref (p + 1), .ref (p + 2), .ref (p + 3), .ref (p + 4), .int 0, .ref (p + 5), .int 0, .ref (p + 6), .ref (p + 7), .ref (p + 8), .ref (p + 9), .ref (p + 10), .null, .int 0, .int 0, .null]), (100, rep 352), (100, rep 352), (100, rep 352), (100, rep 352), (100, rep 80), (100, rep 4), (100, rep 4), (101, rep 96), (100, rep 6), (100, rep 6)]) (pc' := 86) hp0 dX12_init_83 fX12_38 ⟨rfl, rfl⟩ rfl (Nat.le_of_ble_eq_true rfl) (fun _ => ⟨rfl, rfl⟩) rfl rfl rfl ?_
  refine g_aload_n (j := 0) (pc' := 87) dX12_init_86 rfl rfl ?_
  refine g_bipush (v := 6) (pc' := 89) dX12_init_87 (by decide) rfl ?_
  refine x_newaI (mcr := 1) (msr := 448) (n := 6) (q := 11) (pc' := 91) hp0 dX12_init_89 acint rfl (by omega) rfl (by omega) rfl ?_
  refine x_l (l' := [(12, [.ref (p + 1), .ref (p + 2), .ref (p + 3), .ref (p + 4), .int 0, .ref (p + 5), .int 0, .ref (p + 6), .ref (p + 7), .ref (p + 8), .ref (p + 9), .ref (p + 10), .null, .int 0, .int 0, .null]), (100, rep 352), (100, rep 352), (100, rep 352), (100, rep 352), (100, rep 80), (100, rep 4), (100, rep 4), (101, rep 96), (100, rep 6), (100, rep 6), (100, rep 6)]) rfl ?_
  refine x_putFR (i := 0) (l' := [(12, [.ref (p + 1), .ref (p + 2), .ref (p + 3), .ref (p + 4), .int 0, .ref (p + 5), .int 0, .ref (p + 6), .ref (p + 7), .ref (p + 8), .ref (p + 9), .ref (p + 10), .ref (p + 11), .int 0, .int 0, .null]), (100, rep 352), (100, rep 352), (100, rep 352), (100, rep 352), (100, rep 80), (100, rep 4), (100, rep 4), (101, rep 96), (100, rep 6), (100, rep 6), (100, rep 6)]) (pc' := 94) hp0 dX12_init_91 fX12_41 ⟨rfl, rfl⟩ rfl (Nat.le_of_ble_eq_true rfl) (fun _ => ⟨rfl, rfl⟩) rfl rfl rfl ?_
  refine g_aload_n (j := 0) (pc' := 95) dX12_init_94 rfl rfl ?_
  refine g_sipush (v := 448) (pc' := 98) dX12_init_95 (by decide) rfl ?_
  refine x_newaI (mcr := 0) (msr := 0) (n := 448) (q := 12) (pc' := 100) hp0 dX12_init_98 acint rfl (by omega) rfl (by omega) rfl ?_
  refine x_l (l' := [(12, [.ref (p + 1), .ref (p + 2), .ref (p + 3), .ref (p + 4), .int 0, .ref (p + 5), .int 0, .ref (p + 6), .ref (p + 7), .ref (p + 8), .ref (p + 9), .ref (p + 10), .ref (p + 11), .int 0, .int 0, .null]), (100, rep 352), (100, rep 352), (100, rep 352), (100, rep 352), (100, rep 80), (100, rep 4), (100, rep 4), (101, rep 96), (100, rep 6), (100, rep 6), (100, rep 6), (100, rep 448)]) rfl ?_
  refine x_putFR (i := 0) (l' := [(12, [.ref (p + 1), .ref (p + 2), .ref (p + 3), .ref (p + 4), .int 0, .ref (p + 5), .int 0, .ref (p + 6), .ref (p + 7), .ref (p + 8), .ref (p + 9), .ref (p + 10), .ref (p + 11), .int 0, .int 0, .ref (p + 12)]), (100, rep 352), (100, rep 352), (100, rep 352), (100, rep 352), (100, rep 80), (100, rep 4), (100, rep 4), (101, rep 96), (100, rep 6), (100, rep 6), (100, rep 6), (100, rep 448)]) (pc' := 103) hp0 dX12_init_100 fX12_44 ⟨rfl, rfl⟩ rfl (Nat.le_of_ble_eq_true rfl) (fun _ => ⟨rfl, rfl⟩) rfl rfl rfl ?_
  have k4 : (zI (zI (zI (zI (zI (zI (zI (zI (zI (zI (zI (zI M (p + 1)) (p + 2)) (p + 3)) (p + 4)) (p + 5)) (p + 6)) (p + 7)) (p + 8)) (p + 9)) (p + 10)) (p + 11)) (p + 12)) p 4 = 0 := by simp (disch := omega) only [zI_ne]; exact h4
  have k6 : (zI (zI (zI (zI (zI (zI (zI (zI (zI (zI (zI (zI M (p + 1)) (p + 2)) (p + 3)) (p + 4)) (p + 5)) (p + 6)) (p + 7)) (p + 8)) (p + 9)) (p + 10)) (p + 11)) (p + 12)) p 6 = 0 := by simp (disch := omega) only [zI_ne]; exact h6
  have hf : ∀ a, (a < p ∨ p + 13 ≤ a) → (zI (zI (zI (zI (zI (zI (zI (zI (zI (zI (zI (zI M (p + 1)) (p + 2)) (p + 3)) (p + 4)) (p + 5)) (p + 6)) (p + 7)) (p + 8)) (p + 9)) (p + 10)) (p + 11)) (p + 12)) a = M a := fun a ha => by simp (disch := omega) only [zI_ne]
  generalize (zI (zI (zI (zI (zI (zI (zI (zI (zI (zI (zI (zI M (p + 1)) (p + 2)) (p + 3)) (p + 4)) (p + 5)) (p + 6)) (p + 7)) (p + 8)) (p + 9)) (p + 10)) (p + 11)) (p + 12)) = M0 at k4 k6 hf ⊢
  generalize (zL (zL (zL (zL (zL (zL (zL (zL (zL (zL (zL (zL N (p + 1)) (p + 2)) (p + 3)) (p + 4)) (p + 5)) (p + 6)) (p + 7)) (p + 8)) (p + 9)) (p + 10)) (p + 11)) (p + 12)) = N0
  refine g_aload_n (j := 0) (pc' := 104) dX12_init_103 rfl rfl ?_
  refine g_getR (pc' := 107) dX12_init_104 fX12_7 (at_app0 (i := 0) hp0 rfl rfl) rfl rfl ?_
  refine g_bipush (v := 6) (pc' := 109) dX12_init_107 (by decide) rfl ?_
  refine g_iconst (v := 1) (pc' := 110) dX12_init_109 (by decide) rfl ?_
  refine g_callS (my := mX12_begins) (st := []) (av := [.ref (p + 1), .int 6, .int 1]) (mcr := 0) (msr := 0) (mc := 0) (ms := 0) (pc' := 113) dX12_init_110 kX12_begins wX12_47 rfl (Nat.le_of_ble_eq_true rfl) (by decide) (r_begins (c := p + 1) (at_app0 (i := 1) hp0 rfl rfl) 6 1) rfl ?_
  rintro _ _ ⟨M1, rfl, rfl, hb, hbf⟩
  show Go mX12_init _ 0 0 113 [(0, .ref p)] [] (sk0 ++ [(12, [.ref (p + 1), .ref (p + 2), .ref (p + 3), .ref (p + 4), .int 0, .ref (p + 5), .int 0, .ref (p + 6), .ref (p + 7), .ref (p + 8), .ref (p + 9), .ref (p + 10), .ref (p + 11), .int 0, .int 0, .ref (p + 12)]), (100, rep 352), (100, rep 352), (100, rep 352), (100, rep 352), (100, rep 80), (100, rep 4), (100, rep 4), (101, rep 96), (100, rep 6), (100, rep 6), (100, rep 6), (100, rep 448)], M1, N0) _
  refine g_iconst (v := 0) (pc' := 114) dX12_init_113 (by decide) rfl ?_
  refine g_istore_n (L' := [(0, .ref p), (1, .int 0)]) (pc' := 115) dX12_init_114 (by decide) rfl rfl ?_
  refine g_iload_n (j := 1) (pc' := 116) dX12_init_115 rfl rfl ?_
  refine g_iconst (v := 4) (pc' := 117) dX12_init_116 (by decide) rfl ?_
  refine g_icmp_ge (tgt := 133) (pc' := 120) dX12_init_117 (by decide) rfl (fun hc => (absurd hc (by decide))) (fun hc => ?_)
  refine g_aload_n (j := 0) (pc' := 121) dX12_init_120 rfl rfl ?_
  refine g_getR (pc' := 124) dX12_init_121 fX12_28 (at_app0 (i := 0) hp0 rfl rfl) rfl rfl ?_
  refine g_iload_n (j := 1) (pc' := 125) dX12_init_124 rfl rfl ?_
  refine g_iconst (v := (-1)) (pc' := 126) dX12_init_125 (by decide) rfl ?_
  refine g_iast (n := 0) (pc' := 127) dX12_init_126 (at_app0 (i := 7) hp0 rfl rfl) rfl (by omega) rfl ?_
  refine g_iinc (j := 1) (v := nI 1) (L' := [(0, .ref p), (1, .int (nI 1))]) (pc' := 130) dX12_init_127 rfl (nI_1 0) (by decide) rfl rfl ?_
  refine g_goto (tgt := 115) dX12_init_130 (by decide) ?_
  refine g_iload_n (j := 1) (pc' := 116) dX12_init_115 rfl rfl ?_
  refine g_iconst (v := 4) (pc' := 117) dX12_init_116 (by decide) rfl ?_
  refine g_icmp_ge (tgt := 133) (pc' := 120) dX12_init_117 (by decide) rfl (fun hc => (absurd hc (by decide))) (fun hc => ?_)
  refine g_aload_n (j := 0) (pc' := 121) dX12_init_120 rfl rfl ?_
  refine g_getR (pc' := 124) dX12_init_121 fX12_28 (at_app0 (i := 0) hp0 rfl rfl) rfl rfl ?_
  refine g_iload_n (j := 1) (pc' := 125) dX12_init_124 rfl rfl ?_
  refine g_iconst (v := (-1)) (pc' := 126) dX12_init_125 (by decide) rfl ?_
  refine g_iast (n := 1) (pc' := 127) dX12_init_126 (at_app0 (i := 7) hp0 rfl rfl) rfl (by omega) rfl ?_
  refine g_iinc (j := 1) (v := nI 2) (L' := [(0, .ref p), (1, .int (nI 2))]) (pc' := 130) dX12_init_127 rfl (nI_1 1) (by decide) rfl rfl ?_
  refine g_goto (tgt := 115) dX12_init_130 (by decide) ?_
  refine g_iload_n (j := 1) (pc' := 116) dX12_init_115 rfl rfl ?_
  refine g_iconst (v := 4) (pc' := 117) dX12_init_116 (by decide) rfl ?_
  refine g_icmp_ge (tgt := 133) (pc' := 120) dX12_init_117 (by decide) rfl (fun hc => (absurd hc (by decide))) (fun hc => ?_)
  refine g_aload_n (j := 0) (pc' := 121) dX12_init_120 rfl rfl ?_
  refine g_getR (pc' := 124) dX12_init_121 fX12_28 (at_app0 (i := 0) hp0 rfl rfl) rfl rfl ?_
  refine g_iload_n (j := 1) (pc' := 125) dX12_init_124 rfl rfl ?_
  refine g_iconst (v := (-1)) (pc' := 126) dX12_init_125 (by decide) rfl ?_
  refine g_iast (n := 2) (pc' := 127) dX12_init_126 (at_app0 (i := 7) hp0 rfl rfl) rfl (by omega) rfl ?_
  refine g_iinc (j := 1) (v := nI 3) (L' := [(0, .ref p), (1, .int (nI 3))]) (pc' := 130) dX12_init_127 rfl (nI_1 2) (by decide) rfl rfl ?_
  refine g_goto (tgt := 115) dX12_init_130 (by decide) ?_
  refine g_iload_n (j := 1) (pc' := 116) dX12_init_115 rfl rfl ?_
  refine g_iconst (v := 4) (pc' := 117) dX12_init_116 (by decide) rfl ?_
  refine g_icmp_ge (tgt := 133) (pc' := 120) dX12_init_117 (by decide) rfl (fun hc => (absurd hc (by decide))) (fun hc => ?_)
  refine g_aload_n (j := 0) (pc' := 121) dX12_init_120 rfl rfl ?_
  refine g_getR (pc' := 124) dX12_init_121 fX12_28 (at_app0 (i := 0) hp0 rfl rfl) rfl rfl ?_
  refine g_iload_n (j := 1) (pc' := 125) dX12_init_124 rfl rfl ?_
  refine g_iconst (v := (-1)) (pc' := 126) dX12_init_125 (by decide) rfl ?_
  refine g_iast (n := 3) (pc' := 127) dX12_init_126 (at_app0 (i := 7) hp0 rfl rfl) rfl (by omega) rfl ?_
  refine g_iinc (j := 1) (v := nI 4) (L' := [(0, .ref p), (1, .int (nI 4))]) (pc' := 130) dX12_init_127 rfl (nI_1 3) (by decide) rfl rfl ?_
  refine g_goto (tgt := 115) dX12_init_130 (by decide) ?_
  refine g_iload_n (j := 1) (pc' := 116) dX12_init_115 rfl rfl ?_
  refine g_iconst (v := 4) (pc' := 117) dX12_init_116 (by decide) rfl ?_
  refine g_icmp_ge (tgt := 133) (pc' := 120) dX12_init_117 (by decide) rfl (fun hc => ?_) (fun hc => (absurd (by decide) hc))
  generalize hM2 : (um (um (um (um M1 (p + 7) 0 (-1)) (p + 7) 1 (-1)) (p + 7) 2 (-1)) (p + 7) 3 (-1)) = M2
  exact g_vret dX12_init_133 rfl ⟨M2, N0, rfl, rfl, by rw [← hM2]; simp (disch := omega) only [um_ne]; rw [hbf p (by omega)]; exact k4, by rw [← hM2]; simp (disch := omega) only [um_ne]; rw [hbf p (by omega)]; exact k6, fun j hj => by rw [← hM2]; simp (disch := omega) only [um_ne]; exact hb j hj, ⟨by rw [← hM2]; simp (disch := omega) only [um_ne, um_at, um_at2], by rw [← hM2]; simp (disch := omega) only [um_ne, um_at, um_at2], by rw [← hM2]; simp (disch := omega) only [um_ne, um_at, um_at2], by rw [← hM2]; simp (disch := omega) only [um_ne, um_at, um_at2]⟩, fun a ha => by rw [← hM2]; simp (disch := omega) only [um_ne]; rw [hbf a (by omega)]; exact hf a ha⟩
theorem mna_cells : mnaC 173 7 64 = [(110, [.ref 174, .ref 175, .ref 176, .ref 177, .ref 178, .ref 179, .ref 180]), (100, rep 64), (100, rep 64), (100, rep 64), (100, rep 64), (100, rep 64), (100, rep 64), (100, rep 64)] := rfl
theorem SKF_len : SKF.length = 189 := by
  unfold SKF
  rw [List.length_append, cons_len l171]
  rfl
theorem SK_whole : SKF ++ modC 189 = SK := by rfl
