/-- i parishes, one behind the other, from p on -/
def pcs (p : Nat) : Nat → List (Nat × List Value)
  | 0 => []
  | i + 1 => pcs p i ++ parC (p + 8 * i)
theorem pcs_len (p : Nat) : ∀ i, (pcs p i).length = 8 * i
  | 0 => rfl
  | i + 1 => by show (pcs p i ++ parC (p + 8 * i)).length = _; rw [List.length_append, pcs_len p i]; show 8 * i + 8 = _; omega
theorem pcs_at (p i : Nat) (l : List (Nat × List Value)) (a b : Nat × List Value) : (a :: b :: (pcs p i ++ (parC (p + 8 * i) ++ l)))[2 + 8 * i]? = some (4, parV (p + 8 * i)) := by
  rw [show 2 + 8 * i = (8 * i) + 1 + 1 by omega, List.getElem?_cons_succ, List.getElem?_cons_succ, List.getElem?_append_right (by rw [pcs_len]; omega), pcs_len, Nat.sub_self]; rfl
abbrev pastC (p : Nat) : List (Nat × List Value) := (5, [.ref (p + 1), .int 0, .int 0]) :: (105, [.ref (p + 2), .ref (p + 10), .ref (p + 18), .ref (p + 26), .ref (p + 34), .ref (p + 42), .ref (p + 50), .ref (p + 58)]) :: pcs (p + 2) 8
set_option maxRecDepth 100000 in
set_option maxHeartbeats 1000000 in
theorem past_turn {sk0 : List (Nat × List Value)} {p : Nat} (hp0 : sk0.length = p) (hpb : p ≤ 900) {M : Nat → Nat → Int32} {N : Nat → Nat → Int64} {mcr msr i : Nat} {us : List Value} {Q : AQ} (hi : i < 8) (hu : us.length = 8)
    (kk : ∀ (M' : Nat → Nat → Int32) (N' : Nat → Nat → Int64), (∀ a, (a < p + (2 + 8 * i) ∨ p + (2 + 8 * i) + 8 ≤ a) → M' a = M a) → Go mX5_init 2 mcr msr 25 [(0, .ref p), (1, .int (nI (i + 1)))] [] (sk0 ++ ((5, [.ref (p + 1), .int 0, .int 0]) :: (105, us.set i (.ref (p + (2 + 8 * i)))) :: pcs (p + 2) (i + 1)), M', N') Q) :
    Go mX5_init 2 (mcr + 7 + 1) (msr + 42 + 12) 25 [(0, .ref p), (1, .int (nI i))] [] (sk0 ++ ((5, [.ref (p + 1), .int 0, .int 0]) :: (105, us) :: pcs (p + 2) i), M, N) Q := by
  have hl : ((5, [.ref (p + 1), .int 0, .int 0]) :: (105, us) :: pcs (p + 2) i).length = 2 + 8 * i := by show (pcs (p + 2) i).length + 1 + 1 = _; rw [pcs_len]; omega
  have h8 : nI i < 8 := nI_lt (a := i) (b := 8) hi (by omega)
  refine g_iload_n (j := 1) (pc' := 26) dX5_init_25 rfl rfl ?_
  refine g_bipush (v := 8) (pc' := 28) dX5_init_26 (by decide) rfl ?_
  refine g_icmp_ge (tgt := 50) (pc' := 31) dX5_init_28 (by decide) rfl (fun hc => (absurd hc (nI_ge (a := i) (b := 8) hi (by omega)))) (fun hc => ?_)
  refine g_aload_n (j := 0) (pc' := 32) dX5_init_31 rfl rfl ?_
  refine g_getR (pc' := 35) dX5_init_32 fX5_11 (at_app0 (i := 0) hp0 rfl rfl) rfl rfl ?_
  refine g_iload_n (j := 1) (pc' := 36) dX5_init_35 rfl rfl ?_
  refine x_new (mm := mX5_init) (ci := 4) (vs := [.int 0, .int 0, .int 0, .int 0, .int 0, .null, .null, .null, .null, .null, .null, .null]) (mcr := mcr + 7) (msr := msr + 42) (q := 2 + 8 * i) (pc' := 39) hp0 dX5_init_36 nX5_9 hl (by omega) rfl ?_
  rw [← List.append_assoc]
  refine g_dup (pc' := 40) dX5_init_39 rfl rfl ?_
  refine g_callI (my := mX4_init) (k := p + (2 + 8 * i)) (st := [.ref (p + (2 + 8 * i)), .int (nI i), .ref (p + 1)]) (av := []) (mcr := mcr) (msr := msr) (mc := 7) (ms := 42) (pc' := 43) dX5_init_40 kX4_init wX5_22 rfl (Nat.le_of_ble_eq_true rfl) (by decide) (i_X4 (by rw [List.length_append, hp0, hl]) (by omega)) rfl ?_
  rintro _ _ ⟨M', N', rfl, rfl, hv, hf⟩
  rw [List.append_assoc]
  refine x_l (l' := (5, [.ref (p + 1), .int 0, .int 0]) :: (105, us) :: (pcs (p + 2) i ++ (parC (p + 2 + 8 * i) ++ []))) (by rw [show p + (2 + 8 * i) = p + 2 + 8 * i by omega, List.append_nil]; rfl) ?_
  refine x_aast (mm := mX5_init) (i := 1) (i2 := 2 + 8 * i) (n := i) (l' := (5, [.ref (p + 1), .int 0, .int 0]) :: (105, us.set i (.ref (p + (2 + 8 * i)))) :: (pcs (p + 2) i ++ (parC (p + 2 + 8 * i) ++ []))) (pc' := 44) hp0 dX5_init_43 rfl ⟨rfl, by decide⟩ (pcs_at _ _ _ _ _) rfl (SubOk.rf _) rfl (by omega) (by omega) rfl rfl rfl rfl ?_
  rw [List.append_nil]
  refine g_iinc (j := 1) (v := nI (i + 1)) (L' := [(0, .ref p), (1, .int (nI (i + 1)))]) (pc' := 47) dX5_init_44 rfl (nI_1 i) (by decide) rfl rfl ?_
  refine g_goto (tgt := 25) dX5_init_47 (by decide) ?_
  refine kk M' N' (fun a ha => ?_)
  rw [hf a ha, zI_ne (by omega)]
set_option maxRecDepth 100000 in
set_option maxHeartbeats 1000000 in
theorem i_X5 {sk0 : List (Nat × List Value)} {p : Nat} (hp0 : sk0.length = p) (hpb : p ≤ 900) {M : Nat → Nat → Int32} {N : Nat → Nat → Int64} : Run mX5_init 2 65 440 [.ref p] (sk0 ++ [(5, [.null, .int 0, .int 0])], M, N) (fun r h' => ∃ M' N', h' = (sk0 ++ pastC p, M', N') ∧ r = none ∧ M' p 1 = 0 ∧ M' p 2 = 0 ∧ ∀ a, (a < p ∨ p + 66 ≤ a) → M' a = M a) := by
  refine Run.of (by decide) (Nat.le_of_ble_eq_true rfl) ?_
  refine g_aload_n (j := 0) (pc' := 1) dX5_init_0 rfl rfl ?_
  refine g_objinit (pc' := 4) dX5_init_1 wX5_1 (Nat.le_of_ble_eq_true rfl) (by decide) rfl ?_
  refine g_aload_n (j := 0) (pc' := 5) dX5_init_4 rfl rfl ?_
  refine g_bipush (v := 8) (pc' := 7) dX5_init_5 (by decide) rfl ?_
  refine x_newq (tag := 105) (mcr := 64) (msr := 432) (n := 8) (q := 1) (pc' := 10) hp0 dX5_init_7 aX5_9 (fun _ _ _ _ h => h.2.2.1) ⟨rfl, by decide⟩ rfl (by omega) rfl (by omega) rfl ?_
  refine x_l (l' := [(5, [.null, .int 0, .int 0]), (105, [.null, .null, .null, .null, .null, .null, .null, .null])]) rfl ?_
  refine x_putFR (i := 0) (l' := [(5, [.ref (p + 1), .int 0, .int 0]), (105, [.null, .null, .null, .null, .null, .null, .null, .null])]) (pc' := 13) hp0 dX5_init_10 fX5_11 ⟨rfl, rfl⟩ rfl (Nat.le_of_ble_eq_true rfl) (fun _ => ⟨rfl, rfl⟩) rfl rfl rfl ?_
  refine g_aload_n (j := 0) (pc' := 14) dX5_init_13 rfl rfl ?_
  refine g_iconst (v := 0) (pc' := 15) dX5_init_14 (by decide) rfl ?_
  refine g_putI (pc' := 18) dX5_init_15 fX5_15 (at_app0 (i := 0) hp0 rfl rfl) rfl ⟨rfl, rfl⟩ rfl ?_
  refine g_aload_n (j := 0) (pc' := 19) dX5_init_18 rfl rfl ?_
  refine g_iconst (v := 0) (pc' := 20) dX5_init_19 (by decide) rfl ?_
  refine g_putI (pc' := 23) dX5_init_20 fX5_19 (at_app0 (i := 0) hp0 rfl rfl) rfl ⟨rfl, rfl⟩ rfl ?_
  refine g_iconst (v := 0) (pc' := 24) dX5_init_23 (by decide) rfl ?_
  refine g_istore_n (L' := [(0, .ref p), (1, .int 0)]) (pc' := 25) dX5_init_24 (by decide) rfl rfl ?_
  have h1 : (um (um (zI M (p + 1)) p 1 0) p 2 0) p 1 = 0 := by simp (disch := omega) only [zI_ne, zI_at, um_ne, um_at, um_at2]
  have h2 : (um (um (zI M (p + 1)) p 1 0) p 2 0) p 2 = 0 := by simp (disch := omega) only [zI_ne, zI_at, um_ne, um_at, um_at2]
  have hf : ∀ a, (a < p ∨ p + 66 ≤ a) → (um (um (zI M (p + 1)) p 1 0) p 2 0) a = M a := fun a ha => by simp (disch := omega) only [zI_ne, zI_at, um_ne, um_at, um_at2]
  generalize (um (um (zI M (p + 1)) p 1 0) p 2 0) = M0 at h1 h2 hf ⊢
  generalize (zL N (p + 1)) = N0
  refine past_turn hp0 hpb (mcr := 56) (msr := 378) (i := 0) (us := [.null, .null, .null, .null, .null, .null, .null, .null]) (by decide) rfl (fun M1 N1 g1 => ?_)
  refine past_turn hp0 hpb (mcr := 48) (msr := 324) (i := 1) (us := [.ref (p + 2), .null, .null, .null, .null, .null, .null, .null]) (by decide) rfl (fun M2 N2 g2 => ?_)
  refine past_turn hp0 hpb (mcr := 40) (msr := 270) (i := 2) (us := [.ref (p + 2), .ref (p + 10), .null, .null, .null, .null, .null, .null]) (by decide) rfl (fun M3 N3 g3 => ?_)
  refine past_turn hp0 hpb (mcr := 32) (msr := 216) (i := 3) (us := [.ref (p + 2), .ref (p + 10), .ref (p + 18), .null, .null, .null, .null, .null]) (by decide) rfl (fun M4 N4 g4 => ?_)
  refine past_turn hp0 hpb (mcr := 24) (msr := 162) (i := 4) (us := [.ref (p + 2), .ref (p + 10), .ref (p + 18), .ref (p + 26), .null, .null, .null, .null]) (by decide) rfl (fun M5 N5 g5 => ?_)
  refine past_turn hp0 hpb (mcr := 16) (msr := 108) (i := 5) (us := [.ref (p + 2), .ref (p + 10), .ref (p + 18), .ref (p + 26), .ref (p + 34), .null, .null, .null]) (by decide) rfl (fun M6 N6 g6 => ?_)
  refine past_turn hp0 hpb (mcr := 8) (msr := 54) (i := 6) (us := [.ref (p + 2), .ref (p + 10), .ref (p + 18), .ref (p + 26), .ref (p + 34), .ref (p + 42), .null, .null]) (by decide) rfl (fun M7 N7 g7 => ?_)
  refine past_turn hp0 hpb (mcr := 0) (msr := 0) (i := 7) (us := [.ref (p + 2), .ref (p + 10), .ref (p + 18), .ref (p + 26), .ref (p + 34), .ref (p + 42), .ref (p + 50), .null]) (by decide) rfl (fun M8 N8 g8 => ?_)
  show Go mX5_init 2 0 0 25 [(0, .ref p), (1, .int (nI 8))] [] (sk0 ++ ((5, [.ref (p + 1), .int 0, .int 0]) :: (105, [.ref (p + 2), .ref (p + 10), .ref (p + 18), .ref (p + 26), .ref (p + 34), .ref (p + 42), .ref (p + 50), .ref (p + 58)]) :: pcs (p + 2) 8), M8, N8) _
  refine g_iload_n (j := 1) (pc' := 26) dX5_init_25 rfl rfl ?_
  refine g_bipush (v := 8) (pc' := 28) dX5_init_26 (by decide) rfl ?_
  refine g_icmp_ge (tgt := 50) (pc' := 31) dX5_init_28 (by decide) rfl (fun hc => ?_) (fun hc => (absurd (by decide) hc))
  exact g_vret dX5_init_50 rfl ⟨M8, N8, rfl, rfl, by rw [g8 _ (by omega), g7 _ (by omega), g6 _ (by omega), g5 _ (by omega), g4 _ (by omega), g3 _ (by omega), g2 _ (by omega), g1 _ (by omega)]; exact h1, by rw [g8 _ (by omega), g7 _ (by omega), g6 _ (by omega), g5 _ (by omega), g4 _ (by omega), g3 _ (by omega), g2 _ (by omega), g1 _ (by omega)]; exact h2, fun a ha => by rw [g8 _ (by omega), g7 _ (by omega), g6 _ (by omega), g5 _ (by omega), g4 _ (by omega), g3 _ (by omega), g2 _ (by omega), g1 _ (by omega)]; exact hf a ha⟩
