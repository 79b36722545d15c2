/-! ===== the reference's calls ===== -/
/-- cells of the reference that hold nothing between calls -/
def tmpR (a : Nat) : Prop := a = 191 ∨ a = 192 ∨ (198 ≤ a ∧ a ≤ 201)
theorem YR.keep {M M' : Nat → Nat → Int32} {t : Nat} {y : YS} (h : YR M t y) (he : M' t = M t) : YR M' t y := by
  obtain ⟨h1, h2, h3⟩ := h
  exact ⟨fun j hj => by rw [he]; exact h1 j hj, by rw [he]; exact h2, fun i Q hi => ⟨fun j hj => by rw [he]; exact (h3 i Q hi).1 j hj, by rw [he]; exact (h3 i Q hi).2⟩⟩
theorem RI.now {M M' : Nat → Nat → Int32} {N : Nat → Nat → Int64} {y y' : YS} {B : Option YS × List Int32 × (Nat → Option (Nat × Nat × (Nat → Int64)))} (h : RI M N (y, B)) (hy : YR M' 190 y') (he : ∀ a, ¬ tmpR a → a ≠ 190 → M' a = M a) : RI M' N (y', B) := by
  have e : ∀ a, (a = 189 ∨ (193 ≤ a ∧ a ≤ 197)) → M' a = M a := fun a ha => he a (by unfold tmpR; omega) (by omega)
  obtain ⟨B1, B2, B3⟩ := B
  obtain ⟨-, h2, h3, h4⟩ := h
  refine ⟨hy, ?_, ⟨by rw [e 189 (by omega)]; exact h3.1, fun j x hj => by rw [e 194 (by omega)]; exact h3.2 j x hj⟩, fun i hi => ?_⟩
  · cases B1 with
    | none => show M' 189 4 = 0; rw [e 189 (by omega)]; exact h2
    | some z => exact ⟨by rw [e 189 (by omega)]; exact h2.1, h2.2.keep (e 193 (by omega))⟩
  · have h5 := h4 i hi
    dsimp only at h5 ⊢
    cases hB : B3 i with
    | none => rw [hB] at h5; show M' 196 i = -1; rw [e 196 (by omega)]; exact h5
    | some z =>
      obtain ⟨la, ln, f⟩ := z
      rw [hB] at h5
      exact ⟨by rw [e 196 (by omega)]; exact h5.1, by rw [e 195 (by omega)]; exact h5.2.1, h5.2.2⟩
theorem RQ.now {M M' : Nat → Nat → Int32} {N : Nat → Nat → Int64} {r : Int32} {y y' : YS} {B : Option YS × List Int32 × (Nat → Option (Nat × Nat × (Nat → Int64)))} (h : RI M N (y, B)) (hy : YR M' 190 y') (he : ∀ a, ¬ tmpR a → a ≠ 190 → M' a = M a) : RQ M N r (y', B) (some (.int r)) (SK, M', N) := ⟨M', N, rfl, rfl, h.now hy he, fun a ha => ⟨he a (by unfold tmpR; omega) (by omega), rfl⟩⟩
theorem RQ.tmp {M M' : Nat → Nat → Int32} {N : Nat → Nat → Int64} {r : Int32} {A : AS} (h : RI M N A) (he : ∀ a, ¬ tmpR a → M' a = M a) : RQ M N r A (some (.int r)) (SK, M', N) := ⟨M', N, rfl, rfl, h.now (h.1.keep (he 190 (by unfold tmpR; omega))) (fun a ta _ => he a ta), fun a ha => ⟨he a (by unfold tmpR; omega), rfl⟩⟩
set_option maxRecDepth 100000 in
set_option maxHeartbeats 1000000 in
theorem r_man_b1 {M : Nat → Nat → Int32} {N : Nat → Nat → Int64} {n k : Nat} {P : Nat → Int32} {pa : List (Nat → Int32)} {kp : Option YS} {tp : List Int32} {sh : Nat → Option (Nat × Nat × (Nat → Int64))} (hA : AOk ((n, k, P, pa), kp, tp, sh)) (hI : RI M N ((n, k, P, pa), kp, tp, sh)) {ki : Int32} (ha ox : Int32) (h1 : ki < 0 ∨ 4 < ki) : Run mX12_man 30 0 0 [.ref 189, .int ki, .int ha, .int ox] (SK, M, N) (RQ M N (-1) ((n, k, P, pa), kp, tp, sh)) := by
  refine Run.of (by decide) (Nat.le_of_ble_eq_true rfl) ?_
  have hok : OkP n k P := hA.1.1.1
  have hP : ∀ j, j < 47 → M 190 j = P j := hI.1.1
  have hn6 := hok.1
  have hk6 := hok.2.1
  have hn : M 190 0 = nI n := (hP 0 (by omega)).trans hok.2.2.1
  have hk : M 190 1 = nI k := (hP 1 (by omega)).trans hok.2.2.2.1
  refine g_iload_n (j := 1) (pc' := 1) dX12_man_0 rfl rfl ?_
  refine g_i2l (pc' := 2) dX12_man_1 rfl ?_
  refine g_lconst (v := 0) (pc' := 3) dX12_man_2 (by decide) rfl ?_
  refine g_ldc2 (v := 4) (pc' := 6) dX12_man_3 qX12_78 rfl ?_
  refine g_callS (my := mX12_in) (st := []) (av := [.long (Int32.toInt64 ki), .long 0, .long 4]) (mcr := 0) (msr := 0) (mc := 0) (ms := 0) (pc' := 9) dX12_man_6 kX12_in wX12_55 rfl (Nat.le_of_ble_eq_true rfl) (by decide) (r_in0 (lo := 0) (hi := 4) (by decide) (by decide) (h1)) rfl ?_
  rintro _ _ ⟨rfl, rfl⟩
  show Go mX12_man _ _ _ 9 [(0, .ref 189), (1, .int ki), (2, .int ha), (3, .int ox)] [.int 0] (SK, M, N) _
  refine g_if_eq (tgt := 36) (pc' := 12) dX12_man_9 (by decide) rfl (fun _ => ?_) (fun hc => absurd rfl hc)
  refine g_iconst (v := (-1)) (pc' := 37) dX12_man_36 (by decide) rfl ?_
  exact g_iret dX12_man_37 rfl rfl (RQ.same hI)
set_option maxRecDepth 100000 in
set_option maxHeartbeats 1000000 in
theorem r_man_b2 {M : Nat → Nat → Int32} {N : Nat → Nat → Int64} {n k : Nat} {P : Nat → Int32} {pa : List (Nat → Int32)} {kp : Option YS} {tp : List Int32} {sh : Nat → Option (Nat × Nat × (Nat → Int64))} (hA : AOk ((n, k, P, pa), kp, tp, sh)) (hI : RI M N ((n, k, P, pa), kp, tp, sh)) {ki ha : Int32} (ox : Int32) (h1 : ¬ (ki < 0 ∨ 4 < ki)) (h2 : ha < 0 ∨ 9 < ha) : Run mX12_man 30 0 0 [.ref 189, .int ki, .int ha, .int ox] (SK, M, N) (RQ M N (-1) ((n, k, P, pa), kp, tp, sh)) := by
  refine Run.of (by decide) (Nat.le_of_ble_eq_true rfl) ?_
  have hok : OkP n k P := hA.1.1.1
  have hP : ∀ j, j < 47 → M 190 j = P j := hI.1.1
  have hn6 := hok.1
  have hk6 := hok.2.1
  have hn : M 190 0 = nI n := (hP 0 (by omega)).trans hok.2.2.1
  have hk : M 190 1 = nI k := (hP 1 (by omega)).trans hok.2.2.2.1
  refine g_iload_n (j := 1) (pc' := 1) dX12_man_0 rfl rfl ?_
  refine g_i2l (pc' := 2) dX12_man_1 rfl ?_
  refine g_lconst (v := 0) (pc' := 3) dX12_man_2 (by decide) rfl ?_
  refine g_ldc2 (v := 4) (pc' := 6) dX12_man_3 qX12_78 rfl ?_
  refine g_callS (my := mX12_in) (st := []) (av := [.long (Int32.toInt64 ki), .long 0, .long 4]) (mcr := 0) (msr := 0) (mc := 0) (ms := 0) (pc' := 9) dX12_man_6 kX12_in wX12_55 rfl (Nat.le_of_ble_eq_true rfl) (by decide) (r_in1 (lo := 0) (hi := 4) (by decide) (by decide) (h1)) rfl ?_
  rintro _ _ ⟨rfl, rfl⟩
  show Go mX12_man _ _ _ 9 [(0, .ref 189), (1, .int ki), (2, .int ha), (3, .int ox)] [.int 1] (SK, M, N) _
  refine g_if_eq (tgt := 36) (pc' := 12) dX12_man_9 (by decide) rfl (fun hc => absurd hc (by decide)) (fun _ => ?_)
  refine g_iload_n (j := 2) (pc' := 13) dX12_man_12 rfl rfl ?_
  refine g_i2l (pc' := 14) dX12_man_13 rfl ?_
  refine g_lconst (v := 0) (pc' := 15) dX12_man_14 (by decide) rfl ?_
  refine g_ldc2 (v := 9) (pc' := 18) dX12_man_15 qX12_80 rfl ?_
  refine g_callS (my := mX12_in) (st := []) (av := [.long (Int32.toInt64 ha), .long 0, .long 9]) (mcr := 0) (msr := 0) (mc := 0) (ms := 0) (pc' := 21) dX12_man_18 kX12_in wX12_55 rfl (Nat.le_of_ble_eq_true rfl) (by decide) (r_in0 (lo := 0) (hi := 9) (by decide) (by decide) (h2)) rfl ?_
  rintro _ _ ⟨rfl, rfl⟩
  show Go mX12_man _ _ _ 21 [(0, .ref 189), (1, .int ki), (2, .int ha), (3, .int ox)] [.int 0] (SK, M, N) _
  refine g_if_eq (tgt := 36) (pc' := 24) dX12_man_21 (by decide) rfl (fun _ => ?_) (fun hc => absurd rfl hc)
  refine g_iconst (v := (-1)) (pc' := 37) dX12_man_36 (by decide) rfl ?_
  exact g_iret dX12_man_37 rfl rfl (RQ.same hI)
set_option maxRecDepth 100000 in
set_option maxHeartbeats 1000000 in
theorem r_man_b3 {M : Nat → Nat → Int32} {N : Nat → Nat → Int64} {n k : Nat} {P : Nat → Int32} {pa : List (Nat → Int32)} {kp : Option YS} {tp : List Int32} {sh : Nat → Option (Nat × Nat × (Nat → Int64))} (hA : AOk ((n, k, P, pa), kp, tp, sh)) (hI : RI M N ((n, k, P, pa), kp, tp, sh)) {ki ha ox : Int32} (h1 : ¬ (ki < 0 ∨ 4 < ki)) (h2 : ¬ (ha < 0 ∨ 9 < ha)) (h3 : ox < 1 ∨ 4 < ox) : Run mX12_man 30 0 0 [.ref 189, .int ki, .int ha, .int ox] (SK, M, N) (RQ M N (-1) ((n, k, P, pa), kp, tp, sh)) := by
  refine Run.of (by decide) (Nat.le_of_ble_eq_true rfl) ?_
  have hok : OkP n k P := hA.1.1.1
  have hP : ∀ j, j < 47 → M 190 j = P j := hI.1.1
  have hn6 := hok.1
  have hk6 := hok.2.1
  have hn : M 190 0 = nI n := (hP 0 (by omega)).trans hok.2.2.1
  have hk : M 190 1 = nI k := (hP 1 (by omega)).trans hok.2.2.2.1
  refine g_iload_n (j := 1) (pc' := 1) dX12_man_0 rfl rfl ?_
  refine g_i2l (pc' := 2) dX12_man_1 rfl ?_
  refine g_lconst (v := 0) (pc' := 3) dX12_man_2 (by decide) rfl ?_
  refine g_ldc2 (v := 4) (pc' := 6) dX12_man_3 qX12_78 rfl ?_
  refine g_callS (my := mX12_in) (st := []) (av := [.long (Int32.toInt64 ki), .long 0, .long 4]) (mcr := 0) (msr := 0) (mc := 0) (ms := 0) (pc' := 9) dX12_man_6 kX12_in wX12_55 rfl (Nat.le_of_ble_eq_true rfl) (by decide) (r_in1 (lo := 0) (hi := 4) (by decide) (by decide) (h1)) rfl ?_
  rintro _ _ ⟨rfl, rfl⟩
  show Go mX12_man _ _ _ 9 [(0, .ref 189), (1, .int ki), (2, .int ha), (3, .int ox)] [.int 1] (SK, M, N) _
  refine g_if_eq (tgt := 36) (pc' := 12) dX12_man_9 (by decide) rfl (fun hc => absurd hc (by decide)) (fun _ => ?_)
  refine g_iload_n (j := 2) (pc' := 13) dX12_man_12 rfl rfl ?_
  refine g_i2l (pc' := 14) dX12_man_13 rfl ?_
  refine g_lconst (v := 0) (pc' := 15) dX12_man_14 (by decide) rfl ?_
  refine g_ldc2 (v := 9) (pc' := 18) dX12_man_15 qX12_80 rfl ?_
  refine g_callS (my := mX12_in) (st := []) (av := [.long (Int32.toInt64 ha), .long 0, .long 9]) (mcr := 0) (msr := 0) (mc := 0) (ms := 0) (pc' := 21) dX12_man_18 kX12_in wX12_55 rfl (Nat.le_of_ble_eq_true rfl) (by decide) (r_in1 (lo := 0) (hi := 9) (by decide) (by decide) (h2)) rfl ?_
  rintro _ _ ⟨rfl, rfl⟩
  show Go mX12_man _ _ _ 21 [(0, .ref 189), (1, .int ki), (2, .int ha), (3, .int ox)] [.int 1] (SK, M, N) _
  refine g_if_eq (tgt := 36) (pc' := 24) dX12_man_21 (by decide) rfl (fun hc => absurd hc (by decide)) (fun _ => ?_)
  refine g_iload_n (j := 3) (pc' := 25) dX12_man_24 rfl rfl ?_
  refine g_i2l (pc' := 26) dX12_man_25 rfl ?_
  refine g_lconst (v := 1) (pc' := 27) dX12_man_26 (by decide) rfl ?_
  refine g_ldc2 (v := 4) (pc' := 30) dX12_man_27 qX12_78 rfl ?_
  refine g_callS (my := mX12_in) (st := []) (av := [.long (Int32.toInt64 ox), .long 1, .long 4]) (mcr := 0) (msr := 0) (mc := 0) (ms := 0) (pc' := 33) dX12_man_30 kX12_in wX12_55 rfl (Nat.le_of_ble_eq_true rfl) (by decide) (r_in0 (lo := 1) (hi := 4) (by decide) (by decide) (h3)) rfl ?_
  rintro _ _ ⟨rfl, rfl⟩
  show Go mX12_man _ _ _ 33 [(0, .ref 189), (1, .int ki), (2, .int ha), (3, .int ox)] [.int 0] (SK, M, N) _
  refine g_if_ne (tgt := 38) (pc' := 36) dX12_man_33 (by decide) rfl (fun hc => absurd rfl hc) (fun _ => ?_)
  refine g_iconst (v := (-1)) (pc' := 37) dX12_man_36 (by decide) rfl ?_
  exact g_iret dX12_man_37 rfl rfl (RQ.same hI)
set_option maxRecDepth 100000 in
set_option maxHeartbeats 1000000 in
theorem r_man_f {M : Nat → Nat → Int32} {N : Nat → Nat → Int64} {n k : Nat} {P : Nat → Int32} {pa : List (Nat → Int32)} {kp : Option YS} {tp : List Int32} {sh : Nat → Option (Nat × Nat × (Nat → Int64))} (hA : AOk ((n, k, P, pa), kp, tp, sh)) (hI : RI M N ((n, k, P, pa), kp, tp, sh)) {ki ha ox : Int32} (h1 : ¬ (ki < 0 ∨ 4 < ki)) (h2 : ¬ (ha < 0 ∨ 9 < ha)) (h3 : ¬ (ox < 1 ∨ 4 < ox)) (h6 : n = 6) : Run mX12_man 30 0 0 [.ref 189, .int ki, .int ha, .int ox] (SK, M, N) (RQ M N (-3) ((n, k, P, pa), kp, tp, sh)) := by
  refine Run.of (by decide) (Nat.le_of_ble_eq_true rfl) ?_
  have hok : OkP n k P := hA.1.1.1
  have hP : ∀ j, j < 47 → M 190 j = P j := hI.1.1
  have hn6 := hok.1
  have hk6 := hok.2.1
  have hn : M 190 0 = nI n := (hP 0 (by omega)).trans hok.2.2.1
  have hk : M 190 1 = nI k := (hP 1 (by omega)).trans hok.2.2.2.1
  refine g_iload_n (j := 1) (pc' := 1) dX12_man_0 rfl rfl ?_
  refine g_i2l (pc' := 2) dX12_man_1 rfl ?_
  refine g_lconst (v := 0) (pc' := 3) dX12_man_2 (by decide) rfl ?_
  refine g_ldc2 (v := 4) (pc' := 6) dX12_man_3 qX12_78 rfl ?_
  refine g_callS (my := mX12_in) (st := []) (av := [.long (Int32.toInt64 ki), .long 0, .long 4]) (mcr := 0) (msr := 0) (mc := 0) (ms := 0) (pc' := 9) dX12_man_6 kX12_in wX12_55 rfl (Nat.le_of_ble_eq_true rfl) (by decide) (r_in1 (lo := 0) (hi := 4) (by decide) (by decide) (h1)) rfl ?_
  rintro _ _ ⟨rfl, rfl⟩
  show Go mX12_man _ _ _ 9 [(0, .ref 189), (1, .int ki), (2, .int ha), (3, .int ox)] [.int 1] (SK, M, N) _
  refine g_if_eq (tgt := 36) (pc' := 12) dX12_man_9 (by decide) rfl (fun hc => absurd hc (by decide)) (fun _ => ?_)
  refine g_iload_n (j := 2) (pc' := 13) dX12_man_12 rfl rfl ?_
  refine g_i2l (pc' := 14) dX12_man_13 rfl ?_
  refine g_lconst (v := 0) (pc' := 15) dX12_man_14 (by decide) rfl ?_
  refine g_ldc2 (v := 9) (pc' := 18) dX12_man_15 qX12_80 rfl ?_
  refine g_callS (my := mX12_in) (st := []) (av := [.long (Int32.toInt64 ha), .long 0, .long 9]) (mcr := 0) (msr := 0) (mc := 0) (ms := 0) (pc' := 21) dX12_man_18 kX12_in wX12_55 rfl (Nat.le_of_ble_eq_true rfl) (by decide) (r_in1 (lo := 0) (hi := 9) (by decide) (by decide) (h2)) rfl ?_
  rintro _ _ ⟨rfl, rfl⟩
  show Go mX12_man _ _ _ 21 [(0, .ref 189), (1, .int ki), (2, .int ha), (3, .int ox)] [.int 1] (SK, M, N) _
  refine g_if_eq (tgt := 36) (pc' := 24) dX12_man_21 (by decide) rfl (fun hc => absurd hc (by decide)) (fun _ => ?_)
  refine g_iload_n (j := 3) (pc' := 25) dX12_man_24 rfl rfl ?_
  refine g_i2l (pc' := 26) dX12_man_25 rfl ?_
  refine g_lconst (v := 1) (pc' := 27) dX12_man_26 (by decide) rfl ?_
  refine g_ldc2 (v := 4) (pc' := 30) dX12_man_27 qX12_78 rfl ?_
  refine g_callS (my := mX12_in) (st := []) (av := [.long (Int32.toInt64 ox), .long 1, .long 4]) (mcr := 0) (msr := 0) (mc := 0) (ms := 0) (pc' := 33) dX12_man_30 kX12_in wX12_55 rfl (Nat.le_of_ble_eq_true rfl) (by decide) (r_in1 (lo := 1) (hi := 4) (by decide) (by decide) (h3)) rfl ?_
  rintro _ _ ⟨rfl, rfl⟩
  show Go mX12_man _ _ _ 33 [(0, .ref 189), (1, .int ki), (2, .int ha), (3, .int ox)] [.int 1] (SK, M, N) _
  refine g_if_ne (tgt := 38) (pc' := 36) dX12_man_33 (by decide) rfl (fun _ => ?_) (fun hc => absurd hc (by decide))
  refine g_aload_n (j := 0) (pc' := 39) dX12_man_38 rfl rfl ?_
  refine g_getR (pc' := 42) dX12_man_39 fX12_7 rfl rfl rfl ?_
  refine g_iconst (v := 0) (pc' := 43) dX12_man_42 (by decide) rfl ?_
  refine g_iald (n := 0) (pc' := 44) dX12_man_43 rfl rfl (by omega) rfl ?_
  refine g_top (y := nI n) (hn) ?_
  refine g_istore (L' := [(0, .ref 189), (1, .int ki), (2, .int ha), (3, .int ox), (4, .int (nI n))]) (pc' := 46) dX12_man_44 (by decide) rfl rfl ?_
  refine g_iload (j := 4) (pc' := 48) dX12_man_46 rfl rfl ?_
  refine g_bipush (v := 6) (pc' := 50) dX12_man_48 (by decide) rfl ?_
  refine g_icmp_ne (tgt := 56) (pc' := 53) dX12_man_50 (by decide) rfl (fun hc => (absurd hc (by rw [h6]; decide))) (fun hc => ?_)
  refine g_bipush (v := (-3)) (pc' := 55) dX12_man_53 (by decide) rfl ?_
  exact g_iret dX12_man_55 rfl rfl (RQ.same hI)
set_option maxRecDepth 100000 in
set_option maxHeartbeats 1000000 in
theorem r_man {M : Nat → Nat → Int32} {N : Nat → Nat → Int64} {n k : Nat} {P : Nat → Int32} {pa : List (Nat → Int32)} {kp : Option YS} {tp : List Int32} {sh : Nat → Option (Nat × Nat × (Nat → Int64))} (hA : AOk ((n, k, P, pa), kp, tp, sh)) (hI : RI M N ((n, k, P, pa), kp, tp, sh)) {ki ha ox : Int32} (h1 : ¬ (ki < 0 ∨ 4 < ki)) (h2 : ¬ (ha < 0 ∨ 9 < ha)) (h3 : ¬ (ox < 1 ∨ 4 < ox)) (h6 : n < 6) : Run mX12_man 30 0 0 [.ref 189, .int ki, .int ha, .int ox] (SK, M, N) (RQ M N (nI n) ((n + 1, k, manP P n ki ha ox, []), kp, tp, sh)) := by
  refine Run.of (by decide) (Nat.le_of_ble_eq_true rfl) ?_
  have hok : OkP n k P := hA.1.1.1
  have hP : ∀ j, j < 47 → M 190 j = P j := hI.1.1
  have hn6 := hok.1
  have hk6 := hok.2.1
  have hn : M 190 0 = nI n := (hP 0 (by omega)).trans hok.2.2.1
  have hk : M 190 1 = nI k := (hP 1 (by omega)).trans hok.2.2.2.1
  refine g_iload_n (j := 1) (pc' := 1) dX12_man_0 rfl rfl ?_
  refine g_i2l (pc' := 2) dX12_man_1 rfl ?_
  refine g_lconst (v := 0) (pc' := 3) dX12_man_2 (by decide) rfl ?_
  refine g_ldc2 (v := 4) (pc' := 6) dX12_man_3 qX12_78 rfl ?_
  refine g_callS (my := mX12_in) (st := []) (av := [.long (Int32.toInt64 ki), .long 0, .long 4]) (mcr := 0) (msr := 0) (mc := 0) (ms := 0) (pc' := 9) dX12_man_6 kX12_in wX12_55 rfl (Nat.le_of_ble_eq_true rfl) (by decide) (r_in1 (lo := 0) (hi := 4) (by decide) (by decide) (h1)) rfl ?_
  rintro _ _ ⟨rfl, rfl⟩
  show Go mX12_man _ _ _ 9 [(0, .ref 189), (1, .int ki), (2, .int ha), (3, .int ox)] [.int 1] (SK, M, N) _
  refine g_if_eq (tgt := 36) (pc' := 12) dX12_man_9 (by decide) rfl (fun hc => absurd hc (by decide)) (fun _ => ?_)
  refine g_iload_n (j := 2) (pc' := 13) dX12_man_12 rfl rfl ?_
  refine g_i2l (pc' := 14) dX12_man_13 rfl ?_
  refine g_lconst (v := 0) (pc' := 15) dX12_man_14 (by decide) rfl ?_
  refine g_ldc2 (v := 9) (pc' := 18) dX12_man_15 qX12_80 rfl ?_
  refine g_callS (my := mX12_in) (st := []) (av := [.long (Int32.toInt64 ha), .long 0, .long 9]) (mcr := 0) (msr := 0) (mc := 0) (ms := 0) (pc' := 21) dX12_man_18 kX12_in wX12_55 rfl (Nat.le_of_ble_eq_true rfl) (by decide) (r_in1 (lo := 0) (hi := 9) (by decide) (by decide) (h2)) rfl ?_
  rintro _ _ ⟨rfl, rfl⟩
  show Go mX12_man _ _ _ 21 [(0, .ref 189), (1, .int ki), (2, .int ha), (3, .int ox)] [.int 1] (SK, M, N) _
  refine g_if_eq (tgt := 36) (pc' := 24) dX12_man_21 (by decide) rfl (fun hc => absurd hc (by decide)) (fun _ => ?_)
  refine g_iload_n (j := 3) (pc' := 25) dX12_man_24 rfl rfl ?_
  refine g_i2l (pc' := 26) dX12_man_25 rfl ?_
  refine g_lconst (v := 1) (pc' := 27) dX12_man_26 (by decide) rfl ?_
  refine g_ldc2 (v := 4) (pc' := 30) dX12_man_27 qX12_78 rfl ?_
  refine g_callS (my := mX12_in) (st := []) (av := [.long (Int32.toInt64 ox), .long 1, .long 4]) (mcr := 0) (msr := 0) (mc := 0) (ms := 0) (pc' := 33) dX12_man_30 kX12_in wX12_55 rfl (Nat.le_of_ble_eq_true rfl) (by decide) (r_in1 (lo := 1) (hi := 4) (by decide) (by decide) (h3)) rfl ?_
  rintro _ _ ⟨rfl, rfl⟩
  show Go mX12_man _ _ _ 33 [(0, .ref 189), (1, .int ki), (2, .int ha), (3, .int ox)] [.int 1] (SK, M, N) _
  refine g_if_ne (tgt := 38) (pc' := 36) dX12_man_33 (by decide) rfl (fun _ => ?_) (fun hc => absurd hc (by decide))
  refine g_aload_n (j := 0) (pc' := 39) dX12_man_38 rfl rfl ?_
  refine g_getR (pc' := 42) dX12_man_39 fX12_7 rfl rfl rfl ?_
  refine g_iconst (v := 0) (pc' := 43) dX12_man_42 (by decide) rfl ?_
  refine g_iald (n := 0) (pc' := 44) dX12_man_43 rfl rfl (by omega) rfl ?_
  refine g_top (y := nI n) (hn) ?_
  refine g_istore (L' := [(0, .ref 189), (1, .int ki), (2, .int ha), (3, .int ox), (4, .int (nI n))]) (pc' := 46) dX12_man_44 (by decide) rfl rfl ?_
  refine g_iload (j := 4) (pc' := 48) dX12_man_46 rfl rfl ?_
  refine g_bipush (v := 6) (pc' := 50) dX12_man_48 (by decide) rfl ?_
  refine g_icmp_ne (tgt := 56) (pc' := 53) dX12_man_50 (by decide) rfl (fun hc => ?_) (fun hc => (absurd hc (fun q => absurd ((nI_eq (a := n) (b := 6) (by omega) (by omega)).mp q) (by omega))))
  refine g_aload_n (j := 0) (pc' := 57) dX12_man_56 rfl rfl ?_
  refine g_getR (pc' := 60) dX12_man_57 fX12_7 rfl rfl rfl ?_
  refine g_iconst (v := 4) (pc' := 61) dX12_man_60 (by decide) rfl ?_
  refine g_iload (j := 4) (pc' := 63) dX12_man_61 rfl rfl ?_
  refine g_iadd (pc' := 64) dX12_man_63 rfl ?_
  refine g_iload_n (j := 1) (pc' := 65) dX12_man_64 rfl rfl ?_
  refine g_iast (n := 4 + n) (pc' := 66) dX12_man_65 rfl (nI_addE rfl rfl) (by omega) rfl ?_
  refine g_aload_n (j := 0) (pc' := 67) dX12_man_66 rfl rfl ?_
  refine g_getR (pc' := 70) dX12_man_67 fX12_7 rfl rfl rfl ?_
  refine g_bipush (v := 10) (pc' := 72) dX12_man_70 (by decide) rfl ?_
  refine g_iload (j := 4) (pc' := 74) dX12_man_72 rfl rfl ?_
  refine g_iadd (pc' := 75) dX12_man_74 rfl ?_
  refine g_iload_n (j := 2) (pc' := 76) dX12_man_75 rfl rfl ?_
  refine g_iast (n := 10 + n) (pc' := 77) dX12_man_76 rfl (nI_addE rfl rfl) (by omega) rfl ?_
  refine g_aload_n (j := 0) (pc' := 78) dX12_man_77 rfl rfl ?_
  refine g_getR (pc' := 81) dX12_man_78 fX12_7 rfl rfl rfl ?_
  refine g_bipush (v := 16) (pc' := 83) dX12_man_81 (by decide) rfl ?_
  refine g_iload (j := 4) (pc' := 85) dX12_man_83 rfl rfl ?_
  refine g_iadd (pc' := 86) dX12_man_85 rfl ?_
  refine g_iload_n (j := 3) (pc' := 87) dX12_man_86 rfl rfl ?_
  refine g_iast (n := 16 + n) (pc' := 88) dX12_man_87 rfl (nI_addE rfl rfl) (by omega) rfl ?_
  refine g_aload_n (j := 0) (pc' := 89) dX12_man_88 rfl rfl ?_
  refine g_getR (pc' := 92) dX12_man_89 fX12_7 rfl rfl rfl ?_
  refine g_iconst (v := 0) (pc' := 93) dX12_man_92 (by decide) rfl ?_
  refine g_dup2 (pc' := 94) dX12_man_93 rfl rfl rfl ?_
  refine g_iald (n := 0) (pc' := 95) dX12_man_94 rfl rfl (by omega) rfl ?_
  refine g_top (y := nI n) (by simp (disch := omega) only [um_at2]; exact hn) ?_
  refine g_iconst (v := 1) (pc' := 96) dX12_man_95 (by decide) rfl ?_
  refine g_iadd (pc' := 97) dX12_man_96 rfl ?_
  refine g_top (y := nI (n + 1)) (nI_1 n) ?_
  refine g_iast (n := 0) (pc' := 98) dX12_man_97 rfl rfl (by omega) rfl ?_
  refine g_aload_n (j := 0) (pc' := 99) dX12_man_98 rfl rfl ?_
  refine g_getR (pc' := 102) dX12_man_99 fX12_7 rfl rfl rfl ?_
  refine g_bipush (v := 47) (pc' := 104) dX12_man_102 (by decide) rfl ?_
  refine g_iconst (v := 0) (pc' := 105) dX12_man_104 (by decide) rfl ?_
  refine g_iast (n := 47) (pc' := 106) dX12_man_105 rfl rfl (by omega) rfl ?_
  generalize hM1 : (um (um (um (um (um M 190 (4 + n) ki) 190 (10 + n) ha) 190 (16 + n) ox) 190 0 (nI (n + 1))) 190 47 0) = M1
  refine g_iload (j := 4) (pc' := 108) dX12_man_106 rfl rfl ?_
  refine g_iret dX12_man_108 rfl rfl (RQ.now hI ⟨fun j hj => ?_, by rw [← hM1]; exact um_at, fun i Q hi => by cases hi⟩ (fun a _ ha => by rw [← hM1]; simp (disch := omega) only [um_ne]))
  show M1 190 j = manP P n ki ha ox j
  rw [← hM1]
  unfold manP
  by_cases e : j = 16 + n
  · subst e; simp (disch := omega) only [um_at, um_at2, upP_at, upP_ne]
  by_cases e : j = 10 + n
  · subst e; simp (disch := omega) only [um_at, um_at2, upP_at, upP_ne]
  by_cases e : j = 4 + n
  · subst e; simp (disch := omega) only [um_at, um_at2, upP_at, upP_ne]
  by_cases e : j = 0
  · subst e; simp (disch := omega) only [um_at, um_at2, upP_at, upP_ne]
  simp (disch := omega) only [um_at2, upP_ne]; exact hP j hj
set_option maxRecDepth 100000 in
set_option maxHeartbeats 1000000 in
theorem r_values_b1 {M : Nat → Nat → Int32} {N : Nat → Nat → Int64} {n k : Nat} {P : Nat → Int32} {pa : List (Nat → Int32)} {kp : Option YS} {tp : List Int32} {sh : Nat → Option (Nat × Nat × (Nat → Int64))} (hA : AOk ((n, k, P, pa), kp, tp, sh)) (hI : RI M N ((n, k, P, pa), kp, tp, sh)) {v : Int32} (x : Int32) (h1 : ∀ m, m < n → v ≠ nI m) : Run mX12_values 30 0 0 [.ref 189, .int v, .int x] (SK, M, N) (RQ M N (-1) ((n, k, P, pa), kp, tp, sh)) := by
  refine Run.of (by decide) (Nat.le_of_ble_eq_true rfl) ?_
  have hok : OkP n k P := hA.1.1.1
  have hP : ∀ j, j < 47 → M 190 j = P j := hI.1.1
  have hn6 := hok.1
  have hk6 := hok.2.1
  have hn : M 190 0 = nI n := (hP 0 (by omega)).trans hok.2.2.1
  have hk : M 190 1 = nI k := (hP 1 (by omega)).trans hok.2.2.2.1
  refine g_aload_n (j := 0) (pc' := 1) dX12_values_0 rfl rfl ?_
  refine g_iload_n (j := 1) (pc' := 2) dX12_values_1 rfl rfl ?_
  refine g_callV (my := mX12_isMan) (k := 189) (st := []) (av := [.int v]) (mcr := 0) (msr := 0) (mc := 0) (ms := 0) (pc' := 5) dX12_values_2 kX12_isMan wX12_84 rfl ⟨rfl, rfl⟩ rfl (Nat.le_of_ble_eq_true rfl) (by decide) (s_isMan0 hn hn6 (h1)) rfl ?_
  rintro _ _ ⟨rfl, rfl⟩
  show Go mX12_values _ _ _ 5 [(0, .ref 189), (1, .int v), (2, .int x)] [.int 0] (SK, M, N) _
  refine g_if_eq (tgt := 31) (pc' := 8) dX12_values_5 (by decide) rfl (fun _ => ?_) (fun hc => absurd rfl hc)
  refine g_iconst (v := (-1)) (pc' := 32) dX12_values_31 (by decide) rfl ?_
  exact g_iret dX12_values_32 rfl rfl (RQ.same hI)
set_option maxRecDepth 100000 in
set_option maxHeartbeats 1000000 in
theorem r_values_b2 {M : Nat → Nat → Int32} {N : Nat → Nat → Int64} {n k : Nat} {P : Nat → Int32} {pa : List (Nat → Int32)} {kp : Option YS} {tp : List Int32} {sh : Nat → Option (Nat × Nat × (Nat → Int64))} (hA : AOk ((n, k, P, pa), kp, tp, sh)) (hI : RI M N ((n, k, P, pa), kp, tp, sh)) {m : Nat} {v : Int32} (hm : m < n) (h1 : ∀ i, i < k → v ≠ nI i) : Run mX12_values 30 0 0 [.ref 189, .int (nI m), .int v] (SK, M, N) (RQ M N (-1) ((n, k, P, pa), kp, tp, sh)) := by
  refine Run.of (by decide) (Nat.le_of_ble_eq_true rfl) ?_
  have hok : OkP n k P := hA.1.1.1
  have hP : ∀ j, j < 47 → M 190 j = P j := hI.1.1
  have hn6 := hok.1
  have hk6 := hok.2.1
  have hn : M 190 0 = nI n := (hP 0 (by omega)).trans hok.2.2.1
  have hk : M 190 1 = nI k := (hP 1 (by omega)).trans hok.2.2.2.1
  refine g_aload_n (j := 0) (pc' := 1) dX12_values_0 rfl rfl ?_
  refine g_iload_n (j := 1) (pc' := 2) dX12_values_1 rfl rfl ?_
  refine g_callV (my := mX12_isMan) (k := 189) (st := []) (av := [.int (nI m)]) (mcr := 0) (msr := 0) (mc := 0) (ms := 0) (pc' := 5) dX12_values_2 kX12_isMan wX12_84 rfl ⟨rfl, rfl⟩ rfl (Nat.le_of_ble_eq_true rfl) (by decide) (s_isMan1 hn hn6 (hm)) rfl ?_
  rintro _ _ ⟨rfl, rfl⟩
  show Go mX12_values _ _ _ 5 [(0, .ref 189), (1, .int (nI m)), (2, .int v)] [.int 1] (SK, M, N) _
  refine g_if_eq (tgt := 31) (pc' := 8) dX12_values_5 (by decide) rfl (fun hc => absurd hc (by decide)) (fun _ => ?_)
  refine g_aload_n (j := 0) (pc' := 9) dX12_values_8 rfl rfl ?_
  refine g_iload_n (j := 2) (pc' := 10) dX12_values_9 rfl rfl ?_
  refine g_callV (my := mX12_isName) (k := 189) (st := []) (av := [.int v]) (mcr := 0) (msr := 0) (mc := 0) (ms := 0) (pc' := 13) dX12_values_10 kX12_isName wX12_92 rfl ⟨rfl, rfl⟩ rfl (Nat.le_of_ble_eq_true rfl) (by decide) (s_isName0 hk hk6 (h1)) rfl ?_
  rintro _ _ ⟨rfl, rfl⟩
  show Go mX12_values _ _ _ 13 [(0, .ref 189), (1, .int (nI m)), (2, .int v)] [.int 0] (SK, M, N) _
  refine g_if_eq (tgt := 31) (pc' := 16) dX12_values_13 (by decide) rfl (fun _ => ?_) (fun hc => absurd rfl hc)
  refine g_iconst (v := (-1)) (pc' := 32) dX12_values_31 (by decide) rfl ?_
  exact g_iret dX12_values_32 rfl rfl (RQ.same hI)
set_option maxRecDepth 100000 in
set_option maxHeartbeats 1000000 in
theorem r_values {M : Nat → Nat → Int32} {N : Nat → Nat → Int64} {n k : Nat} {P : Nat → Int32} {pa : List (Nat → Int32)} {kp : Option YS} {tp : List Int32} {sh : Nat → Option (Nat × Nat × (Nat → Int64))} (hA : AOk ((n, k, P, pa), kp, tp, sh)) (hI : RI M N ((n, k, P, pa), kp, tp, sh)) {m i : Nat} (hm : m < n) (hi : i < k) : Run mX12_values 30 0 0 [.ref 189, .int (nI m), .int (nI i)] (SK, M, N) (RQ M N (valP P m i + 100) ((n, k, P, pa), kp, tp, sh)) := by
  refine Run.of (by decide) (Nat.le_of_ble_eq_true rfl) ?_
  have hok : OkP n k P := hA.1.1.1
  have hP : ∀ j, j < 47 → M 190 j = P j := hI.1.1
  have hn6 := hok.1
  have hk6 := hok.2.1
  have hn : M 190 0 = nI n := (hP 0 (by omega)).trans hok.2.2.1
  have hk : M 190 1 = nI k := (hP 1 (by omega)).trans hok.2.2.2.1
  refine g_aload_n (j := 0) (pc' := 1) dX12_values_0 rfl rfl ?_
  refine g_iload_n (j := 1) (pc' := 2) dX12_values_1 rfl rfl ?_
  refine g_callV (my := mX12_isMan) (k := 189) (st := []) (av := [.int (nI m)]) (mcr := 0) (msr := 0) (mc := 0) (ms := 0) (pc' := 5) dX12_values_2 kX12_isMan wX12_84 rfl ⟨rfl, rfl⟩ rfl (Nat.le_of_ble_eq_true rfl) (by decide) (s_isMan1 hn hn6 (hm)) rfl ?_
  rintro _ _ ⟨rfl, rfl⟩
  show Go mX12_values _ _ _ 5 [(0, .ref 189), (1, .int (nI m)), (2, .int (nI i))] [.int 1] (SK, M, N) _
  refine g_if_eq (tgt := 31) (pc' := 8) dX12_values_5 (by decide) rfl (fun hc => absurd hc (by decide)) (fun _ => ?_)
  refine g_aload_n (j := 0) (pc' := 9) dX12_values_8 rfl rfl ?_
  refine g_iload_n (j := 2) (pc' := 10) dX12_values_9 rfl rfl ?_
  refine g_callV (my := mX12_isName) (k := 189) (st := []) (av := [.int (nI i)]) (mcr := 0) (msr := 0) (mc := 0) (ms := 0) (pc' := 13) dX12_values_10 kX12_isName wX12_92 rfl ⟨rfl, rfl⟩ rfl (Nat.le_of_ble_eq_true rfl) (by decide) (s_isName1 hk hk6 (hi)) rfl ?_
  rintro _ _ ⟨rfl, rfl⟩
  show Go mX12_values _ _ _ 13 [(0, .ref 189), (1, .int (nI m)), (2, .int (nI i))] [.int 1] (SK, M, N) _
  refine g_if_eq (tgt := 31) (pc' := 16) dX12_values_13 (by decide) rfl (fun hc => absurd hc (by decide)) (fun _ => ?_)
  refine g_aload_n (j := 0) (pc' := 17) dX12_values_16 rfl rfl ?_
  refine g_getR (pc' := 20) dX12_values_17 fX12_7 rfl rfl rfl ?_
  refine g_iload_n (j := 1) (pc' := 21) dX12_values_20 rfl rfl ?_
  refine g_iload_n (j := 2) (pc' := 22) dX12_values_21 rfl rfl ?_
  refine g_callS (my := mX12_valueOf) (st := []) (av := [.ref 190, .int (nI m), .int (nI i)]) (mcr := 0) (msr := 0) (mc := 0) (ms := 0) (pc' := 25) dX12_values_22 kX12_valueOf wX12_67 rfl (Nat.le_of_ble_eq_true rfl) (by decide) (r_valueOf (c := 190) rfl hok hP hm hi) rfl ?_
  rintro _ _ ⟨rfl, rfl⟩
  show Go mX12_values _ _ _ 25 [(0, .ref 189), (1, .int (nI m)), (2, .int (nI i))] [.int (valP P m i)] (SK, M, N) _
  refine g_bipush (v := 100) (pc' := 27) dX12_values_25 (by decide) rfl ?_
  refine g_iadd (pc' := 28) dX12_values_27 rfl ?_
  refine g_goto (tgt := 32) dX12_values_28 (by decide) ?_
  exact g_iret dX12_values_32 rfl rfl (RQ.same hI)
