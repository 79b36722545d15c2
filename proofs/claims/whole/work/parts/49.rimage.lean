theorem YR.cpy {M M' : Nat → Nat → Int32} {t u : Nat} {y : YS} (h : YR M t y) (hl : y.2.2.2.length ≤ 8) (he : ∀ j, j < 352 → M' u j = M t j) : YR M' u y := by
  obtain ⟨h1, h2, h3⟩ := h
  refine ⟨fun j hj => by rw [he j (by omega)]; exact h1 j hj, by rw [he 47 (by omega)]; exact h2, fun i Q hi => ?_⟩
  have hi' := (List.getElem?_eq_some_iff.mp hi).1
  exact ⟨fun j hj => by rw [he _ (by omega)]; exact (h3 i Q hi).1 j hj, by rw [he _ (by omega)]; exact (h3 i Q hi).2⟩
theorem cpy_all {M : Nat → Nat → Int32} {t u j : Nat} (hj : j < 352) : cpy2 M t 0 u 0 352 u j = M t j := by
  rw [cpy2_in (by omega) (by omega), Nat.zero_add, Nat.sub_zero]
set_option maxRecDepth 100000 in
set_option maxHeartbeats 1000000 in
theorem r_image {M : Nat → Nat → Int32} {N : Nat → Nat → Int64} {n k : Nat} {P : Nat → Int32} {pa : List (Nat → Int32)} {kp : Option YS} {tp : List Int32} {sh : Nat → Option (Nat × Nat × (Nat → Int64))} (hA : AOk ((n, k, P, pa), kp, tp, sh)) (hI : RI M N ((n, k, P, pa), kp, tp, sh))  : Run mX12_image 30 0 0 [.ref 189] (SK, M, N) (RQ M N (1) ((n, k, P, pa), some (n, k, P, pa), tp, sh)) := by
  refine Run.of (by decide) (Nat.le_of_ble_eq_true rfl) ?_
  have hok : OkP n k P := hA.1.1.1
  have hP : ∀ j, j < 47 → M 190 j = P j := hI.1.1
  have hn6 := hok.1
  have hk6 := hok.2.1
  have hn : M 190 0 = nI n := (hP 0 (by omega)).trans hok.2.2.1
  have hk : M 190 1 = nI k := (hP 1 (by omega)).trans hok.2.2.2.1
  refine g_aload_n (j := 0) (pc' := 1) dX12_image_0 rfl rfl ?_
  refine g_getR (pc' := 4) dX12_image_1 fX12_7 rfl rfl rfl ?_
  refine g_iconst (v := 0) (pc' := 5) dX12_image_4 (by decide) rfl ?_
  refine g_aload_n (j := 0) (pc' := 6) dX12_image_5 rfl rfl ?_
  refine g_getR (pc' := 9) dX12_image_6 fX12_19 rfl rfl rfl ?_
  refine g_iconst (v := 0) (pc' := 10) dX12_image_9 (by decide) rfl ?_
  refine g_sipush (v := 352) (pc' := 13) dX12_image_10 (by decide) rfl ?_
  refine g_callS (my := mX12_copies) (st := []) (av := [.ref 190, .int 0, .ref 193, .int 0, .int 352]) (mcr := 0) (msr := 0) (mc := 0) (ms := 0) (pc' := 16) dX12_image_13 kX12_copies wX12_152 rfl (Nat.le_of_ble_eq_true rfl) (by decide) (s_copies (k0 := 190) (i := 0) (k1 := 193) (j := 0) (n := 352) rfl rfl (by omega) (by omega) (by omega)) rfl ?_
  rintro _ _ ⟨rfl, rfl⟩
  show Go mX12_image _ _ _ 16 [(0, .ref 189)] [] (SK, (cpy2 M 190 0 193 0 352), N) _
  generalize hM1 : (cpy2 M 190 0 193 0 352) = M1
  have h1a : ∀ j, j < 352 → M1 193 j = M 190 j := fun j hj => by rw [← hM1]; exact cpy_all hj
  have h1f : ∀ a, a ≠ 193 → M1 a = M a := fun a ha => by rw [← hM1]; exact cpy2_ne ha
  refine g_aload_n (j := 0) (pc' := 17) dX12_image_16 rfl rfl ?_
  refine g_iconst (v := 1) (pc' := 18) dX12_image_17 (by decide) rfl ?_
  refine g_putI (pc' := 21) dX12_image_18 fX12_201 rfl rfl ⟨by decide, by decide⟩ rfl ?_
  refine g_iconst (v := 1) (pc' := 22) dX12_image_21 (by decide) rfl ?_
  refine g_iret dX12_image_22 rfl rfl (⟨um M1 189 4 1, N, rfl, rfl, ⟨hI.1.keep (by rw [um_ne (by omega), h1f 190 (by omega)]), ⟨um_at, hI.1.cpy hA.1.2.1 (fun j hj => by rw [um_ne (by omega)]; exact h1a j hj)⟩, ⟨by rw [um_at2 (by omega), h1f 189 (by omega)]; exact hI.2.2.1.1, fun j x hj => by rw [um_ne (by omega), h1f 194 (by omega)]; exact hI.2.2.1.2 j x hj⟩, fun i hi => ?_⟩, fun a ha => ⟨by rw [um_ne (by omega), h1f a (by omega)], rfl⟩⟩)
  have h5 := hI.2.2.2 i hi
  dsimp only at h5 ⊢
  cases hB : sh i with
  | none => rw [hB] at h5; show um M1 189 4 1 196 i = -1; rw [um_ne (by omega), h1f 196 (by omega)]; exact h5
  | some z =>
    obtain ⟨la, ln, f⟩ := z
    rw [hB] at h5
    exact ⟨by rw [um_ne (by omega), h1f 196 (by omega)]; exact h5.1, by rw [um_ne (by omega), h1f 195 (by omega)]; exact h5.2.1, h5.2.2⟩
set_option maxRecDepth 100000 in
set_option maxHeartbeats 1000000 in
theorem r_restore_n {M : Nat → Nat → Int32} {N : Nat → Nat → Int64} {n k : Nat} {P : Nat → Int32} {pa : List (Nat → Int32)} {kp : Option YS} {tp : List Int32} {sh : Nat → Option (Nat × Nat × (Nat → Int64))} (hA : AOk ((n, k, P, pa), kp, tp, sh)) (hI : RI M N ((n, k, P, pa), kp, tp, sh)) (h0 : kp = none) : Run mX12_restore 30 0 0 [.ref 189] (SK, M, N) (RQ M N (-4) ((n, k, P, pa), kp, tp, sh)) := by
  refine Run.of (by decide) (Nat.le_of_ble_eq_true rfl) ?_
  have hok : OkP n k P := hA.1.1.1
  have hP : ∀ j, j < 47 → M 190 j = P j := hI.1.1
  have hn6 := hok.1
  have hk6 := hok.2.1
  have hn : M 190 0 = nI n := (hP 0 (by omega)).trans hok.2.2.1
  have hk : M 190 1 = nI k := (hP 1 (by omega)).trans hok.2.2.2.1
  have hk0 : M 189 4 = 0 := by subst h0; exact hI.2.1
  refine g_aload_n (j := 0) (pc' := 1) dX12_restore_0 rfl rfl ?_
  refine g_getI (pc' := 4) dX12_restore_1 fX12_201 rfl rfl rfl ?_
  rw [hk0]
  refine g_if_ne (tgt := 10) (pc' := 7) dX12_restore_4 (by decide) rfl (fun hc => (absurd rfl hc)) (fun hc => ?_)
  refine g_bipush (v := (-4)) (pc' := 9) dX12_restore_7 (by decide) rfl ?_
  exact g_iret dX12_restore_9 rfl rfl (RQ.same hI)
set_option maxRecDepth 100000 in
set_option maxHeartbeats 1000000 in
theorem r_restore {M : Nat → Nat → Int32} {N : Nat → Nat → Int64} {n k : Nat} {P : Nat → Int32} {pa : List (Nat → Int32)} {kp : Option YS} {tp : List Int32} {sh : Nat → Option (Nat × Nat × (Nat → Int64))} (hA : AOk ((n, k, P, pa), kp, tp, sh)) (hI : RI M N ((n, k, P, pa), kp, tp, sh)) {n2 k2 : Nat} {P2 : Nat → Int32} {pa2 : List (Nat → Int32)} (h0 : kp = some (n2, k2, P2, pa2)) : Run mX12_restore 30 0 0 [.ref 189] (SK, M, N) (RQ M N (1) ((n2, k2, P2, pa2), some (n2, k2, P2, pa2), tp, sh)) := by
  refine Run.of (by decide) (Nat.le_of_ble_eq_true rfl) ?_
  have hok : OkP n k P := hA.1.1.1
  have hP : ∀ j, j < 47 → M 190 j = P j := hI.1.1
  have hn6 := hok.1
  have hk6 := hok.2.1
  have hn : M 190 0 = nI n := (hP 0 (by omega)).trans hok.2.2.1
  have hk : M 190 1 = nI k := (hP 1 (by omega)).trans hok.2.2.2.1
  subst h0
  obtain ⟨hk0, hYk⟩ : M 189 4 = 1 ∧ YR M 193 (n2, k2, P2, pa2) := hI.2.1
  have hl8 : pa2.length ≤ 8 := (hA.2.1 _ rfl).2.1
  refine g_aload_n (j := 0) (pc' := 1) dX12_restore_0 rfl rfl ?_
  refine g_getI (pc' := 4) dX12_restore_1 fX12_201 rfl rfl rfl ?_
  rw [hk0]
  refine g_if_ne (tgt := 10) (pc' := 7) dX12_restore_4 (by decide) rfl (fun hc => ?_) (fun hc => (absurd hc (by decide)))
  refine g_aload_n (j := 0) (pc' := 11) dX12_restore_10 rfl rfl ?_
  refine g_getR (pc' := 14) dX12_restore_11 fX12_19 rfl rfl rfl ?_
  refine g_iconst (v := 0) (pc' := 15) dX12_restore_14 (by decide) rfl ?_
  refine g_aload_n (j := 0) (pc' := 16) dX12_restore_15 rfl rfl ?_
  refine g_getR (pc' := 19) dX12_restore_16 fX12_7 rfl rfl rfl ?_
  refine g_iconst (v := 0) (pc' := 20) dX12_restore_19 (by decide) rfl ?_
  refine g_sipush (v := 352) (pc' := 23) dX12_restore_20 (by decide) rfl ?_
  refine g_callS (my := mX12_copies) (st := []) (av := [.ref 193, .int 0, .ref 190, .int 0, .int 352]) (mcr := 0) (msr := 0) (mc := 0) (ms := 0) (pc' := 26) dX12_restore_23 kX12_copies wX12_152 rfl (Nat.le_of_ble_eq_true rfl) (by decide) (s_copies (k0 := 193) (i := 0) (k1 := 190) (j := 0) (n := 352) rfl rfl (by omega) (by omega) (by omega)) rfl ?_
  rintro _ _ ⟨rfl, rfl⟩
  show Go mX12_restore _ _ _ 26 [(0, .ref 189)] [] (SK, (cpy2 M 193 0 190 0 352), N) _
  refine g_iconst (v := 1) (pc' := 27) dX12_restore_26 (by decide) rfl ?_
  exact g_iret dX12_restore_27 rfl rfl (RQ.now hI (hYk.cpy hl8 (fun j hj => cpy_all hj)) (fun a _ ha => cpy2_ne ha))
