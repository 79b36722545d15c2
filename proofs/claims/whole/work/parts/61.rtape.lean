/-! ===== the reference's tape ===== -/
def TapeR (M : Nat → Nat → Int32) (tf : Nat → Nat) (len p : Nat) : Prop := M 189 6 = nI len ∧ M 189 13 = nI p ∧ ∀ j, j < len → M 194 j = nI (tf j)
/-- only where the reading stands has changed -/
def Fr (M M' : Nat → Nat → Int32) : Prop := (∀ j, j ≠ 13 → j ≠ 14 → M' 189 j = M 189 j) ∧ ∀ a, a ≠ 189 → M' a = M a
def Fr2 (M M' : Nat → Nat → Int32) : Prop := (∀ j, j ≠ 13 → j ≠ 14 → M' 189 j = M 189 j) ∧ ∀ a, a ≠ 189 → a ≠ 192 → M' a = M a
theorem Fr.refl (M : Nat → Nat → Int32) : Fr M M := ⟨fun _ _ _ => rfl, fun _ _ => rfl⟩
theorem Fr2.refl (M : Nat → Nat → Int32) : Fr2 M M := ⟨fun _ _ _ => rfl, fun _ _ _ => rfl⟩
theorem Fr.two {M M' : Nat → Nat → Int32} (h : Fr M M') : Fr2 M M' := ⟨h.1, fun a h1 _ => h.2 a h1⟩
theorem Fr.up {M M' : Nat → Nat → Int32} {j : Nat} {x : Int32} (h : Fr M M') (hj : j = 13 ∨ j = 14) : Fr M (um M' 189 j x) := ⟨fun i h1 h2 => by rw [um_at2 (by omega)]; exact h.1 i h1 h2, fun a ha => by rw [um_ne ha]; exact h.2 a ha⟩
theorem Fr2.up {M M' : Nat → Nat → Int32} {j : Nat} {x : Int32} (h : Fr2 M M') (hj : j = 13 ∨ j = 14) : Fr2 M (um M' 189 j x) := ⟨fun i h1 h2 => by rw [um_at2 (by omega)]; exact h.1 i h1 h2, fun a ha hb => by rw [um_ne ha]; exact h.2 a ha hb⟩
theorem Fr2.rd {M M' : Nat → Nat → Int32} {j : Nat} {x : Int32} (h : Fr2 M M') : Fr2 M (um M' 192 j x) := ⟨fun i h1 h2 => by rw [um_ne (by omega)]; exact h.1 i h1 h2, fun a ha hb => by rw [um_ne hb]; exact h.2 a ha hb⟩
theorem Fr2.trans {M M' M2 : Nat → Nat → Int32} (h : Fr2 M M') (g : Fr2 M' M2) : Fr2 M M2 := ⟨fun i h1 h2 => (g.1 i h1 h2).trans (h.1 i h1 h2), fun a ha hb => (g.2 a ha hb).trans (h.2 a ha hb)⟩
theorem TapeR.at {M : Nat → Nat → Int32} {tf : Nat → Nat} {len p q : Nat} (h : TapeR M tf len p) : TapeR (um M 189 13 (nI q)) tf len q := ⟨by rw [um_at2 (by omega)]; exact h.1, um_at, fun j hj => by rw [um_ne (by omega)]; exact h.2.2 j hj⟩
theorem TapeR.wr {M : Nat → Nat → Int32} {tf : Nat → Nat} {len p : Nat} {x : Int32} (h : TapeR M tf len p) : TapeR (um M 189 14 x) tf len p := ⟨by rw [um_at2 (by omega)]; exact h.1, by rw [um_at2 (by omega)]; exact h.2.1, fun j hj => by rw [um_ne (by omega)]; exact h.2.2 j hj⟩
theorem TapeR.rd {M : Nat → Nat → Int32} {tf : Nat → Nat} {len p j : Nat} {x : Int32} (h : TapeR M tf len p) : TapeR (um M 192 j x) tf len p := ⟨by rw [um_ne (by omega)]; exact h.1, by rw [um_ne (by omega)]; exact h.2.1, fun j hj => by rw [um_ne (by omega)]; exact h.2.2 j hj⟩
def hrI (tf : Nat → Nat) (len s : Nat) : Int32 := if s < len then nI (tf s) else -1
theorem skB_at {tf : Nat → Nat} {len : Nat} : ∀ {f p : Nat}, p + f = len → ¬ (skB tf len p < len ∧ tf (skB tf len p) = 32)
  | 0, p, h => by rw [skB_stop (fun q => by omega)]; omega
  | f + 1, p, h => by
    by_cases e : p < len ∧ tf p = 32
    · rw [skB_step e.1 e.2]; exact skB_at (f := f) (p := p + 1) (by omega)
    · rw [skB_stop e]; exact e
theorem skB_skB {tf : Nat → Nat} {len p : Nat} (h : p ≤ len) : skB tf len (skB tf len p) = skB tf len p := skB_stop (skB_at (f := len - p) (by omega))
theorem pOne_end {tf : Nat → Nat} {len i p s : Nat} (hs : skB tf len p = s) (h : ¬ s < len) : pOne tf len i p = (none, s) := by
  unfold pOne; rw [hs, if_neg h]
theorem pOne_no {tf : Nat → Nat} {len i p s : Nat} (hs : skB tf len p = s) (h : s < len) (h2 : ixO i (tf s) = none) : pOne tf len i p = (none, s) := by
  unfold pOne; rw [hs, if_pos h, h2]
theorem pOne_yes {tf : Nat → Nat} {len i p s v : Nat} (hs : skB tf len p = s) (h : s < len) (h2 : ixO i (tf s) = some v) : pOne tf len i p = (some v, s + 1) := by
  unfold pOne; rw [hs, if_pos h, h2]
theorem ix0F : ∀ x : Fin 128, ixO 0 x = if 48 ≤ x.val ∧ x.val ≤ 57 then some (x.val - 48) else none := by decide +kernel
theorem ix1F : ∀ x : Fin 128, ixO 1 x = if x.val = 59 then some 0 else none := by decide +kernel
theorem ix3F : ∀ x : Fin 128, ixO 3 x = if 49 ≤ x.val ∧ x.val ≤ 52 then some (x.val - 49) else none := by decide +kernel
theorem ix4F : ∀ x : Fin 128, ixO 4 x = if x.val = 59 then some 0 else if x.val = 44 then some 1 else none := by decide +kernel
theorem ix5F : ∀ x : Fin 128, ixO 5 x = if x.val = 45 then some 0 else none := by decide +kernel
theorem ix6F : ∀ x : Fin 128, ixO 6 x = if x.val = 44 then some 0 else none := by decide +kernel
theorem ix0 {x : Nat} (h : x < 128) : ixO 0 x = if 48 ≤ x ∧ x ≤ 57 then some (x - 48) else none := ix0F ⟨x, h⟩
theorem ix1 {x : Nat} (h : x < 128) : ixO 1 x = if x = 59 then some 0 else none := ix1F ⟨x, h⟩
theorem ix3 {x : Nat} (h : x < 128) : ixO 3 x = if 49 ≤ x ∧ x ≤ 52 then some (x - 49) else none := ix3F ⟨x, h⟩
theorem ix4 {x : Nat} (h : x < 128) : ixO 4 x = if x = 59 then some 0 else if x = 44 then some 1 else none := ix4F ⟨x, h⟩
theorem ix5 {x : Nat} (h : x < 128) : ixO 5 x = if x = 45 then some 0 else none := ix5F ⟨x, h⟩
theorem ix6 {x : Nat} (h : x < 128) : ixO 6 x = if x = 44 then some 0 else none := ix6F ⟨x, h⟩
theorem pNum_end {tf : Nat → Nat} {len p s : Nat} (hs : skB tf len p = s) (h : ¬ s < len) : pNum tf len p = (none, s) := by
  unfold pNum; rw [pOne_end hs h]
theorem pNum_no {tf : Nat → Nat} {len p s : Nat} (hs : skB tf len p = s) (h : s < len) (h2 : ixO 0 (tf s) = none) : pNum tf len p = (none, s) := by
  unfold pNum; rw [pOne_no hs h h2]
theorem pNum_one {tf : Nat → Nat} {len p s v : Nat} (hs : skB tf len p = s) (h : s < len) (h2 : ixO 0 (tf s) = some v) (h3 : ¬ (s + 1 < len ∧ 48 ≤ tf (s + 1) ∧ tf (s + 1) ≤ 57)) : pNum tf len p = (some v, s + 1) := by
  unfold pNum; rw [pOne_yes hs h h2]; exact if_neg h3
theorem pNum_two {tf : Nat → Nat} {len p s v : Nat} (hs : skB tf len p = s) (h : s < len) (h2 : ixO 0 (tf s) = some v) (h3 : s + 1 < len ∧ 48 ≤ tf (s + 1) ∧ tf (s + 1) ≤ 57) (h4 : v * 10 + (tf (s + 1) - 48) ≤ 20) : pNum tf len p = (some (v * 10 + (tf (s + 1) - 48)), s + 1 + 1) := by
  unfold pNum; rw [pOne_yes hs h h2]; exact (if_pos h3).trans (if_pos h4)
theorem pNum_big {tf : Nat → Nat} {len p s v : Nat} (hs : skB tf len p = s) (h : s < len) (h2 : ixO 0 (tf s) = some v) (h3 : s + 1 < len ∧ 48 ≤ tf (s + 1) ∧ tf (s + 1) ≤ 57) (h4 : ¬ v * 10 + (tf (s + 1) - 48) ≤ 20) : pNum tf len p = (none, s) := by
  unfold pNum; rw [pOne_yes hs h h2]; exact (if_pos h3).trans (if_neg h4)
set_option maxRecDepth 100000 in
set_option maxHeartbeats 1000000 in
theorem r_type_b {M : Nat → Nat → Int32} {N : Nat → Nat → Int64} {n k : Nat} {P : Nat → Int32} {pa : List (Nat → Int32)} {kp : Option YS} {tp : List Int32} {sh : Nat → Option (Nat × Nat × (Nat → Int64))} (hA : AOk ((n, k, P, pa), kp, tp, sh)) (hI : RI M N ((n, k, P, pa), kp, tp, sh)) {v : Int32} (h1 : v < 32 ∨ 126 < v) : Run mX12_type 30 0 0 [.ref 189, .int v] (SK, M, N) (RQ M N (-1) ((n, k, P, pa), kp, tp, sh)) := by
  refine Run.of (by decide) (Nat.le_of_ble_eq_true rfl) ?_
  have hok : OkP n k P := hA.1.1.1
  have hP : ∀ j, j < 47 → M 190 j = P j := hI.1.1
  have hn6 := hok.1
  have hk6 := hok.2.1
  have hn : M 190 0 = nI n := (hP 0 (by omega)).trans hok.2.2.1
  have hk : M 190 1 = nI k := (hP 1 (by omega)).trans hok.2.2.2.1
  refine g_iload_n (j := 1) (pc' := 1) dX12_type_0 rfl rfl ?_
  refine g_i2l (pc' := 2) dX12_type_1 rfl ?_
  refine g_ldc2 (v := 32) (pc' := 5) dX12_type_2 qX12_104 rfl ?_
  refine g_ldc2 (v := 126) (pc' := 8) dX12_type_5 qX12_106 rfl ?_
  refine g_callS (my := mX12_in) (st := []) (av := [.long (Int32.toInt64 v), .long 32, .long 126]) (mcr := 0) (msr := 0) (mc := 0) (ms := 0) (pc' := 11) dX12_type_8 kX12_in wX12_55 rfl (Nat.le_of_ble_eq_true rfl) (by decide) (r_in0 (lo := 32) (hi := 126) (by decide) (by decide) (h1)) rfl ?_
  rintro _ _ ⟨rfl, rfl⟩
  show Go mX12_type _ _ _ 11 [(0, .ref 189), (1, .int v)] [.int 0] (SK, M, N) _
  refine g_if_ne (tgt := 16) (pc' := 14) dX12_type_11 (by decide) rfl (fun hc => absurd rfl hc) (fun _ => ?_)
  refine g_iconst (v := (-1)) (pc' := 15) dX12_type_14 (by decide) rfl ?_
  exact g_iret dX12_type_15 rfl rfl (RQ.same hI)
set_option maxRecDepth 100000 in
set_option maxHeartbeats 1000000 in
theorem r_type_f {M : Nat → Nat → Int32} {N : Nat → Nat → Int64} {n k : Nat} {P : Nat → Int32} {pa : List (Nat → Int32)} {kp : Option YS} {tp : List Int32} {sh : Nat → Option (Nat × Nat × (Nat → Int64))} (hA : AOk ((n, k, P, pa), kp, tp, sh)) (hI : RI M N ((n, k, P, pa), kp, tp, sh)) {q : Nat} (h1 : 32 ≤ q) (h2 : q ≤ 126) (h80 : tp.length = 80) : Run mX12_type 30 0 0 [.ref 189, .int (nI q)] (SK, M, N) (RQ M N (-3) ((n, k, P, pa), kp, tp, sh)) := by
  refine Run.of (by decide) (Nat.le_of_ble_eq_true rfl) ?_
  have hok : OkP n k P := hA.1.1.1
  have hP : ∀ j, j < 47 → M 190 j = P j := hI.1.1
  have hn6 := hok.1
  have hk6 := hok.2.1
  have hn : M 190 0 = nI n := (hP 0 (by omega)).trans hok.2.2.1
  have hk : M 190 1 = nI k := (hP 1 (by omega)).trans hok.2.2.2.1
  refine g_iload_n (j := 1) (pc' := 1) dX12_type_0 rfl rfl ?_
  refine g_i2l (pc' := 2) dX12_type_1 rfl ?_
  refine g_ldc2 (v := 32) (pc' := 5) dX12_type_2 qX12_104 rfl ?_
  refine g_ldc2 (v := 126) (pc' := 8) dX12_type_5 qX12_106 rfl ?_
  refine g_callS (my := mX12_in) (st := []) (av := [.long (Int32.toInt64 (nI q)), .long 32, .long 126]) (mcr := 0) (msr := 0) (mc := 0) (ms := 0) (pc' := 11) dX12_type_8 kX12_in wX12_55 rfl (Nat.le_of_ble_eq_true rfl) (by decide) (r_in1 (lo := 32) (hi := 126) (by decide) (by decide) (rng2 (lo := 32) (hi := 126) h1 h2 (by omega))) rfl ?_
  rintro _ _ ⟨rfl, rfl⟩
  show Go mX12_type _ _ _ 11 [(0, .ref 189), (1, .int (nI q))] [.int 1] (SK, M, N) _
  refine g_if_ne (tgt := 16) (pc' := 14) dX12_type_11 (by decide) rfl (fun _ => ?_) (fun hc => absurd hc (by decide))
  refine g_aload_n (j := 0) (pc' := 17) dX12_type_16 rfl rfl ?_
  refine g_getI (pc' := 20) dX12_type_17 fX12_108 rfl rfl rfl ?_
  refine g_top (y := nI 80) (by rw [hI.2.2.1.1]; show nI tp.length = nI 80; rw [h80]) ?_
  refine g_bipush (v := 80) (pc' := 22) dX12_type_20 (by decide) rfl ?_
  refine g_icmp_ne (tgt := 28) (pc' := 25) dX12_type_22 (by decide) rfl (fun hc => (absurd rfl hc)) (fun hc => ?_)
  refine g_bipush (v := (-3)) (pc' := 27) dX12_type_25 (by decide) rfl ?_
  exact g_iret dX12_type_27 rfl rfl (RQ.same hI)
set_option maxRecDepth 100000 in
set_option maxHeartbeats 1000000 in
theorem r_type {M : Nat → Nat → Int32} {N : Nat → Nat → Int64} {n k : Nat} {P : Nat → Int32} {pa : List (Nat → Int32)} {kp : Option YS} {tp : List Int32} {sh : Nat → Option (Nat × Nat × (Nat → Int64))} (hA : AOk ((n, k, P, pa), kp, tp, sh)) (hI : RI M N ((n, k, P, pa), kp, tp, sh)) {q : Nat} (h1 : 32 ≤ q) (h2 : q ≤ 126) (h80 : tp.length < 80) : Run mX12_type 30 0 0 [.ref 189, .int (nI q)] (SK, M, N) (RQ M N (nI (tp.length + 1)) ((n, k, P, pa), kp, tp ++ [nI q], sh)) := by
  refine Run.of (by decide) (Nat.le_of_ble_eq_true rfl) ?_
  have hok : OkP n k P := hA.1.1.1
  have hP : ∀ j, j < 47 → M 190 j = P j := hI.1.1
  have hn6 := hok.1
  have hk6 := hok.2.1
  have hn : M 190 0 = nI n := (hP 0 (by omega)).trans hok.2.2.1
  have hk : M 190 1 = nI k := (hP 1 (by omega)).trans hok.2.2.2.1
  have h6 : M 189 6 = nI tp.length := hI.2.2.1.1
  refine g_iload_n (j := 1) (pc' := 1) dX12_type_0 rfl rfl ?_
  refine g_i2l (pc' := 2) dX12_type_1 rfl ?_
  refine g_ldc2 (v := 32) (pc' := 5) dX12_type_2 qX12_104 rfl ?_
  refine g_ldc2 (v := 126) (pc' := 8) dX12_type_5 qX12_106 rfl ?_
  refine g_callS (my := mX12_in) (st := []) (av := [.long (Int32.toInt64 (nI q)), .long 32, .long 126]) (mcr := 0) (msr := 0) (mc := 0) (ms := 0) (pc' := 11) dX12_type_8 kX12_in wX12_55 rfl (Nat.le_of_ble_eq_true rfl) (by decide) (r_in1 (lo := 32) (hi := 126) (by decide) (by decide) (rng2 (lo := 32) (hi := 126) h1 h2 (by omega))) rfl ?_
  rintro _ _ ⟨rfl, rfl⟩
  show Go mX12_type _ _ _ 11 [(0, .ref 189), (1, .int (nI q))] [.int 1] (SK, M, N) _
  refine g_if_ne (tgt := 16) (pc' := 14) dX12_type_11 (by decide) rfl (fun _ => ?_) (fun hc => absurd hc (by decide))
  refine g_aload_n (j := 0) (pc' := 17) dX12_type_16 rfl rfl ?_
  refine g_getI (pc' := 20) dX12_type_17 fX12_108 rfl rfl rfl ?_
  refine g_top (y := nI tp.length) (h6) ?_
  refine g_bipush (v := 80) (pc' := 22) dX12_type_20 (by decide) rfl ?_
  refine g_icmp_ne (tgt := 28) (pc' := 25) dX12_type_22 (by decide) rfl (fun hc => ?_) (fun hc => (absurd hc (fun q => absurd ((nI_eq (a := tp.length) (b := 80) (by omega) (by omega)).mp q) (by omega))))
  refine g_aload_n (j := 0) (pc' := 29) dX12_type_28 rfl rfl ?_
  refine g_getR (pc' := 32) dX12_type_29 fX12_22 rfl rfl rfl ?_
  refine g_aload_n (j := 0) (pc' := 33) dX12_type_32 rfl rfl ?_
  refine g_getI (pc' := 36) dX12_type_33 fX12_108 rfl rfl rfl ?_
  refine g_top (y := nI tp.length) (h6) ?_
  refine g_iload_n (j := 1) (pc' := 37) dX12_type_36 rfl rfl ?_
  refine g_iast (n := tp.length) (pc' := 38) dX12_type_37 rfl rfl (by omega) rfl ?_
  refine g_aload_n (j := 0) (pc' := 39) dX12_type_38 rfl rfl ?_
  refine g_dup (pc' := 40) dX12_type_39 rfl rfl ?_
  refine g_getI (pc' := 43) dX12_type_40 fX12_108 rfl rfl rfl ?_
  refine g_top (y := M 189 6) (by simp (disch := omega) only [um_ne, um_at, um_at2, cpy2_ne]) ?_
  refine g_iconst (v := 1) (pc' := 44) dX12_type_43 (by decide) rfl ?_
  refine g_iadd (pc' := 45) dX12_type_44 rfl ?_
  refine g_top (y := nI (tp.length + 1)) (by rw [h6]; exact nI_1 _) ?_
  refine g_putI (pc' := 48) dX12_type_45 fX12_108 rfl rfl ⟨rfl, rfl⟩ rfl ?_
  generalize hM1 : (um (um M 194 tp.length (nI q)) 189 6 (nI (tp.length + 1))) = M1
  refine g_aload_n (j := 0) (pc' := 49) dX12_type_48 rfl rfl ?_
  refine g_getI (pc' := 52) dX12_type_49 fX12_108 rfl rfl rfl ?_
  refine g_top (y := nI (tp.length + 1)) (by rw [← hM1]; exact um_at) ?_
  obtain ⟨g1, g2, g3, g4⟩ := hI
  have e : ∀ a, a ≠ 189 → a ≠ 194 → M1 a = M a := fun a e1 e2 => by rw [← hM1, um_ne e1, um_ne e2]
  refine g_iret dX12_type_52 rfl rfl (⟨M1, N, rfl, rfl, ⟨g1.keep (e 190 (by omega) (by omega)), ?_, ⟨?_, fun j x hj => ?_⟩, fun i hi => ?_⟩, fun a ha => ⟨e a (by omega) (by omega), rfl⟩⟩)
  · cases kp with
    | none => show M1 189 4 = 0; rw [← hM1, um_at2 (by omega), um_ne (by omega)]; exact g2
    | some z => exact ⟨by rw [← hM1, um_at2 (by omega), um_ne (by omega)]; exact g2.1, g2.2.keep (e 193 (by omega) (by omega))⟩
  · rw [← hM1, um_at]; show nI (tp.length + 1) = nI (tp ++ [nI q]).length; rw [List.length_append]; rfl
  · have hj : (tp ++ [nI q])[j]? = some x := hj
    rw [← hM1, um_ne (by omega)]
    by_cases ej : j = tp.length
    · subst ej
      rw [List.getElem?_append_right (Nat.le_refl _), Nat.sub_self] at hj
      rw [um_at]
      exact Option.some.inj hj
    · have hlt : j < tp.length := by
        have := (List.getElem?_eq_some_iff.mp hj).1
        rw [List.length_append, List.length_singleton] at this
        omega
      rw [List.getElem?_append_left hlt] at hj
      rw [um_at2 ej]; exact g3.2 j x hj
  · have h9 := g4 i hi
    dsimp only at h9 ⊢
    cases hB : sh i with
    | none => rw [hB] at h9; show M1 196 i = -1; rw [e 196 (by omega) (by omega)]; exact h9
    | some z =>
      obtain ⟨la, ln, f⟩ := z
      rw [hB] at h9
      exact ⟨by rw [e 196 (by omega) (by omega)]; exact h9.1, by rw [e 195 (by omega) (by omega)]; exact h9.2.1, h9.2.2⟩
set_option maxRecDepth 100000 in
set_option maxHeartbeats 1000000 in
theorem s_here {M : Nat → Nat → Int32} {N : Nat → Nat → Int64} {tf : Nat → Nat} {len p : Nat} (hl : len ≤ 80) (hp : p ≤ len) (htf : ∀ j, j < len → tf j < 128) (hT : TapeR M tf len p) {s : Nat} (hs : skB tf len p = s) : Run mX12_here 0 0 0 [.ref 189] (SK, M, N) (fun r h' => ∃ M', h' = (SK, M', N) ∧ r = some (.int (hrI tf len s)) ∧ TapeR M' tf len s ∧ M' 189 14 = nI s ∧ Fr M M') := by
  refine Run.of (by decide) (Nat.le_of_ble_eq_true rfl) ?_
  have fin : ∀ (p1 : Nat) (M1 : Nat → Nat → Int32), p1 ≤ len → p1 = s → TapeR M1 tf len p1 → Fr M M1 → Go mX12_here 0 0 0 38 [(0, .ref 189)] [] (SK, M1, N) (fun r h' => ∃ M', h' = (SK, M', N) ∧ r = some (.int (hrI tf len s)) ∧ TapeR M' tf len s ∧ M' 189 14 = nI s ∧ Fr M M') := by
    intro p1 M1 hp1 hps hT1 hF
    subst hps
    refine g_aload_n (j := 0) (pc' := 39) dX12_here_38 rfl rfl ?_
    refine g_aload_n (j := 0) (pc' := 40) dX12_here_39 rfl rfl ?_
    refine g_getI (pc' := 43) dX12_here_40 fX12_112 rfl rfl rfl ?_
    refine g_top (y := nI p1) (hT1.2.1) ?_
    refine g_putI (pc' := 46) dX12_here_43 fX12_115 rfl rfl ⟨rfl, rfl⟩ rfl ?_
    have hT2 := hT1.wr (x := nI p1)
    have hF2 := hF.up (j := 14) (x := nI p1) (Or.inr rfl)
    have h14 : um M1 189 14 (nI p1) 189 14 = nI p1 := um_at
    generalize hM2 : (um M1 189 14 (nI p1)) = M2
    rw [hM2] at hT2 hF2 h14
    refine g_aload_n (j := 0) (pc' := 47) dX12_here_46 rfl rfl ?_
    refine g_getI (pc' := 50) dX12_here_47 fX12_112 rfl rfl rfl ?_
    refine g_top (y := nI p1) (hT2.2.1) ?_
    refine g_aload_n (j := 0) (pc' := 51) dX12_here_50 rfl rfl ?_
    refine g_getI (pc' := 54) dX12_here_51 fX12_108 rfl rfl rfl ?_
    refine g_top (y := nI len) (hT2.1) ?_
    by_cases hlt : p1 < len
    · refine g_icmp_ge (tgt := 69) (pc' := 57) dX12_here_54 (by decide) rfl (fun hc => (absurd hc (nI_ge hlt (by omega)))) (fun hc => ?_)
      rw [show hrI tf len p1 = nI (tf p1) from if_pos hlt]
      refine g_aload_n (j := 0) (pc' := 58) dX12_here_57 rfl rfl ?_
      refine g_getR (pc' := 61) dX12_here_58 fX12_22 rfl rfl rfl ?_
      refine g_aload_n (j := 0) (pc' := 62) dX12_here_61 rfl rfl ?_
      refine g_getI (pc' := 65) dX12_here_62 fX12_112 rfl rfl rfl ?_
      refine g_top (y := nI p1) (hT2.2.1) ?_
      refine g_iald (n := p1) (pc' := 66) dX12_here_65 rfl rfl (by omega) rfl ?_
      refine g_top (y := nI (tf p1)) (hT2.2.2 p1 hlt) ?_
      refine g_goto (tgt := 70) dX12_here_66 (by decide) ?_
      exact g_iret dX12_here_70 rfl rfl (⟨M2, rfl, rfl, hT2, h14, hF2⟩)
    · refine g_icmp_ge (tgt := 69) (pc' := 57) dX12_here_54 (by decide) rfl (fun hc => ?_) (fun hc => (absurd (nI_le (a := len) (b := p1) (by omega) (by omega)) hc))
      rw [show hrI tf len p1 = -1 from if_neg hlt]
      refine g_iconst (v := (-1)) (pc' := 70) dX12_here_69 (by decide) rfl ?_
      exact g_iret dX12_here_70 rfl rfl (⟨M2, rfl, rfl, hT2, h14, hF2⟩)
  have loop : ∀ (u p1 : Nat) (M1 : Nat → Nat → Int32), p1 + u = len → skB tf len p1 = s → TapeR M1 tf len p1 → Fr M M1 → Go mX12_here 0 0 0 0 [(0, .ref 189)] [] (SK, M1, N) (fun r h' => ∃ M', h' = (SK, M', N) ∧ r = some (.int (hrI tf len s)) ∧ TapeR M' tf len s ∧ M' 189 14 = nI s ∧ Fr M M') := by
    intro u
    induction u with
    | zero =>
      intro p1 M1 hpu hs1 hT1 hF
      refine g_aload_n (j := 0) (pc' := 1) dX12_here_0 rfl rfl ?_
      refine g_getI (pc' := 4) dX12_here_1 fX12_112 rfl rfl rfl ?_
      refine g_top (y := nI p1) (hT1.2.1) ?_
      refine g_aload_n (j := 0) (pc' := 5) dX12_here_4 rfl rfl ?_
      refine g_getI (pc' := 8) dX12_here_5 fX12_108 rfl rfl rfl ?_
      refine g_top (y := nI len) (hT1.1) ?_
      refine g_icmp_ge (tgt := 38) (pc' := 11) dX12_here_8 (by decide) rfl (fun hc => ?_) (fun hc => (absurd (nI_le (a := len) (b := p1) (by omega) (by omega)) hc))
      exact fin p1 M1 (by omega) ((skB_stop (fun q => by omega)).symm.trans hs1) hT1 hF
    | succ u ih =>
      intro p1 M1 hpu hs1 hT1 hF
      refine g_aload_n (j := 0) (pc' := 1) dX12_here_0 rfl rfl ?_
      refine g_getI (pc' := 4) dX12_here_1 fX12_112 rfl rfl rfl ?_
      refine g_top (y := nI p1) (hT1.2.1) ?_
      refine g_aload_n (j := 0) (pc' := 5) dX12_here_4 rfl rfl ?_
      refine g_getI (pc' := 8) dX12_here_5 fX12_108 rfl rfl rfl ?_
      refine g_top (y := nI len) (hT1.1) ?_
      refine g_icmp_ge (tgt := 38) (pc' := 11) dX12_here_8 (by decide) rfl (fun hc => (absurd hc (nI_ge (a := p1) (b := len) (by omega) (by omega)))) (fun hc => ?_)
      refine g_aload_n (j := 0) (pc' := 12) dX12_here_11 rfl rfl ?_
      refine g_getR (pc' := 15) dX12_here_12 fX12_22 rfl rfl rfl ?_
      refine g_aload_n (j := 0) (pc' := 16) dX12_here_15 rfl rfl ?_
      refine g_getI (pc' := 19) dX12_here_16 fX12_112 rfl rfl rfl ?_
      refine g_top (y := nI p1) (hT1.2.1) ?_
      refine g_iald (n := p1) (pc' := 20) dX12_here_19 rfl rfl (by omega) rfl ?_
      refine g_top (y := nI (tf p1)) (hT1.2.2 p1 (by omega)) ?_
      have h128 := htf p1 (by omega)
      refine g_bipush (v := 32) (pc' := 22) dX12_here_20 (by decide) rfl ?_
      refine g_icmp_ne (tgt := 38) (pc' := 25) dX12_here_22 (by decide) rfl (fun hc5 => ?_) (fun hc5 => ?_)
      · exact fin p1 M1 (by omega) ((skB_stop (fun q => hc5 (by rw [q.2]; rfl))).symm.trans hs1) hT1 hF
      · have h32 : tf p1 = 32 := (nI_eq (b := 32) (by omega) (by omega)).mp hc5
        refine g_aload_n (j := 0) (pc' := 26) dX12_here_25 rfl rfl ?_
        refine g_dup (pc' := 27) dX12_here_26 rfl rfl ?_
        refine g_getI (pc' := 30) dX12_here_27 fX12_112 rfl rfl rfl ?_
        refine g_top (y := nI p1) (hT1.2.1) ?_
        refine g_iconst (v := 1) (pc' := 31) dX12_here_30 (by decide) rfl ?_
        refine g_iadd (pc' := 32) dX12_here_31 rfl ?_
        refine g_top (y := nI (p1 + 1)) (nI_1 p1) ?_
        refine g_putI (pc' := 35) dX12_here_32 fX12_112 rfl rfl ⟨rfl, rfl⟩ rfl ?_
        refine g_goto (tgt := 0) dX12_here_35 (by decide) ?_
        exact ih (p1 + 1) _ (by omega) ((skB_step (by omega) h32).symm.trans hs1) hT1.at (hF.up (Or.inl rfl))
  exact loop (len - p) p M (by omega) hs hT (Fr.refl M)
set_option maxRecDepth 100000 in
set_option maxHeartbeats 1000000 in
theorem s_isFig1 {v : Int32} {h : AH} (hv : ¬ (v < 48 ∨ 57 < v)) : Run mX12_isFigure 1 0 0 [.int v] h (fun r h' => h' = h ∧ r = some (.int 1)) := by
  refine Run.of (by decide) (Nat.le_of_ble_eq_true rfl) ?_
  obtain ⟨sk, M, N⟩ := h
  refine g_iload_n (j := 0) (pc' := 1) dX12_isFigure_0 rfl rfl ?_
  refine g_i2l (pc' := 2) dX12_isFigure_1 rfl ?_
  refine g_ldc2 (v := 48) (pc' := 5) dX12_isFigure_2 qX12_118 rfl ?_
  refine g_ldc2 (v := 57) (pc' := 8) dX12_isFigure_5 qX12_120 rfl ?_
  refine g_callS (my := mX12_in) (st := []) (av := [.long (Int32.toInt64 v), .long 48, .long 57]) (mcr := 0) (msr := 0) (mc := 0) (ms := 0) (pc' := 11) dX12_isFigure_8 kX12_in wX12_55 rfl (Nat.le_of_ble_eq_true rfl) (by decide) (r_in1 (lo := 48) (hi := 57) (by decide) (by decide) hv) rfl ?_
  rintro _ _ ⟨rfl, rfl⟩
  show Go mX12_isFigure _ _ _ 11 [(0, .int v)] [.int 1] (sk, M, N) _
  exact g_iret dX12_isFigure_11 rfl (by decide) (⟨rfl, rfl⟩)
set_option maxRecDepth 100000 in
set_option maxHeartbeats 1000000 in
theorem s_isFig0 {v : Int32} {h : AH} (hv : v < 48 ∨ 57 < v) : Run mX12_isFigure 1 0 0 [.int v] h (fun r h' => h' = h ∧ r = some (.int 0)) := by
  refine Run.of (by decide) (Nat.le_of_ble_eq_true rfl) ?_
  obtain ⟨sk, M, N⟩ := h
  refine g_iload_n (j := 0) (pc' := 1) dX12_isFigure_0 rfl rfl ?_
  refine g_i2l (pc' := 2) dX12_isFigure_1 rfl ?_
  refine g_ldc2 (v := 48) (pc' := 5) dX12_isFigure_2 qX12_118 rfl ?_
  refine g_ldc2 (v := 57) (pc' := 8) dX12_isFigure_5 qX12_120 rfl ?_
  refine g_callS (my := mX12_in) (st := []) (av := [.long (Int32.toInt64 v), .long 48, .long 57]) (mcr := 0) (msr := 0) (mc := 0) (ms := 0) (pc' := 11) dX12_isFigure_8 kX12_in wX12_55 rfl (Nat.le_of_ble_eq_true rfl) (by decide) (r_in0 (lo := 48) (hi := 57) (by decide) (by decide) hv) rfl ?_
  rintro _ _ ⟨rfl, rfl⟩
  show Go mX12_isFigure _ _ _ 11 [(0, .int v)] [.int 0] (sk, M, N) _
  exact g_iret dX12_isFigure_11 rfl (by decide) (⟨rfl, rfl⟩)
theorem not_fig {c : Nat} (h : c < 128) (h2 : ¬ (48 ≤ c ∧ c ≤ 57)) : nI c < 48 ∨ 57 < nI c := by
  by_cases e : c < 48
  · exact Or.inl (nI_lt (b := 48) e (by omega))
  · exact Or.inr (nI_lt (a := 57) (by omega) (by omega))
theorem is_fig {c : Nat} (h2 : 48 ≤ c ∧ c ≤ 57) : ¬ (nI c < 48 ∨ 57 < nI c) := rng2 (lo := 48) (hi := 57) h2.1 h2.2 (by omega)
/-- how a number, read to place wh, ends -/
def NumR (M : Nat → Nat → Int32) (N : Nat → Nat → Int64) (tf : Nat → Nat) (len wh : Nat) (e : Option Nat × Nat) : AQ := fun r h' => ∃ M', h' = (SK, M', N) ∧ Fr2 M M' ∧ match e.1 with
  | none => r = some (.int 0) ∧ M' 189 14 = nI e.2
  | some v => r = some (.int 1) ∧ TapeR M' tf len e.2 ∧ e.2 ≤ len ∧ ∀ j, M' 192 j = if j = wh then nI v else M 192 j
theorem rd_if {M M' : Nat → Nat → Int32} {wh : Nat} {v : Int32} (h : M' 192 = M 192) : ∀ j, um M' 192 wh v 192 j = if j = wh then v else M 192 j := by
  intro j
  by_cases e : j = wh
  · subst e; rw [um_at, if_pos rfl]
  · rw [um_at2 e, if_neg e, h]
set_option maxRecDepth 100000 in
set_option maxHeartbeats 1000000 in
theorem r_number {M : Nat → Nat → Int32} {N : Nat → Nat → Int64} {tf : Nat → Nat} {len p : Nat} (hl : len ≤ 80) (hp : p ≤ len) (htf : ∀ j, j < len → tf j < 128) (hT : TapeR M tf len p) {wh : Nat} (hwh : wh < 48) : Run mX12_number 2 0 0 [.ref 189, .int (nI wh)] (SK, M, N) (NumR M N tf len wh (pNum tf len p)) := by
  refine Run.of (by decide) (Nat.le_of_ble_eq_true rfl) ?_
  obtain ⟨s, hs⟩ : ∃ s, skB tf len p = s := ⟨_, rfl⟩
  have hsl : s ≤ len := by rw [← hs]; exact (skB_le hp).2
  refine g_aload_n (j := 0) (pc' := 1) dX12_number_0 rfl rfl ?_
  refine g_callV (my := mX12_here) (k := 189) (st := []) (av := []) (mcr := 0) (msr := 0) (mc := 0) (ms := 0) (pc' := 4) dX12_number_1 kX12_here wX12_122 rfl ⟨rfl, rfl⟩ rfl (Nat.le_of_ble_eq_true rfl) (by decide) (s_here hl hp htf hT hs) rfl ?_
  rintro _ _ ⟨M1, rfl, rfl, hT1, hw1, hF1⟩
  show Go mX12_number _ _ _ 4 [(0, .ref 189), (1, .int (nI wh))] [.int (hrI tf len s)] (SK, M1, N) _
  refine g_istore_n (L' := [(0, .ref 189), (1, .int (nI wh)), (2, .int (hrI tf len s))]) (pc' := 5) dX12_number_4 (by decide) rfl rfl ?_
  by_cases hlt : s < len
  · have h128 := htf s hlt
    rw [show hrI tf len s = nI (tf s) from if_pos hlt]
    by_cases hd : 48 ≤ tf s ∧ tf s ≤ 57
    · have hix : ixO 0 (tf s) = some (tf s - 48) := by rw [ix0 h128, if_pos hd]
      refine g_iload_n (j := 2) (pc' := 6) dX12_number_5 rfl rfl ?_
      refine g_callS (my := mX12_isFigure) (st := []) (av := [.int (nI (tf s))]) (mcr := 0) (msr := 0) (mc := 0) (ms := 0) (pc' := 9) dX12_number_6 kX12_isFigure wX12_126 rfl (Nat.le_of_ble_eq_true rfl) (by decide) (s_isFig1 (is_fig hd)) rfl ?_
      rintro _ _ ⟨rfl, rfl⟩
      show Go mX12_number _ _ _ 9 [(0, .ref 189), (1, .int (nI wh)), (2, .int (nI (tf s)))] [.int 1] (SK, M1, N) _
      refine g_if_ne (tgt := 14) (pc' := 12) dX12_number_9 (by decide) rfl (fun _ => ?_) (fun hc => absurd hc (by decide))
      refine g_iload_n (j := 2) (pc' := 15) dX12_number_14 rfl rfl ?_
      refine g_bipush (v := 48) (pc' := 17) dX12_number_15 (by decide) rfl ?_
      refine g_isub (pc' := 18) dX12_number_17 rfl ?_
      refine g_top (y := nI (tf s - 48)) (pk_sub (a := tf s) (b := 48) hd.1) ?_
      refine g_istore_n (L' := [(0, .ref 189), (1, .int (nI wh)), (2, .int (nI (tf s))), (3, .int (nI (tf s - 48)))]) (pc' := 19) dX12_number_18 (by decide) rfl rfl ?_
      refine g_aload_n (j := 0) (pc' := 20) dX12_number_19 rfl rfl ?_
      refine g_dup (pc' := 21) dX12_number_20 rfl rfl ?_
      refine g_getI (pc' := 24) dX12_number_21 fX12_112 rfl rfl rfl ?_
      refine g_top (y := nI s) (hT1.2.1) ?_
      refine g_iconst (v := 1) (pc' := 25) dX12_number_24 (by decide) rfl ?_
      refine g_iadd (pc' := 26) dX12_number_25 rfl ?_
      refine g_top (y := nI (s + 1)) (nI_1 s) ?_
      refine g_putI (pc' := 29) dX12_number_26 fX12_112 rfl rfl ⟨rfl, rfl⟩ rfl ?_
      have hT2 := hT1.at (q := s + 1)
      have hF2 := hF1.up (j := 13) (x := nI (s + 1)) (Or.inl rfl)
      have hw2 : um M1 189 13 (nI (s + 1)) 189 14 = nI s := by rw [um_at2 (by omega)]; exact hw1
      generalize hM2 : (um M1 189 13 (nI (s + 1))) = M2
      rw [hM2] at hT2 hF2 hw2
      refine g_aload_n (j := 0) (pc' := 30) dX12_number_29 rfl rfl ?_
      refine g_getI (pc' := 33) dX12_number_30 fX12_112 rfl rfl rfl ?_
      refine g_top (y := nI (s + 1)) (hT2.2.1) ?_
      refine g_aload_n (j := 0) (pc' := 34) dX12_number_33 rfl rfl ?_
      refine g_getI (pc' := 37) dX12_number_34 fX12_108 rfl rfl rfl ?_
      refine g_top (y := nI len) (hT2.1) ?_
      by_cases h1 : s + 1 < len
      · refine g_icmp_ge (tgt := 83) (pc' := 40) dX12_number_37 (by decide) rfl (fun hc => (absurd hc (nI_ge h1 (by omega)))) (fun hc => ?_)
        have h129 := htf (s + 1) h1
        refine g_aload_n (j := 0) (pc' := 41) dX12_number_40 rfl rfl ?_
        refine g_getR (pc' := 44) dX12_number_41 fX12_22 rfl rfl rfl ?_
        refine g_aload_n (j := 0) (pc' := 45) dX12_number_44 rfl rfl ?_
        refine g_getI (pc' := 48) dX12_number_45 fX12_112 rfl rfl rfl ?_
        refine g_top (y := nI (s + 1)) (hT2.2.1) ?_
        refine g_iald (n := s + 1) (pc' := 49) dX12_number_48 rfl rfl (by omega) rfl ?_
        refine g_top (y := nI (tf (s + 1))) (hT2.2.2 (s + 1) h1) ?_
        by_cases hd2 : 48 ≤ tf (s + 1) ∧ tf (s + 1) ≤ 57
        · refine g_callS (my := mX12_isFigure) (st := []) (av := [.int (nI (tf (s + 1)))]) (mcr := 0) (msr := 0) (mc := 0) (ms := 0) (pc' := 52) dX12_number_49 kX12_isFigure wX12_126 rfl (Nat.le_of_ble_eq_true rfl) (by decide) (s_isFig1 (is_fig hd2)) rfl ?_
          rintro _ _ ⟨rfl, rfl⟩
          show Go mX12_number _ _ _ 52 [(0, .ref 189), (1, .int (nI wh)), (2, .int (nI (tf s))), (3, .int (nI (tf s - 48)))] [.int 1] (SK, M2, N) _
          refine g_if_eq (tgt := 83) (pc' := 55) dX12_number_52 (by decide) rfl (fun hc => absurd hc (by decide)) (fun _ => ?_)
          refine g_bipush (v := 10) (pc' := 57) dX12_number_55 (by decide) rfl ?_
          refine g_iload_n (j := 3) (pc' := 58) dX12_number_57 rfl rfl ?_
          refine g_imul (pc' := 59) dX12_number_58 rfl ?_
          refine g_aload_n (j := 0) (pc' := 60) dX12_number_59 rfl rfl ?_
          refine g_getR (pc' := 63) dX12_number_60 fX12_22 rfl rfl rfl ?_
          refine g_aload_n (j := 0) (pc' := 64) dX12_number_63 rfl rfl ?_
          refine g_getI (pc' := 67) dX12_number_64 fX12_112 rfl rfl rfl ?_
          refine g_top (y := nI (s + 1)) (hT2.2.1) ?_
          refine g_iald (n := s + 1) (pc' := 68) dX12_number_67 rfl rfl (by omega) rfl ?_
          refine g_top (y := nI (tf (s + 1))) (hT2.2.2 (s + 1) h1) ?_
          refine g_iadd (pc' := 69) dX12_number_68 rfl ?_
          refine g_bipush (v := 48) (pc' := 71) dX12_number_69 (by decide) rfl ?_
          refine g_isub (pc' := 72) dX12_number_71 rfl ?_
          refine g_top (y := nI ((tf s - 48) * 10 + (tf (s + 1) - 48))) (by rw [show (10 : Int32) * nI (tf s - 48) = nI (10 * (tf s - 48)) from pk_mul 10 _, nI_add, show nI (10 * (tf s - 48) + tf (s + 1)) - 48 = nI (10 * (tf s - 48) + tf (s + 1) - 48) from pk_sub (b := 48) (by omega)]; congr 1; omega) ?_
          refine g_istore_n (L' := [(0, .ref 189), (1, .int (nI wh)), (2, .int (nI (tf s))), (3, .int (nI ((tf s - 48) * 10 + (tf (s + 1) - 48))))]) (pc' := 73) dX12_number_72 (by decide) rfl rfl ?_
          refine g_aload_n (j := 0) (pc' := 74) dX12_number_73 rfl rfl ?_
          refine g_dup (pc' := 75) dX12_number_74 rfl rfl ?_
          refine g_getI (pc' := 78) dX12_number_75 fX12_112 rfl rfl rfl ?_
          refine g_top (y := nI (s + 1)) (hT2.2.1) ?_
          refine g_iconst (v := 1) (pc' := 79) dX12_number_78 (by decide) rfl ?_
          refine g_iadd (pc' := 80) dX12_number_79 rfl ?_
          refine g_top (y := nI (s + 1 + 1)) (nI_1 _) ?_
          refine g_putI (pc' := 83) dX12_number_80 fX12_112 rfl rfl ⟨rfl, rfl⟩ rfl ?_
          have hT3 := hT2.at (q := s + 1 + 1)
          have hF3 := hF2.up (j := 13) (x := nI (s + 1 + 1)) (Or.inl rfl)
          have hw3 : um M2 189 13 (nI (s + 1 + 1)) 189 14 = nI s := by rw [um_at2 (by omega)]; exact hw2
          generalize hM3 : (um M2 189 13 (nI (s + 1 + 1))) = M3
          rw [hM3] at hT3 hF3 hw3
          refine g_aload_n (j := 0) (pc' := 84) dX12_number_83 rfl rfl ?_
          refine g_getR (pc' := 87) dX12_number_84 fX12_16 rfl rfl rfl ?_
          refine g_iload_n (j := 1) (pc' := 88) dX12_number_87 rfl rfl ?_
          refine g_iload_n (j := 3) (pc' := 89) dX12_number_88 rfl rfl ?_
          refine g_iast (n := wh) (pc' := 90) dX12_number_89 rfl rfl (by omega) rfl ?_
          have hw4 : um M3 192 wh (nI ((tf s - 48) * 10 + (tf (s + 1) - 48))) 189 14 = nI s := by rw [um_ne (by omega)]; exact hw3
          generalize hM4 : (um M3 192 wh (nI ((tf s - 48) * 10 + (tf (s + 1) - 48)))) = M4
          rw [hM4] at hw4
          refine g_iload_n (j := 3) (pc' := 91) dX12_number_90 rfl rfl ?_
          refine g_bipush (v := 20) (pc' := 93) dX12_number_91 (by decide) rfl ?_
          by_cases h20 : (tf s - 48) * 10 + (tf (s + 1) - 48) ≤ 20
          · rw [pNum_two hs hlt hix ⟨h1, hd2⟩ h20]
            refine g_icmp_gt (tgt := 100) (pc' := 96) dX12_number_93 (by decide) rfl (fun hc => (absurd hc (nI_nlt (a := 20) (b := (tf s - 48) * 10 + (tf (s + 1) - 48)) (by omega) (by omega)))) (fun hc => ?_)
            refine g_iconst (v := 1) (pc' := 97) dX12_number_96 (by decide) rfl ?_
            refine g_goto (tgt := 101) dX12_number_97 (by decide) ?_
            exact g_iret dX12_number_101 rfl (by decide) (⟨M4, rfl, by rw [← hM4]; exact hF3.two.rd, rfl, by rw [← hM4]; exact hT3.rd, h1, by rw [← hM4]; exact rd_if (hF3.2 192 (by omega))⟩)
          · rw [pNum_big hs hlt hix ⟨h1, hd2⟩ h20]
            refine g_icmp_gt (tgt := 100) (pc' := 96) dX12_number_93 (by decide) rfl (fun hc => ?_) (fun hc => (absurd (nI_lt (a := 20) (b := (tf s - 48) * 10 + (tf (s + 1) - 48)) (by omega) (by omega)) hc))
            refine g_iconst (v := 0) (pc' := 101) dX12_number_100 (by decide) rfl ?_
            exact g_iret dX12_number_101 rfl (by decide) (⟨M4, rfl, by rw [← hM4]; exact hF3.two.rd, rfl, hw4⟩)
        · refine g_callS (my := mX12_isFigure) (st := []) (av := [.int (nI (tf (s + 1)))]) (mcr := 0) (msr := 0) (mc := 0) (ms := 0) (pc' := 52) dX12_number_49 kX12_isFigure wX12_126 rfl (Nat.le_of_ble_eq_true rfl) (by decide) (s_isFig0 (not_fig h129 hd2)) rfl ?_
          rintro _ _ ⟨rfl, rfl⟩
          show Go mX12_number _ _ _ 52 [(0, .ref 189), (1, .int (nI wh)), (2, .int (nI (tf s))), (3, .int (nI (tf s - 48)))] [.int 0] (SK, M2, N) _
          refine g_if_eq (tgt := 83) (pc' := 55) dX12_number_52 (by decide) rfl (fun _ => ?_) (fun hc => absurd rfl hc)
          rw [pNum_one hs hlt hix (fun q => hd2 q.2)]
          refine g_aload_n (j := 0) (pc' := 84) dX12_number_83 rfl rfl ?_
          refine g_getR (pc' := 87) dX12_number_84 fX12_16 rfl rfl rfl ?_
          refine g_iload_n (j := 1) (pc' := 88) dX12_number_87 rfl rfl ?_
          refine g_iload_n (j := 3) (pc' := 89) dX12_number_88 rfl rfl ?_
          refine g_iast (n := wh) (pc' := 90) dX12_number_89 rfl rfl (by omega) rfl ?_
          generalize hM3 : (um M2 192 wh (nI (tf s - 48))) = M3
          refine g_iload_n (j := 3) (pc' := 91) dX12_number_90 rfl rfl ?_
          refine g_bipush (v := 20) (pc' := 93) dX12_number_91 (by decide) rfl ?_
          refine g_icmp_gt (tgt := 100) (pc' := 96) dX12_number_93 (by decide) rfl (fun hc => (absurd hc (nI_nlt (a := 20) (b := tf s - 48) (by omega) (by omega)))) (fun hc => ?_)
          refine g_iconst (v := 1) (pc' := 97) dX12_number_96 (by decide) rfl ?_
          refine g_goto (tgt := 101) dX12_number_97 (by decide) ?_
          exact g_iret dX12_number_101 rfl (by decide) (⟨M3, rfl, by rw [← hM3]; exact hF2.two.rd, rfl, by rw [← hM3]; exact hT2.rd, hlt, by rw [← hM3]; exact rd_if (hF2.2 192 (by omega))⟩)
      · refine g_icmp_ge (tgt := 83) (pc' := 40) dX12_number_37 (by decide) rfl (fun hc => ?_) (fun hc => (absurd (nI_le (a := len) (b := s + 1) (by omega) (by omega)) hc))
        rw [pNum_one hs hlt hix (fun q => h1 q.1)]
        refine g_aload_n (j := 0) (pc' := 84) dX12_number_83 rfl rfl ?_
        refine g_getR (pc' := 87) dX12_number_84 fX12_16 rfl rfl rfl ?_
        refine g_iload_n (j := 1) (pc' := 88) dX12_number_87 rfl rfl ?_
        refine g_iload_n (j := 3) (pc' := 89) dX12_number_88 rfl rfl ?_
        refine g_iast (n := wh) (pc' := 90) dX12_number_89 rfl rfl (by omega) rfl ?_
        generalize hM3 : (um M2 192 wh (nI (tf s - 48))) = M3
        refine g_iload_n (j := 3) (pc' := 91) dX12_number_90 rfl rfl ?_
        refine g_bipush (v := 20) (pc' := 93) dX12_number_91 (by decide) rfl ?_
        refine g_icmp_gt (tgt := 100) (pc' := 96) dX12_number_93 (by decide) rfl (fun hc => (absurd hc (nI_nlt (a := 20) (b := tf s - 48) (by omega) (by omega)))) (fun hc => ?_)
        refine g_iconst (v := 1) (pc' := 97) dX12_number_96 (by decide) rfl ?_
        refine g_goto (tgt := 101) dX12_number_97 (by decide) ?_
        exact g_iret dX12_number_101 rfl (by decide) (⟨M3, rfl, by rw [← hM3]; exact hF2.two.rd, rfl, by rw [← hM3]; exact hT2.rd, hlt, by rw [← hM3]; exact rd_if (hF2.2 192 (by omega))⟩)
    · have hix : ixO 0 (tf s) = none := by rw [ix0 h128, if_neg hd]
      rw [pNum_no hs hlt hix]
      refine g_iload_n (j := 2) (pc' := 6) dX12_number_5 rfl rfl ?_
      refine g_callS (my := mX12_isFigure) (st := []) (av := [.int (nI (tf s))]) (mcr := 0) (msr := 0) (mc := 0) (ms := 0) (pc' := 9) dX12_number_6 kX12_isFigure wX12_126 rfl (Nat.le_of_ble_eq_true rfl) (by decide) (s_isFig0 (not_fig h128 hd)) rfl ?_
      rintro _ _ ⟨rfl, rfl⟩
      show Go mX12_number _ _ _ 9 [(0, .ref 189), (1, .int (nI wh)), (2, .int (nI (tf s)))] [.int 0] (SK, M1, N) _
      refine g_if_ne (tgt := 14) (pc' := 12) dX12_number_9 (by decide) rfl (fun hc => absurd rfl hc) (fun _ => ?_)
      refine g_iconst (v := 0) (pc' := 13) dX12_number_12 (by decide) rfl ?_
      exact g_iret dX12_number_13 rfl (by decide) (⟨M1, rfl, hF1.two, rfl, hw1⟩)
  · rw [show hrI tf len s = -1 from if_neg hlt, pNum_end hs hlt]
    refine g_iload_n (j := 2) (pc' := 6) dX12_number_5 rfl rfl ?_
    refine g_callS (my := mX12_isFigure) (st := []) (av := [.int (-1)]) (mcr := 0) (msr := 0) (mc := 0) (ms := 0) (pc' := 9) dX12_number_6 kX12_isFigure wX12_126 rfl (Nat.le_of_ble_eq_true rfl) (by decide) (s_isFig0 (Or.inl (by decide))) rfl ?_
    rintro _ _ ⟨rfl, rfl⟩
    show Go mX12_number _ _ _ 9 [(0, .ref 189), (1, .int (nI wh)), (2, .int (-1))] [.int 0] (SK, M1, N) _
    refine g_if_ne (tgt := 14) (pc' := 12) dX12_number_9 (by decide) rfl (fun hc => absurd rfl hc) (fun _ => ?_)
    refine g_iconst (v := 0) (pc' := 13) dX12_number_12 (by decide) rfl ?_
    exact g_iret dX12_number_13 rfl (by decide) (⟨M1, rfl, hF1.two, rfl, hw1⟩)
