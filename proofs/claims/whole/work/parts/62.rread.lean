/-- how a sign ends -/
def SgnR (M : Nat → Nat → Int32) (N : Nat → Nat → Int64) (tf : Nat → Nat) (len : Nat) (e : Option Nat × Nat) : AQ := fun r h' => ∃ M', h' = (SK, M', N) ∧ Fr M M' ∧ match e.1 with
  | none => r = some (.int 0) ∧ M' 189 14 = nI e.2
  | some _ => r = some (.int 1) ∧ TapeR M' tf len e.2 ∧ e.2 ≤ len
set_option maxRecDepth 100000 in
set_option maxHeartbeats 1000000 in
theorem r_sign {M : Nat → Nat → Int32} {N : Nat → Nat → Int64} {tf : Nat → Nat} {len p : Nat} (hl : len ≤ 80) (hp : p ≤ len) (htf : ∀ j, j < len → tf j < 128) (hT : TapeR M tf len p) {c i : Nat} (hc128 : c < 128) (hi : ∀ x, x < 128 → ixO i x = if x = c then some 0 else none) : Run mX12_sign 1 0 0 [.ref 189, .int (nI c)] (SK, M, N) (SgnR M N tf len (pOne tf len i p)) := by
  refine Run.of (by decide) (Nat.le_of_ble_eq_true rfl) ?_
  obtain ⟨s, hs⟩ : ∃ s, skB tf len p = s := ⟨_, rfl⟩
  have hsl : s ≤ len := by rw [← hs]; exact (skB_le hp).2
  refine g_aload_n (j := 0) (pc' := 1) dX12_sign_0 rfl rfl ?_
  refine g_callV (my := mX12_here) (k := 189) (st := []) (av := []) (mcr := 0) (msr := 0) (mc := 0) (ms := 0) (pc' := 4) dX12_sign_1 kX12_here wX12_122 rfl ⟨rfl, rfl⟩ rfl (Nat.le_of_ble_eq_true rfl) (by decide) (s_here hl hp htf hT hs) rfl ?_
  rintro _ _ ⟨M1, rfl, rfl, hT1, hw1, hF1⟩
  show Go mX12_sign _ _ _ 4 [(0, .ref 189), (1, .int (nI c))] [.int (hrI tf len s)] (SK, M1, N) _
  by_cases hlt : s < len
  · have h128 := htf s hlt
    rw [show hrI tf len s = nI (tf s) from if_pos hlt]
    refine g_iload_n (j := 1) (pc' := 5) dX12_sign_4 rfl rfl ?_
    by_cases hd : tf s = c
    · have hix : ixO i (tf s) = some 0 := by rw [hi _ h128, if_pos hd]
      rw [pOne_yes hs hlt hix]
      refine g_icmp_eq (tgt := 10) (pc' := 8) dX12_sign_5 (by decide) rfl (fun hc => ?_) (fun hc => (absurd (by rw [hd]) hc))
      refine g_aload_n (j := 0) (pc' := 11) dX12_sign_10 rfl rfl ?_
      refine g_dup (pc' := 12) dX12_sign_11 rfl rfl ?_
      refine g_getI (pc' := 15) dX12_sign_12 fX12_112 rfl rfl rfl ?_
      refine g_top (y := nI s) (hT1.2.1) ?_
      refine g_iconst (v := 1) (pc' := 16) dX12_sign_15 (by decide) rfl ?_
      refine g_iadd (pc' := 17) dX12_sign_16 rfl ?_
      refine g_top (y := nI (s + 1)) (nI_1 s) ?_
      refine g_putI (pc' := 20) dX12_sign_17 fX12_112 rfl rfl ⟨rfl, rfl⟩ rfl ?_
      generalize hM2 : (um M1 189 13 (nI (s + 1))) = M2
      refine g_iconst (v := 1) (pc' := 21) dX12_sign_20 (by decide) rfl ?_
      exact g_iret dX12_sign_21 rfl (by decide) (⟨M2, rfl, by rw [← hM2]; exact hF1.up (Or.inl rfl), rfl, by rw [← hM2]; exact hT1.at, hlt⟩)
    · have hix : ixO i (tf s) = none := by rw [hi _ h128, if_neg hd]
      rw [pOne_no hs hlt hix]
      refine g_icmp_eq (tgt := 10) (pc' := 8) dX12_sign_5 (by decide) rfl (fun hc => (absurd ((nI_eq (by omega) (by omega)).mp hc) hd)) (fun hc => ?_)
      refine g_iconst (v := 0) (pc' := 9) dX12_sign_8 (by decide) rfl ?_
      exact g_iret dX12_sign_9 rfl (by decide) (⟨M1, rfl, hF1, rfl, hw1⟩)
  · rw [show hrI tf len s = -1 from if_neg hlt, pOne_end hs hlt]
    refine g_iload_n (j := 1) (pc' := 5) dX12_sign_4 rfl rfl ?_
    refine g_icmp_eq (tgt := 10) (pc' := 8) dX12_sign_5 (by decide) rfl (fun hc => (absurd hc.symm (nI_m1 (by omega)))) (fun hc => ?_)
    refine g_iconst (v := 0) (pc' := 9) dX12_sign_8 (by decide) rfl ?_
    exact g_iret dX12_sign_9 rfl (by decide) (⟨M1, rfl, hF1, rfl, hw1⟩)
theorem fig_in {c lo hi : Nat} (hc : c < 128) (hlo : lo ≤ 9) (hhi : hi ≤ 9) : (nI c - 48 < nI lo ∨ nI hi < nI c - 48) ↔ ¬ (lo + 48 ≤ c ∧ c ≤ hi + 48) := by
  have e : (nI c - 48).toInt = (c : Int) - 48 := pk_sub_toInt (a := c) (b := 48) (by omega) (by omega)
  rw [Int32.lt_iff_toInt_lt, Int32.lt_iff_toInt_lt, e, nI_toInt (by omega), nI_toInt (by omega)]
  omega
/-- how a figure, lo more than its place among the signs, read to place wh, ends -/
def FigR (M : Nat → Nat → Int32) (N : Nat → Nat → Int64) (tf : Nat → Nat) (len wh lo : Nat) (e : Option Nat × Nat) : AQ := fun r h' => ∃ M', h' = (SK, M', N) ∧ Fr2 M M' ∧ match e.1 with
  | none => r = some (.int 0) ∧ M' 189 14 = nI e.2
  | some v => r = some (.int 1) ∧ TapeR M' tf len e.2 ∧ e.2 ≤ len ∧ ∀ j, M' 192 j = if j = wh then nI (v + lo) else M 192 j
set_option maxRecDepth 100000 in
set_option maxHeartbeats 1000000 in
theorem r_figure {M : Nat → Nat → Int32} {N : Nat → Nat → Int64} {tf : Nat → Nat} {len p : Nat} (hl : len ≤ 80) (hp : p ≤ len) (htf : ∀ j, j < len → tf j < 128) (hT : TapeR M tf len p) {wh lo up i : Nat} (hwh : wh < 48) (hlo : lo ≤ 9) (hup : up ≤ 9) (hi : ∀ x, x < 128 → ixO i x = if lo + 48 ≤ x ∧ x ≤ up + 48 then some (x - 48 - lo) else none) : Run mX12_figure 1 0 0 [.ref 189, .int (nI wh), .int (nI lo), .int (nI up)] (SK, M, N) (FigR M N tf len wh lo (pOne tf len i p)) := by
  refine Run.of (by decide) (Nat.le_of_ble_eq_true rfl) ?_
  obtain ⟨s, hs⟩ : ∃ s, skB tf len p = s := ⟨_, rfl⟩
  have hsl : s ≤ len := by rw [← hs]; exact (skB_le hp).2
  refine g_aload_n (j := 0) (pc' := 1) dX12_figure_0 rfl rfl ?_
  refine g_callV (my := mX12_here) (k := 189) (st := []) (av := []) (mcr := 0) (msr := 0) (mc := 0) (ms := 0) (pc' := 4) dX12_figure_1 kX12_here wX12_122 rfl ⟨rfl, rfl⟩ rfl (Nat.le_of_ble_eq_true rfl) (by decide) (s_here hl hp htf hT hs) rfl ?_
  rintro _ _ ⟨M1, rfl, rfl, hT1, hw1, hF1⟩
  show Go mX12_figure _ _ _ 4 [(0, .ref 189), (1, .int (nI wh)), (2, .int (nI lo)), (3, .int (nI up))] [.int (hrI tf len s)] (SK, M1, N) _
  by_cases hlt : s < len
  · have h128 := htf s hlt
    rw [show hrI tf len s = nI (tf s) from if_pos hlt]
    refine g_bipush (v := 48) (pc' := 6) dX12_figure_4 (by decide) rfl ?_
    refine g_isub (pc' := 7) dX12_figure_6 rfl ?_
    refine g_istore (L' := [(0, .ref 189), (1, .int (nI wh)), (2, .int (nI lo)), (3, .int (nI up)), (4, .int ((nI (tf s)) - 48))]) (pc' := 9) dX12_figure_7 (by decide) rfl rfl ?_
    by_cases hd : lo + 48 ≤ tf s ∧ tf s ≤ up + 48
    · have hix : ixO i (tf s) = some (tf s - 48 - lo) := by rw [hi _ h128, if_pos hd]
      rw [pOne_yes hs hlt hix]
      refine g_iload (j := 4) (pc' := 11) dX12_figure_9 rfl rfl ?_
      refine g_i2l (pc' := 12) dX12_figure_11 rfl ?_
      refine g_iload_n (j := 2) (pc' := 13) dX12_figure_12 rfl rfl ?_
      refine g_i2l (pc' := 14) dX12_figure_13 rfl ?_
      refine g_iload_n (j := 3) (pc' := 15) dX12_figure_14 rfl rfl ?_
      refine g_i2l (pc' := 16) dX12_figure_15 rfl ?_
      refine g_callS (my := mX12_in) (st := []) (av := [.long (Int32.toInt64 ((nI (tf s)) - 48)), .long (Int32.toInt64 (nI lo)), .long (Int32.toInt64 (nI up))]) (mcr := 0) (msr := 0) (mc := 0) (ms := 0) (pc' := 19) dX12_figure_16 kX12_in wX12_55 rfl (Nat.le_of_ble_eq_true rfl) (by decide) (r_in1 (lo := nI lo) (hi := nI up) rfl rfl (fun q => (fig_in h128 hlo hup).mp q hd)) rfl ?_
      rintro _ _ ⟨rfl, rfl⟩
      show Go mX12_figure _ _ _ 19 [(0, .ref 189), (1, .int (nI wh)), (2, .int (nI lo)), (3, .int (nI up)), (4, .int ((nI (tf s)) - 48))] [.int 1] (SK, M1, N) _
      refine g_if_ne (tgt := 24) (pc' := 22) dX12_figure_19 (by decide) rfl (fun _ => ?_) (fun hc => absurd hc (by decide))
      refine g_aload_n (j := 0) (pc' := 25) dX12_figure_24 rfl rfl ?_
      refine g_getR (pc' := 28) dX12_figure_25 fX12_16 rfl rfl rfl ?_
      refine g_iload_n (j := 1) (pc' := 29) dX12_figure_28 rfl rfl ?_
      refine g_iload (j := 4) (pc' := 31) dX12_figure_29 rfl rfl ?_
      refine g_top (y := nI (tf s - 48 - lo + lo)) (by rw [show nI (tf s) - 48 = nI (tf s - 48) from pk_sub (b := 48) (by omega)]; congr 1; omega) ?_
      refine g_iast (n := wh) (pc' := 32) dX12_figure_31 rfl rfl (by omega) rfl ?_
      generalize hM2 : (um M1 192 wh (nI (tf s - 48 - lo + lo))) = M2
      have hT2 : TapeR M2 tf len s := by rw [← hM2]; exact hT1.rd
      have hF2 : Fr2 M M2 := by rw [← hM2]; exact hF1.two.rd
      refine g_aload_n (j := 0) (pc' := 33) dX12_figure_32 rfl rfl ?_
      refine g_dup (pc' := 34) dX12_figure_33 rfl rfl ?_
      refine g_getI (pc' := 37) dX12_figure_34 fX12_112 rfl rfl rfl ?_
      refine g_top (y := nI s) (hT2.2.1) ?_
      refine g_iconst (v := 1) (pc' := 38) dX12_figure_37 (by decide) rfl ?_
      refine g_iadd (pc' := 39) dX12_figure_38 rfl ?_
      refine g_top (y := nI (s + 1)) (nI_1 s) ?_
      refine g_putI (pc' := 42) dX12_figure_39 fX12_112 rfl rfl ⟨rfl, rfl⟩ rfl ?_
      generalize hM3 : (um M2 189 13 (nI (s + 1))) = M3
      refine g_iconst (v := 1) (pc' := 43) dX12_figure_42 (by decide) rfl ?_
      exact g_iret dX12_figure_43 rfl (by decide) (⟨M3, rfl, by rw [← hM3]; exact hF2.up (Or.inl rfl), rfl, by rw [← hM3]; exact hT2.at, hlt, fun j => by rw [← hM3, um_ne (by omega), ← hM2]; exact rd_if (hF1.2 192 (by omega)) j⟩)
    · have hix : ixO i (tf s) = none := by rw [hi _ h128, if_neg hd]
      rw [pOne_no hs hlt hix]
      refine g_iload (j := 4) (pc' := 11) dX12_figure_9 rfl rfl ?_
      refine g_i2l (pc' := 12) dX12_figure_11 rfl ?_
      refine g_iload_n (j := 2) (pc' := 13) dX12_figure_12 rfl rfl ?_
      refine g_i2l (pc' := 14) dX12_figure_13 rfl ?_
      refine g_iload_n (j := 3) (pc' := 15) dX12_figure_14 rfl rfl ?_
      refine g_i2l (pc' := 16) dX12_figure_15 rfl ?_
      refine g_callS (my := mX12_in) (st := []) (av := [.long (Int32.toInt64 ((nI (tf s)) - 48)), .long (Int32.toInt64 (nI lo)), .long (Int32.toInt64 (nI up))]) (mcr := 0) (msr := 0) (mc := 0) (ms := 0) (pc' := 19) dX12_figure_16 kX12_in wX12_55 rfl (Nat.le_of_ble_eq_true rfl) (by decide) (r_in0 (lo := nI lo) (hi := nI up) rfl rfl ((fig_in h128 hlo hup).mpr hd)) rfl ?_
      rintro _ _ ⟨rfl, rfl⟩
      show Go mX12_figure _ _ _ 19 [(0, .ref 189), (1, .int (nI wh)), (2, .int (nI lo)), (3, .int (nI up)), (4, .int ((nI (tf s)) - 48))] [.int 0] (SK, M1, N) _
      refine g_if_ne (tgt := 24) (pc' := 22) dX12_figure_19 (by decide) rfl (fun hc => absurd rfl hc) (fun _ => ?_)
      refine g_iconst (v := 0) (pc' := 23) dX12_figure_22 (by decide) rfl ?_
      exact g_iret dX12_figure_23 rfl (by decide) (⟨M1, rfl, hF1.two, rfl, hw1⟩)
  · rw [show hrI tf len s = -1 from if_neg hlt, pOne_end hs hlt]
    refine g_bipush (v := 48) (pc' := 6) dX12_figure_4 (by decide) rfl ?_
    refine g_isub (pc' := 7) dX12_figure_6 rfl ?_
    refine g_istore (L' := [(0, .ref 189), (1, .int (nI wh)), (2, .int (nI lo)), (3, .int (nI up)), (4, .int ((-1) - 48))]) (pc' := 9) dX12_figure_7 (by decide) rfl rfl ?_
    refine g_iload (j := 4) (pc' := 11) dX12_figure_9 rfl rfl ?_
    refine g_i2l (pc' := 12) dX12_figure_11 rfl ?_
    refine g_iload_n (j := 2) (pc' := 13) dX12_figure_12 rfl rfl ?_
    refine g_i2l (pc' := 14) dX12_figure_13 rfl ?_
    refine g_iload_n (j := 3) (pc' := 15) dX12_figure_14 rfl rfl ?_
    refine g_i2l (pc' := 16) dX12_figure_15 rfl ?_
    refine g_callS (my := mX12_in) (st := []) (av := [.long (Int32.toInt64 ((-1) - 48)), .long (Int32.toInt64 (nI lo)), .long (Int32.toInt64 (nI up))]) (mcr := 0) (msr := 0) (mc := 0) (ms := 0) (pc' := 19) dX12_figure_16 kX12_in wX12_55 rfl (Nat.le_of_ble_eq_true rfl) (by decide) (r_in0 (lo := nI lo) (hi := nI up) rfl rfl (Or.inl (by rw [Int32.lt_iff_toInt_lt, nI_toInt (by omega), show ((-1 : Int32) - 48).toInt = -49 by decide]; omega))) rfl ?_
    rintro _ _ ⟨rfl, rfl⟩
    show Go mX12_figure _ _ _ 19 [(0, .ref 189), (1, .int (nI wh)), (2, .int (nI lo)), (3, .int (nI up)), (4, .int ((-1) - 48))] [.int 0] (SK, M1, N) _
    refine g_if_ne (tgt := 24) (pc' := 22) dX12_figure_19 (by decide) rfl (fun hc => absurd rfl hc) (fun _ => ?_)
    refine g_iconst (v := 0) (pc' := 23) dX12_figure_22 (by decide) rfl ?_
    exact g_iret dX12_figure_23 rfl (by decide) (⟨M1, rfl, hF1.two, rfl, hw1⟩)
def kndI (v : Int32) : Int32 := if v = 112 then 0 else if v = 114 then 1 else if v = 111 then 2 else if v = 104 then 3 else if v = 100 then 4 else -1
theorem kndF : ∀ x : Fin 128, kndI (nI x) = optI (-1) (ixO 2 x) := by decide +kernel
theorem knd {x : Nat} (h : x < 128) : kndI (nI x) = optI (-1) (ixO 2 x) := kndF ⟨x, h⟩
set_option maxRecDepth 100000 in
set_option maxHeartbeats 1000000 in
theorem s_kindOf (v : Int32) (h : AH) : Run mX12_kindOf 0 0 0 [.int v] h (fun r h' => h' = h ∧ r = some (.int (kndI v))) := by
  refine Run.of (by decide) (Nat.le_of_ble_eq_true rfl) ?_
  obtain ⟨sk, M, N⟩ := h
  unfold kndI
  refine g_iload_n (j := 0) (pc' := 1) dX12_kindOf_0 rfl rfl ?_
  refine g_bipush (v := 112) (pc' := 3) dX12_kindOf_1 (by decide) rfl ?_
  refine g_icmp_ne (tgt := 10) (pc' := 6) dX12_kindOf_3 (by decide) rfl (fun hc0 => ?_) (fun hc0 => ?_)
  · rw [if_neg hc0]
    refine g_iload_n (j := 0) (pc' := 11) dX12_kindOf_10 rfl rfl ?_
    refine g_bipush (v := 114) (pc' := 13) dX12_kindOf_11 (by decide) rfl ?_
    refine g_icmp_ne (tgt := 20) (pc' := 16) dX12_kindOf_13 (by decide) rfl (fun hc1 => ?_) (fun hc1 => ?_)
    · rw [if_neg hc1]
      refine g_iload_n (j := 0) (pc' := 21) dX12_kindOf_20 rfl rfl ?_
      refine g_bipush (v := 111) (pc' := 23) dX12_kindOf_21 (by decide) rfl ?_
      refine g_icmp_ne (tgt := 30) (pc' := 26) dX12_kindOf_23 (by decide) rfl (fun hc2 => ?_) (fun hc2 => ?_)
      · rw [if_neg hc2]
        refine g_iload_n (j := 0) (pc' := 31) dX12_kindOf_30 rfl rfl ?_
        refine g_bipush (v := 104) (pc' := 33) dX12_kindOf_31 (by decide) rfl ?_
        refine g_icmp_ne (tgt := 40) (pc' := 36) dX12_kindOf_33 (by decide) rfl (fun hc3 => ?_) (fun hc3 => ?_)
        · rw [if_neg hc3]
          refine g_iload_n (j := 0) (pc' := 41) dX12_kindOf_40 rfl rfl ?_
          refine g_bipush (v := 100) (pc' := 43) dX12_kindOf_41 (by decide) rfl ?_
          refine g_icmp_ne (tgt := 50) (pc' := 46) dX12_kindOf_43 (by decide) rfl (fun hc4 => ?_) (fun hc4 => ?_)
          · rw [if_neg hc4]
            refine g_iconst (v := (-1)) (pc' := 51) dX12_kindOf_50 (by decide) rfl ?_
            exact g_iret dX12_kindOf_51 rfl rfl (⟨rfl, rfl⟩)
          · rw [if_pos hc4]
            refine g_iconst (v := 4) (pc' := 47) dX12_kindOf_46 (by decide) rfl ?_
            refine g_goto (tgt := 51) dX12_kindOf_47 (by decide) ?_
            exact g_iret dX12_kindOf_51 rfl rfl (⟨rfl, rfl⟩)
        · rw [if_pos hc3]
          refine g_iconst (v := 3) (pc' := 37) dX12_kindOf_36 (by decide) rfl ?_
          refine g_goto (tgt := 51) dX12_kindOf_37 (by decide) ?_
          exact g_iret dX12_kindOf_51 rfl rfl (⟨rfl, rfl⟩)
      · rw [if_pos hc2]
        refine g_iconst (v := 2) (pc' := 27) dX12_kindOf_26 (by decide) rfl ?_
        refine g_goto (tgt := 51) dX12_kindOf_27 (by decide) ?_
        exact g_iret dX12_kindOf_51 rfl rfl (⟨rfl, rfl⟩)
    · rw [if_pos hc1]
      refine g_iconst (v := 1) (pc' := 17) dX12_kindOf_16 (by decide) rfl ?_
      refine g_goto (tgt := 51) dX12_kindOf_17 (by decide) ?_
      exact g_iret dX12_kindOf_51 rfl rfl (⟨rfl, rfl⟩)
  · rw [if_pos hc0]
    refine g_iconst (v := 0) (pc' := 7) dX12_kindOf_6 (by decide) rfl ?_
    refine g_goto (tgt := 51) dX12_kindOf_7 (by decide) ?_
    exact g_iret dX12_kindOf_51 rfl rfl (⟨rfl, rfl⟩)
theorem fig0 : ∀ x, x < 128 → ixO 0 x = if 0 + 48 ≤ x ∧ x ≤ 9 + 48 then some (x - 48 - 0) else none := fun x h => by
  rw [ix0 h]
  by_cases e : 48 ≤ x ∧ x ≤ 57
  · rw [if_pos e, if_pos (by omega)]; rfl
  · rw [if_neg e, if_neg (by omega)]
theorem fig3 : ∀ x, x < 128 → ixO 3 x = if 1 + 48 ≤ x ∧ x ≤ 4 + 48 then some (x - 48 - 1) else none := fun x h => by
  rw [ix3 h]
  by_cases e : 49 ≤ x ∧ x ≤ 52
  · rw [if_pos e, if_pos (by omega)]; congr 1
  · rw [if_neg e, if_neg (by omega)]
theorem ixO_lt2 {i q v b : Nat} (h : ixO i q = some v) (hb : slen.getD i 0 = b) : v < b := by
  have := (firstIx_lt h).2.1
  omega
def ManR (M : Nat → Nat → Int32) (N : Nat → Nat → Int64) (tf : Nat → Nat) (len n : Nat) (P : Nat → Int32) (e : Option (Nat × Nat × Nat) × Nat) : AQ := fun r h' => ∃ M', h' = (SK, M', N) ∧ Fr2 M M' ∧ match e.1 with
  | none => r = some (.int 0) ∧ M' 189 14 = nI e.2
  | some t => r = some (.int 1) ∧ TapeR M' tf len e.2 ∧ e.2 ≤ len ∧ ∀ j, j < 48 → M' 192 j = manP P n (nI t.1) (nI t.2.1) (nI (t.2.2 + 1)) j
def NamR (M : Nat → Nat → Int32) (N : Nat → Nat → Int64) (tf : Nat → Nat) (len k : Nat) (P : Nat → Int32) (e : Option (Nat × Nat) × Nat) : AQ := fun r h' => ∃ M', h' = (SK, M', N) ∧ Fr2 M M' ∧ match e.1 with
  | none => r = some (.int 0) ∧ M' 189 14 = nI e.2
  | some t => r = some (.int 1) ∧ TapeR M' tf len e.2 ∧ e.2 ≤ len ∧ ∀ j, j < 48 → M' 192 j = nameP P k (nI t.1) (nI t.2) j
set_option maxRecDepth 100000 in
set_option maxHeartbeats 1000000 in
theorem r_readsMan {M : Nat → Nat → Int32} {N : Nat → Nat → Int64} {tf : Nat → Nat} {len p : Nat} (hl : len ≤ 80) (hp : p ≤ len) (htf : ∀ j, j < len → tf j < 128) (hT : TapeR M tf len p) {n : Nat} {P : Nat → Int32} (hn6 : n < 6) (h0 : P 0 = nI n) (hR : ∀ j, j < 48 → M 192 j = P j) : Run mX12_readsMan 3 0 0 [.ref 189] (SK, M, N) (ManR M N tf len n P (pMan tf len p)) := by
  refine Run.of (by decide) (Nat.le_of_ble_eq_true rfl) ?_
  obtain ⟨s, hs⟩ : ∃ s, skB tf len p = s := ⟨_, rfl⟩
  have hsl : s ≤ len := by rw [← hs]; exact (skB_le hp).2
  refine g_aload_n (j := 0) (pc' := 1) dX12_readsMan_0 rfl rfl ?_
  refine g_getR (pc' := 4) dX12_readsMan_1 fX12_16 rfl rfl rfl ?_
  refine g_iconst (v := 0) (pc' := 5) dX12_readsMan_4 (by decide) rfl ?_
  refine g_iald (n := 0) (pc' := 6) dX12_readsMan_5 rfl rfl (by omega) rfl ?_
  refine g_top (y := nI n) ((hR 0 (by omega)).trans h0) ?_
  refine g_istore_n (L' := [(0, .ref 189), (1, .int (nI n))]) (pc' := 7) dX12_readsMan_6 (by decide) rfl rfl ?_
  refine g_aload_n (j := 0) (pc' := 8) dX12_readsMan_7 rfl rfl ?_
  refine g_callV (my := mX12_here) (k := 189) (st := []) (av := []) (mcr := 0) (msr := 0) (mc := 0) (ms := 0) (pc' := 11) dX12_readsMan_8 kX12_here wX12_122 rfl ⟨rfl, rfl⟩ rfl (Nat.le_of_ble_eq_true rfl) (by decide) (s_here hl hp htf hT hs) rfl ?_
  rintro _ _ ⟨M1, rfl, rfl, hT1, hw1, hF1⟩
  show Go mX12_readsMan _ _ _ 11 [(0, .ref 189), (1, .int (nI n))] [.int (hrI tf len s)] (SK, M1, N) _
  have hR1 : ∀ j, j < 48 → M1 192 j = P j := fun j hj => by rw [hF1.2 192 (by omega)]; exact hR j hj
  refine g_callS (my := mX12_kindOf) (st := []) (av := [.int (hrI tf len s)]) (mcr := 0) (msr := 0) (mc := 0) (ms := 0) (pc' := 14) dX12_readsMan_11 kX12_kindOf wX12_129 rfl (Nat.le_of_ble_eq_true rfl) (by decide) (s_kindOf (hrI tf len s) (SK, M1, N)) rfl ?_
  rintro _ _ ⟨rfl, rfl⟩
  show Go mX12_readsMan _ _ _ 14 [(0, .ref 189), (1, .int (nI n))] [.int (kndI (hrI tf len s))] (SK, M1, N) _
  refine g_istore_n (L' := [(0, .ref 189), (1, .int (nI n)), (2, .int (kndI (hrI tf len s)))]) (pc' := 15) dX12_readsMan_14 (by decide) rfl rfl ?_
  by_cases hlt : s < len
  · have h128 := htf s hlt
    rw [show hrI tf len s = nI (tf s) from if_pos hlt, knd h128]
    cases hix : ixO 2 (tf s) with
    | none =>
      rw [show pMan tf len p = (none, s) by unfold pMan; rw [pOne_no hs hlt hix]]
      show Go mX12_readsMan _ _ _ 15 [(0, .ref 189), (1, .int (nI n)), (2, .int (-1))] [] (SK, M1, N) _
      refine g_iload_n (j := 2) (pc' := 16) dX12_readsMan_15 rfl rfl ?_
      refine g_if_ge (tgt := 21) (pc' := 19) dX12_readsMan_16 (by decide) rfl (fun hc => (absurd hc (by decide))) (fun hc => ?_)
      refine g_iconst (v := 0) (pc' := 20) dX12_readsMan_19 (by decide) rfl ?_
      exact g_iret dX12_readsMan_20 rfl (by decide) (⟨M1, rfl, hF1.two, rfl, hw1⟩)
    | some a =>
      have ha5 := ixO_lt2 hix (b := 5) (by decide)
      have hp1 := pOne_yes hs hlt hix
      show Go mX12_readsMan _ _ _ 15 [(0, .ref 189), (1, .int (nI n)), (2, .int (nI a))] [] (SK, M1, N) _
      refine g_iload_n (j := 2) (pc' := 16) dX12_readsMan_15 rfl rfl ?_
      refine g_if_ge (tgt := 21) (pc' := 19) dX12_readsMan_16 (by decide) rfl (fun hc => ?_) (fun hc => (absurd (nI_pos' (by omega)) hc))
      refine g_aload_n (j := 0) (pc' := 22) dX12_readsMan_21 rfl rfl ?_
      refine g_dup (pc' := 23) dX12_readsMan_22 rfl rfl ?_
      refine g_getI (pc' := 26) dX12_readsMan_23 fX12_112 rfl rfl rfl ?_
      refine g_top (y := nI s) (hT1.2.1) ?_
      refine g_iconst (v := 1) (pc' := 27) dX12_readsMan_26 (by decide) rfl ?_
      refine g_iadd (pc' := 28) dX12_readsMan_27 rfl ?_
      refine g_top (y := nI (s + 1)) (nI_1 s) ?_
      refine g_putI (pc' := 31) dX12_readsMan_28 fX12_112 rfl rfl ⟨rfl, rfl⟩ rfl ?_
      refine g_aload_n (j := 0) (pc' := 32) dX12_readsMan_31 rfl rfl ?_
      refine g_getR (pc' := 35) dX12_readsMan_32 fX12_16 rfl rfl rfl ?_
      refine g_iconst (v := 4) (pc' := 36) dX12_readsMan_35 (by decide) rfl ?_
      refine g_iload_n (j := 1) (pc' := 37) dX12_readsMan_36 rfl rfl ?_
      refine g_iadd (pc' := 38) dX12_readsMan_37 rfl ?_
      refine g_iload_n (j := 2) (pc' := 39) dX12_readsMan_38 rfl rfl ?_
      refine g_iast (n := 4 + n) (pc' := 40) dX12_readsMan_39 rfl (nI_addE rfl rfl) (by omega) rfl ?_
      refine g_aload_n (j := 0) (pc' := 41) dX12_readsMan_40 rfl rfl ?_
      refine g_getR (pc' := 44) dX12_readsMan_41 fX12_16 rfl rfl rfl ?_
      refine g_iconst (v := 0) (pc' := 45) dX12_readsMan_44 (by decide) rfl ?_
      refine g_dup2 (pc' := 46) dX12_readsMan_45 rfl rfl rfl ?_
      refine g_iald (n := 0) (pc' := 47) dX12_readsMan_46 rfl rfl (by omega) rfl ?_
      refine g_top (y := nI n) (by simp (disch := omega) only [um_ne, um_at, um_at2]; exact (hR1 0 (by omega)).trans h0) ?_
      refine g_iconst (v := 1) (pc' := 48) dX12_readsMan_47 (by decide) rfl ?_
      refine g_iadd (pc' := 49) dX12_readsMan_48 rfl ?_
      refine g_top (y := nI (n + 1)) (nI_1 n) ?_
      refine g_iast (n := 0) (pc' := 50) dX12_readsMan_49 rfl rfl (by omega) rfl ?_
      generalize hM2 : (um (um (um M1 189 13 (nI (s + 1))) 192 (4 + n) (nI a)) 192 0 (nI (n + 1))) = M2
      have hT2 : TapeR M2 tf len (s + 1) := by rw [← hM2]; exact hT1.at.rd.rd
      have hF2 : Fr2 M M2 := by rw [← hM2]; exact ((hF1.up (Or.inl rfl)).two.rd).rd
      have hR2 : ∀ j, j < 48 → M2 192 j = upP (upP P 0 (nI (n + 1))) (4 + n) (nI a) j := fun j hj => by
        rw [← hM2]
        by_cases e0 : j = 0
        · subst e0; rw [um_at, upP_ne (by omega), upP_at]
        · rw [um_at2 e0]
          by_cases e4 : j = 4 + n
          · subst e4; rw [um_at, upP_at]
          · rw [um_at2 e4, upP_ne e4, upP_ne e0, um_ne (by omega)]; exact hR1 j hj
      refine g_aload_n (j := 0) (pc' := 51) dX12_readsMan_50 rfl rfl ?_
      refine g_bipush (v := 10) (pc' := 53) dX12_readsMan_51 (by decide) rfl ?_
      refine g_iload_n (j := 1) (pc' := 54) dX12_readsMan_53 rfl rfl ?_
      refine g_iadd (pc' := 55) dX12_readsMan_54 rfl ?_
      refine g_top (y := nI (10 + n)) (nI_add 10 n) ?_
      refine g_iconst (v := 0) (pc' := 56) dX12_readsMan_55 (by decide) rfl ?_
      refine g_bipush (v := 9) (pc' := 58) dX12_readsMan_56 (by decide) rfl ?_
      cases heA : pOne tf len 0 (s + 1) with
      | mk o q1 =>
        cases o with
        | none =>
          have hcall := r_figure (N := N) hl (by omega) htf hT2 (wh := 10 + n) (lo := 0) (up := 9) (i := 0) (by omega) (by omega) (by omega) fig0
          rw [heA] at hcall
          refine g_callV (my := mX12_figure) (k := 189) (st := []) (av := [.int (nI (10 + n)), .int 0, .int 9]) (mcr := 0) (msr := 0) (mc := 0) (ms := 0) (pc' := 61) dX12_readsMan_58 kX12_figure wX12_132 rfl ⟨rfl, rfl⟩ rfl (Nat.le_of_ble_eq_true rfl) (by decide) (hcall) rfl ?_
          rintro _ _ ⟨M3, rfl, hFA, rfl, hwA⟩
          show Go mX12_readsMan _ _ _ 61 [(0, .ref 189), (1, .int (nI n)), (2, .int (nI a))] [.int 0] (SK, M3, N) _
          refine g_if_eq (tgt := 81) (pc' := 64) dX12_readsMan_61 (by decide) rfl (fun _ => ?_) (fun hc => absurd rfl hc)
          rw [show pMan tf len p = (none, q1) by unfold pMan; rw [hp1]; dsimp only; rw [heA]]
          refine g_iconst (v := 0) (pc' := 82) dX12_readsMan_81 (by decide) rfl ?_
          exact g_iret dX12_readsMan_82 rfl (by decide) (⟨M3, rfl, hF2.trans hFA, rfl, hwA⟩)
        | some vA =>
          have hcall := r_figure (N := N) hl (by omega) htf hT2 (wh := 10 + n) (lo := 0) (up := 9) (i := 0) (by omega) (by omega) (by omega) fig0
          rw [heA] at hcall
          refine g_callV (my := mX12_figure) (k := 189) (st := []) (av := [.int (nI (10 + n)), .int 0, .int 9]) (mcr := 0) (msr := 0) (mc := 0) (ms := 0) (pc' := 61) dX12_readsMan_58 kX12_figure wX12_132 rfl ⟨rfl, rfl⟩ rfl (Nat.le_of_ble_eq_true rfl) (by decide) (hcall) rfl ?_
          rintro _ _ ⟨M3, rfl, hFA, rfl, hTA, hqA, hrA⟩
          show Go mX12_readsMan _ _ _ 61 [(0, .ref 189), (1, .int (nI n)), (2, .int (nI a))] [.int 1] (SK, M3, N) _
          refine g_if_eq (tgt := 81) (pc' := 64) dX12_readsMan_61 (by decide) rfl (fun hc => absurd hc (by decide)) (fun _ => ?_)
          dsimp only at hqA hTA
          have hvb := pOne_b heA 10 (by decide)
          refine g_aload_n (j := 0) (pc' := 65) dX12_readsMan_64 rfl rfl ?_
          refine g_bipush (v := 16) (pc' := 67) dX12_readsMan_65 (by decide) rfl ?_
          refine g_iload_n (j := 1) (pc' := 68) dX12_readsMan_67 rfl rfl ?_
          refine g_iadd (pc' := 69) dX12_readsMan_68 rfl ?_
          refine g_top (y := nI (16 + n)) (nI_add 16 n) ?_
          refine g_iconst (v := 1) (pc' := 70) dX12_readsMan_69 (by decide) rfl ?_
          refine g_iconst (v := 4) (pc' := 71) dX12_readsMan_70 (by decide) rfl ?_
          cases heB : pOne tf len 3 q1 with
          | mk o q =>
            cases o with
            | none =>
              have hcall := r_figure (N := N) hl (by omega) htf hTA (wh := 16 + n) (lo := 1) (up := 4) (i := 3) (by omega) (by omega) (by omega) fig3
              rw [heB] at hcall
              refine g_callV (my := mX12_figure) (k := 189) (st := []) (av := [.int (nI (16 + n)), .int 1, .int 4]) (mcr := 0) (msr := 0) (mc := 0) (ms := 0) (pc' := 74) dX12_readsMan_71 kX12_figure wX12_132 rfl ⟨rfl, rfl⟩ rfl (Nat.le_of_ble_eq_true rfl) (by decide) (hcall) rfl ?_
              rintro _ _ ⟨M4, rfl, hFB, rfl, hwB⟩
              show Go mX12_readsMan _ _ _ 74 [(0, .ref 189), (1, .int (nI n)), (2, .int (nI a))] [.int 0] (SK, M4, N) _
              refine g_if_eq (tgt := 81) (pc' := 77) dX12_readsMan_74 (by decide) rfl (fun _ => ?_) (fun hc => absurd rfl hc)
              rw [show pMan tf len p = (none, q) by unfold pMan; rw [hp1]; dsimp only; rw [heA]; dsimp only; rw [heB]]
              refine g_iconst (v := 0) (pc' := 82) dX12_readsMan_81 (by decide) rfl ?_
              exact g_iret dX12_readsMan_82 rfl (by decide) (⟨M4, rfl, (hF2.trans hFA).trans hFB, rfl, hwB⟩)
            | some vB =>
              have hcall := r_figure (N := N) hl (by omega) htf hTA (wh := 16 + n) (lo := 1) (up := 4) (i := 3) (by omega) (by omega) (by omega) fig3
              rw [heB] at hcall
              refine g_callV (my := mX12_figure) (k := 189) (st := []) (av := [.int (nI (16 + n)), .int 1, .int 4]) (mcr := 0) (msr := 0) (mc := 0) (ms := 0) (pc' := 74) dX12_readsMan_71 kX12_figure wX12_132 rfl ⟨rfl, rfl⟩ rfl (Nat.le_of_ble_eq_true rfl) (by decide) (hcall) rfl ?_
              rintro _ _ ⟨M4, rfl, hFB, rfl, hTB, hqB, hrB⟩
              show Go mX12_readsMan _ _ _ 74 [(0, .ref 189), (1, .int (nI n)), (2, .int (nI a))] [.int 1] (SK, M4, N) _
              refine g_if_eq (tgt := 81) (pc' := 77) dX12_readsMan_74 (by decide) rfl (fun hc => absurd hc (by decide)) (fun _ => ?_)
              rw [show pMan tf len p = (some (a, vA, vB), q) by unfold pMan; rw [hp1]; dsimp only; rw [heA]; dsimp only; rw [heB]]
              refine g_iconst (v := 1) (pc' := 78) dX12_readsMan_77 (by decide) rfl ?_
              refine g_goto (tgt := 82) dX12_readsMan_78 (by decide) ?_
              refine g_iret dX12_readsMan_82 rfl (by decide) (⟨M4, rfl, (hF2.trans hFA).trans hFB, rfl, hTB, hqB, fun j hj => ?_⟩)
              unfold manP
              by_cases e16 : j = 16 + n
              · subst e16; rw [hrB, if_pos rfl, upP_at]
              · rw [hrB, if_neg e16, upP_ne e16]
                by_cases e10 : j = 10 + n
                · subst e10; rw [hrA, if_pos rfl, upP_at]; rfl
                · rw [hrA, if_neg e10, upP_ne e10]; exact hR2 j hj
  · rw [show hrI tf len s = -1 from if_neg hlt, show pMan tf len p = (none, s) by unfold pMan; rw [pOne_end hs hlt]]
    show Go mX12_readsMan _ _ _ 15 [(0, .ref 189), (1, .int (nI n)), (2, .int (-1))] [] (SK, M1, N) _
    refine g_iload_n (j := 2) (pc' := 16) dX12_readsMan_15 rfl rfl ?_
    refine g_if_ge (tgt := 21) (pc' := 19) dX12_readsMan_16 (by decide) rfl (fun hc => (absurd hc (by decide))) (fun hc => ?_)
    refine g_iconst (v := 0) (pc' := 20) dX12_readsMan_19 (by decide) rfl ?_
    exact g_iret dX12_readsMan_20 rfl (by decide) (⟨M1, rfl, hF1.two, rfl, hw1⟩)
set_option maxRecDepth 100000 in
set_option maxHeartbeats 1000000 in
theorem r_readsName {M : Nat → Nat → Int32} {N : Nat → Nat → Int64} {tf : Nat → Nat} {len p : Nat} (hl : len ≤ 80) (hp : p ≤ len) (htf : ∀ j, j < len → tf j < 128) (hT : TapeR M tf len p) {k : Nat} {P : Nat → Int32} (hk6 : k < 6) (h1 : P 1 = nI k) (hR : ∀ j, j < 48 → M 192 j = P j) : Run mX12_readsName 3 0 0 [.ref 189] (SK, M, N) (NamR M N tf len k P (pNam tf len p)) := by
  refine Run.of (by decide) (Nat.le_of_ble_eq_true rfl) ?_
  refine g_aload_n (j := 0) (pc' := 1) dX12_readsName_0 rfl rfl ?_
  refine g_getR (pc' := 4) dX12_readsName_1 fX12_16 rfl rfl rfl ?_
  refine g_iconst (v := 1) (pc' := 5) dX12_readsName_4 (by decide) rfl ?_
  refine g_iald (n := 1) (pc' := 6) dX12_readsName_5 rfl rfl (by omega) rfl ?_
  refine g_top (y := nI k) ((hR 1 (by omega)).trans h1) ?_
  refine g_istore_n (L' := [(0, .ref 189), (1, .int (nI k))]) (pc' := 7) dX12_readsName_6 (by decide) rfl rfl ?_
  refine g_aload_n (j := 0) (pc' := 8) dX12_readsName_7 rfl rfl ?_
  refine g_getR (pc' := 11) dX12_readsName_8 fX12_16 rfl rfl rfl ?_
  refine g_iconst (v := 1) (pc' := 12) dX12_readsName_11 (by decide) rfl ?_
  refine g_dup2 (pc' := 13) dX12_readsName_12 rfl rfl rfl ?_
  refine g_iald (n := 1) (pc' := 14) dX12_readsName_13 rfl rfl (by omega) rfl ?_
  refine g_top (y := nI k) ((hR 1 (by omega)).trans h1) ?_
  refine g_iconst (v := 1) (pc' := 15) dX12_readsName_14 (by decide) rfl ?_
  refine g_iadd (pc' := 16) dX12_readsName_15 rfl ?_
  refine g_top (y := nI (k + 1)) (nI_1 k) ?_
  refine g_iast (n := 1) (pc' := 17) dX12_readsName_16 rfl rfl (by omega) rfl ?_
  generalize hM2 : (um M 192 1 (nI (k + 1))) = M2
  have hT2 : TapeR M2 tf len p := by rw [← hM2]; exact hT.rd
  have hF2 : Fr2 M M2 := by rw [← hM2]; exact (Fr2.refl M).rd
  have hR2 : ∀ j, j < 48 → M2 192 j = upP P 1 (nI (k + 1)) j := fun j hj => by
    rw [← hM2]
    by_cases e0 : j = 1
    · subst e0; rw [um_at, upP_at]
    · rw [um_at2 e0, upP_ne e0]; exact hR j hj
  refine g_aload_n (j := 0) (pc' := 18) dX12_readsName_17 rfl rfl ?_
  refine g_bipush (v := 34) (pc' := 20) dX12_readsName_18 (by decide) rfl ?_
  refine g_iload_n (j := 1) (pc' := 21) dX12_readsName_20 rfl rfl ?_
  refine g_iadd (pc' := 22) dX12_readsName_21 rfl ?_
  refine g_top (y := nI (34 + k)) (nI_add 34 k) ?_
  cases heA : pNum tf len p with
  | mk o qA =>
    cases o with
    | none =>
      have hcall := r_number (N := N) hl hp htf hT2 (wh := 34 + k) (by omega)
      rw [heA] at hcall
      refine g_callV (my := mX12_number) (k := 189) (st := []) (av := [.int (nI (34 + k))]) (mcr := 0) (msr := 0) (mc := 0) (ms := 0) (pc' := 25) dX12_readsName_22 kX12_number wX12_136 rfl ⟨rfl, rfl⟩ rfl (Nat.le_of_ble_eq_true rfl) (by decide) (hcall) rfl ?_
      rintro _ _ ⟨M3, rfl, hFA, rfl, hwA⟩
      show Go mX12_readsName _ _ _ 25 [(0, .ref 189), (1, .int (nI k))] [.int 0] (SK, M3, N) _
      refine g_if_eq (tgt := 52) (pc' := 28) dX12_readsName_25 (by decide) rfl (fun _ => ?_) (fun hc => absurd rfl hc)
      rw [show pNam tf len p = (none, qA) by unfold pNam; rw [heA]]
      refine g_iconst (v := 0) (pc' := 53) dX12_readsName_52 (by decide) rfl ?_
      exact g_iret dX12_readsName_53 rfl (by decide) (⟨M3, rfl, hF2.trans hFA, rfl, hwA⟩)
    | some vA =>
      have hcall := r_number (N := N) hl hp htf hT2 (wh := 34 + k) (by omega)
      rw [heA] at hcall
      refine g_callV (my := mX12_number) (k := 189) (st := []) (av := [.int (nI (34 + k))]) (mcr := 0) (msr := 0) (mc := 0) (ms := 0) (pc' := 25) dX12_readsName_22 kX12_number wX12_136 rfl ⟨rfl, rfl⟩ rfl (Nat.le_of_ble_eq_true rfl) (by decide) (hcall) rfl ?_
      rintro _ _ ⟨M3, rfl, hFA, rfl, hTA, hqA, hrA⟩
      show Go mX12_readsName _ _ _ 25 [(0, .ref 189), (1, .int (nI k))] [.int 1] (SK, M3, N) _
      refine g_if_eq (tgt := 52) (pc' := 28) dX12_readsName_25 (by decide) rfl (fun hc => absurd hc (by decide)) (fun _ => ?_)
      dsimp only at hqA hTA
      cases heB : pOne tf len 5 qA with
      | mk o qB =>
        cases o with
        | none =>
          have hcall := r_sign (N := N) hl hqA htf hTA (c := 45) (i := 5) (by omega) (fun x h => ix5 h)
          rw [heB] at hcall
          refine g_aload_n (j := 0) (pc' := 29) dX12_readsName_28 rfl rfl ?_
          refine g_bipush (v := 45) (pc' := 31) dX12_readsName_29 (by decide) rfl ?_
          refine g_callV (my := mX12_sign) (k := 189) (st := []) (av := [.int 45]) (mcr := 0) (msr := 0) (mc := 0) (ms := 0) (pc' := 34) dX12_readsName_31 kX12_sign wX12_139 rfl ⟨rfl, rfl⟩ rfl (Nat.le_of_ble_eq_true rfl) (by decide) (hcall) rfl ?_
          rintro _ _ ⟨M4, rfl, hFB, rfl, hwB⟩
          show Go mX12_readsName _ _ _ 34 [(0, .ref 189), (1, .int (nI k))] [.int 0] (SK, M4, N) _
          refine g_if_eq (tgt := 52) (pc' := 37) dX12_readsName_34 (by decide) rfl (fun _ => ?_) (fun hc => absurd rfl hc)
          rw [show pNam tf len p = (none, qB) by unfold pNam; rw [heA]; dsimp only; rw [heB]]
          refine g_iconst (v := 0) (pc' := 53) dX12_readsName_52 (by decide) rfl ?_
          exact g_iret dX12_readsName_53 rfl (by decide) (⟨M4, rfl, (hF2.trans hFA).trans hFB.two, rfl, hwB⟩)
        | some vB =>
          have hcall := r_sign (N := N) hl hqA htf hTA (c := 45) (i := 5) (by omega) (fun x h => ix5 h)
          rw [heB] at hcall
          refine g_aload_n (j := 0) (pc' := 29) dX12_readsName_28 rfl rfl ?_
          refine g_bipush (v := 45) (pc' := 31) dX12_readsName_29 (by decide) rfl ?_
          refine g_callV (my := mX12_sign) (k := 189) (st := []) (av := [.int 45]) (mcr := 0) (msr := 0) (mc := 0) (ms := 0) (pc' := 34) dX12_readsName_31 kX12_sign wX12_139 rfl ⟨rfl, rfl⟩ rfl (Nat.le_of_ble_eq_true rfl) (by decide) (hcall) rfl ?_
          rintro _ _ ⟨M4, rfl, hFB, rfl, hTB, hqB⟩
          show Go mX12_readsName _ _ _ 34 [(0, .ref 189), (1, .int (nI k))] [.int 1] (SK, M4, N) _
          refine g_if_eq (tgt := 52) (pc' := 37) dX12_readsName_34 (by decide) rfl (fun hc => absurd hc (by decide)) (fun _ => ?_)
          dsimp only at hqB hTB
          refine g_aload_n (j := 0) (pc' := 38) dX12_readsName_37 rfl rfl ?_
          refine g_bipush (v := 40) (pc' := 40) dX12_readsName_38 (by decide) rfl ?_
          refine g_iload_n (j := 1) (pc' := 41) dX12_readsName_40 rfl rfl ?_
          refine g_iadd (pc' := 42) dX12_readsName_41 rfl ?_
          refine g_top (y := nI (40 + k)) (nI_add 40 k) ?_
          cases heC : pNum tf len qB with
          | mk o qC =>
            cases o with
            | none =>
              have hcall := r_number (N := N) hl hqB htf hTB (wh := 40 + k) (by omega)
              rw [heC] at hcall
              refine g_callV (my := mX12_number) (k := 189) (st := []) (av := [.int (nI (40 + k))]) (mcr := 0) (msr := 0) (mc := 0) (ms := 0) (pc' := 45) dX12_readsName_42 kX12_number wX12_136 rfl ⟨rfl, rfl⟩ rfl (Nat.le_of_ble_eq_true rfl) (by decide) (hcall) rfl ?_
              rintro _ _ ⟨M5, rfl, hFC, rfl, hwC⟩
              show Go mX12_readsName _ _ _ 45 [(0, .ref 189), (1, .int (nI k))] [.int 0] (SK, M5, N) _
              refine g_if_eq (tgt := 52) (pc' := 48) dX12_readsName_45 (by decide) rfl (fun _ => ?_) (fun hc => absurd rfl hc)
              rw [show pNam tf len p = (none, qC) by unfold pNam; rw [heA]; dsimp only; rw [heB]; dsimp only; rw [heC]]
              refine g_iconst (v := 0) (pc' := 53) dX12_readsName_52 (by decide) rfl ?_
              exact g_iret dX12_readsName_53 rfl (by decide) (⟨M5, rfl, ((hF2.trans hFA).trans hFB.two).trans hFC, rfl, hwC⟩)
            | some vC =>
              have hcall := r_number (N := N) hl hqB htf hTB (wh := 40 + k) (by omega)
              rw [heC] at hcall
              refine g_callV (my := mX12_number) (k := 189) (st := []) (av := [.int (nI (40 + k))]) (mcr := 0) (msr := 0) (mc := 0) (ms := 0) (pc' := 45) dX12_readsName_42 kX12_number wX12_136 rfl ⟨rfl, rfl⟩ rfl (Nat.le_of_ble_eq_true rfl) (by decide) (hcall) rfl ?_
              rintro _ _ ⟨M5, rfl, hFC, rfl, hTC, hqC, hrC⟩
              show Go mX12_readsName _ _ _ 45 [(0, .ref 189), (1, .int (nI k))] [.int 1] (SK, M5, N) _
              refine g_if_eq (tgt := 52) (pc' := 48) dX12_readsName_45 (by decide) rfl (fun hc => absurd hc (by decide)) (fun _ => ?_)
              rw [show pNam tf len p = (some (vA, vC), qC) by unfold pNam; rw [heA]; dsimp only; rw [heB]; dsimp only; rw [heC]]
              refine g_iconst (v := 1) (pc' := 49) dX12_readsName_48 (by decide) rfl ?_
              refine g_goto (tgt := 53) dX12_readsName_49 (by decide) ?_
              refine g_iret dX12_readsName_53 rfl (by decide) (⟨M5, rfl, ((hF2.trans hFA).trans hFB.two).trans hFC, rfl, hTC, hqC, fun j hj => ?_⟩)
              unfold nameP
              by_cases e16 : j = 40 + k
              · subst e16; rw [hrC, if_pos rfl, upP_at]
              · rw [hrC, if_neg e16, upP_ne e16, hFB.2 192 (by omega)]
                by_cases e10 : j = 34 + k
                · subst e10; rw [hrA, if_pos rfl, upP_at]
                · rw [hrA, if_neg e10, upP_ne e10]; exact hR2 j hj
