/-! ===== every call: class and reference answer alike and come to the same state ===== -/
def OpOk (mc mr : MM) (av : List Value) (A : AS) : Prop := ∃ (r : Int32) (A' : AS), (∀ (M : Nat → Nat → Int32) (N : Nat → Nat → Int64), CI M N A → Run mc 30 0 0 (.ref 0 :: av) (SK, M, N) (CQ M N r A')) ∧ (∀ (M : Nat → Nat → Int32) (N : Nat → Nat → Int64), RI M N A → Run mr 30 0 0 (.ref 189 :: av) (SK, M, N) (RQ M N r A')) ∧ AOk A'
theorem isN (v : Int32) (n : Nat) : (∀ m, m < n → v ≠ nI m) ∨ ∃ m, m < n ∧ v = nI m := by
  by_cases h : ∃ m, m < n ∧ v = nI m
  · exact Or.inr h
  · exact Or.inl (fun m hm e => h ⟨m, hm, e⟩)
theorem rngN {lo hi : Nat} {v : Int32} (hl : lo < 1000) (hh : hi < 1000) (h : ¬ (v < nI lo ∨ nI hi < v)) : ∃ t, lo ≤ t ∧ t ≤ hi ∧ v = nI t := by
  have h1 : ¬ v < nI lo := fun q => h (Or.inl q)
  have h2 : ¬ nI hi < v := fun q => h (Or.inr q)
  have h0 : ¬ v < 0 := fun q => h1 (by
    rw [Int32.lt_iff_toInt_lt] at q ⊢
    rw [nI_toInt (by omega)]
    have : (0 : Int32).toInt = 0 := rfl
    omega)
  obtain ⟨j, hj, rfl⟩ := nI_of h0
  rw [nI_ltI hj (by omega)] at h1
  rw [nI_ltI (by omega) hj] at h2
  exact ⟨j, by omega, by omega, rfl⟩
theorem OkP.congr {n k : Nat} {P P' : Nat → Int32} (h : OkP n k P) (he : ∀ j, j < 47 → P' j = P j) : OkP n k P' := by
  obtain ⟨h1, h2, h3, h4, h5, h6, h7, h8⟩ := h
  refine ⟨h1, h2, by rw [he 0 (by omega)]; exact h3, by rw [he 1 (by omega)]; exact h4, fun j hj => ?_, fun j a1 a2 => ?_, fun i hi => ?_, fun i a1 a2 => ?_⟩
  · rw [he _ (by omega), he _ (by omega), he _ (by omega), he _ (by omega)]; exact h5 j hj
  · rw [he _ (by omega), he _ (by omega)]; exact h6 j a1 a2
  · rw [he _ (by omega), he _ (by omega)]; exact h7 i hi
  · rw [he _ (by omega), he _ (by omega)]; exact h8 i a1 a2
theorem OkP.st {n k : Nat} {P : Nat → Int32} (h : OkP n k P) (x : Int32) : OkP n k (upP P 2 x) := by
  obtain ⟨h1, h2, h3, h4, h5, h6, h7, h8⟩ := h
  refine ⟨h1, h2, by rw [upP_ne (by omega)]; exact h3, by rw [upP_ne (by omega)]; exact h4, fun j hj => ?_, fun j a1 a2 => ?_, fun i hi => ?_, fun i a1 a2 => ?_⟩
  · simp (disch := omega) only [upP_ne]; exact h5 j hj
  · simp (disch := omega) only [upP_ne]; exact h6 j a1 a2
  · simp (disch := omega) only [upP_ne]; exact h7 i hi
  · simp (disch := omega) only [upP_ne]; exact h8 i a1 a2
theorem OkP.ox {n k : Nat} {P : Nat → Int32} (h : OkP n k P) {m q : Nat} (hm : m < n) (hq1 : 1 ≤ q) (hq : q ≤ 4) : OkP n k (upP P (16 + m) (nI q)) := by
  obtain ⟨h1, h2, h3, h4, h5, h6, h7, h8⟩ := h
  refine ⟨h1, h2, by rw [upP_ne (by omega)]; exact h3, by rw [upP_ne (by omega)]; exact h4, fun j hj => ?_, fun j a1 a2 => ?_, fun i hi => ?_, fun i a1 a2 => ?_⟩
  · rw [upP_ne (show 4 + j ≠ 16 + m by omega), upP_ne (show 10 + j ≠ 16 + m by omega), upP_ne (show 28 + j ≠ 16 + m by omega)]
    refine ⟨(h5 j hj).1, (h5 j hj).2.1, ?_, (h5 j hj).2.2.2⟩
    by_cases e : j = m
    · subst e; exact ⟨q, hq1, hq, upP_at⟩
    · rw [upP_ne (by omega)]; exact (h5 j hj).2.2.1
  · simp (disch := omega) only [upP_ne]; exact h6 j a1 a2
  · simp (disch := omega) only [upP_ne]; exact h7 i hi
  · simp (disch := omega) only [upP_ne]; exact h8 i a1 a2
theorem OkP.call {n k : Nat} {P : Nat → Int32} (h : OkP n k P) {m : Nat} {x : Int32} (hm : m < n) (hx : x = -4 ∨ ∃ i, i < k ∧ x = nI i) : OkP n k (upP P (28 + m) x) := by
  obtain ⟨h1, h2, h3, h4, h5, h6, h7, h8⟩ := h
  refine ⟨h1, h2, by rw [upP_ne (by omega)]; exact h3, by rw [upP_ne (by omega)]; exact h4, fun j hj => ?_, fun j a1 a2 => ?_, fun i hi => ?_, fun i a1 a2 => ?_⟩
  · rw [upP_ne (show 4 + j ≠ 28 + m by omega), upP_ne (show 10 + j ≠ 28 + m by omega), upP_ne (show 16 + j ≠ 28 + m by omega)]
    refine ⟨(h5 j hj).1, (h5 j hj).2.1, (h5 j hj).2.2.1, ?_⟩
    by_cases e : j = m
    · subst e; rw [upP_at]; exact hx
    · rw [upP_ne (by omega)]; exact (h5 j hj).2.2.2
  · simp (disch := omega) only [upP_ne]; exact h6 j a1 a2
  · simp (disch := omega) only [upP_ne]; exact h7 i hi
  · simp (disch := omega) only [upP_ne]; exact h8 i a1 a2
theorem ParOk.same {n k n' k' : Nat} {P P' : Nat → Int32} (h : ParOk n k P) (h1 : OkP n' k' P') (h2 : P' 2 = P 2) (h3 : P' 3 = P 3) (h4 : P' 46 = P 46) : ParOk n' k' P' := by
  obtain ⟨-, ⟨r, hr, er⟩, ⟨s, hs, es⟩, h46⟩ := h
  exact ⟨h1, ⟨r, hr, h3.trans er⟩, ⟨s, hs, h2.trans es⟩, by rw [h4]; exact h46⟩
theorem AOk.sheet {y : YS} {kp : Option YS} {tp : List Int32} {sh : Nat → Option (Nat × Nat × (Nat → Int64))} (h : AOk (y, kp, tp, sh)) {a : Nat} {s : Option (Nat × Nat × (Nat → Int64))} (hs : ∀ la ln f, s = some (la, ln, f) → la < 4 ∧ ln ≤ 24) : AOk (y, kp, tp, upS sh a s) := by
  refine ⟨h.1, h.2.1, h.2.2.1, fun i hi la ln f e => ?_⟩
  have e : upS sh a s i = some (la, ln, f) := e
  by_cases ei : i = a
  · subst ei; rw [upS_at] at e; exact hs la ln f e
  · rw [upS_ne ei] at e; exact h.2.2.2 i hi la ln f e
theorem has_inv {i z : Int32} {ln : Nat} (hl : ln ≤ 24) (h : 0 ≤ i ∧ 0 ≤ z ∧ i ≤ nI ln - z) : ∃ q c, i = nI q ∧ z = nI c ∧ q + c ≤ ln := by
  obtain ⟨q, hq, rfl⟩ := nI_of (x := i) (Int32.not_lt.mpr h.1)
  obtain ⟨c, hc, rfl⟩ := nI_of (x := z) (Int32.not_lt.mpr h.2.1)
  have h3 := h.2.2
  rw [Int32.le_iff_toInt_le, nI_toInt hq, sub_toI (by omega) hc] at h3
  exact ⟨q, c, rfl, rfl, by omega⟩
section OPS
variable {A : AS}
theorem op_man (hA : AOk A) (ki ha ox : Int32) : OpOk mX11_man mX12_man [.int ki, .int ha, .int ox] A := by
  obtain ⟨⟨n, k, P, pa⟩, kp, tp, sh⟩ := A
  by_cases h1 : ki < 0 ∨ 4 < ki
  · exact ⟨_, _, fun M N h => c_man_b1 hA h ha ox h1, fun M N h => r_man_b1 hA h ha ox h1, hA⟩
  by_cases h2 : ha < 0 ∨ 9 < ha
  · exact ⟨_, _, fun M N h => c_man_b2 hA h ox h1 h2, fun M N h => r_man_b2 hA h ox h1 h2, hA⟩
  by_cases h3 : ox < 1 ∨ 4 < ox
  · exact ⟨_, _, fun M N h => c_man_b3 hA h h1 h2 h3, fun M N h => r_man_b3 hA h h1 h2 h3, hA⟩
  have hok : OkP n k P := hA.1.1.1
  have hn := hok.1
  by_cases h6 : n = 6
  · exact ⟨_, _, fun M N h => c_man_f hA h h1 h2 h3 h6, fun M N h => r_man_f hA h h1 h2 h3 h6, hA⟩
  · have h7 : n < 6 := by omega
    refine ⟨_, _, fun M N h => c_man hA h h1 h2 h3 h7, fun M N h => r_man hA h h1 h2 h3 h7, ⟨⟨?_, Nat.zero_le _, fun Q hQ => by cases hQ⟩, hA.2⟩⟩
    obtain ⟨a, -, ha4, rfl⟩ := rngN (lo := 0) (hi := 4) (by omega) (by omega) h1
    obtain ⟨b, -, hb9, rfl⟩ := rngN (lo := 0) (hi := 9) (by omega) (by omega) h2
    obtain ⟨c, hc1, hc4, rfl⟩ := rngN (lo := 1) (hi := 4) (by omega) (by omega) h3
    refine ParOk.same hA.1.1 (hok.man h7 ha4 hb9 hc1 hc4) ?_ ?_ ?_ <;> (unfold manP; simp (disch := omega) only [upP_ne])
theorem op_name (hA : AOk A) (wo de : Int32) : OpOk mX11_name mX12_name [.int wo, .int de] A := by
  obtain ⟨⟨n, k, P, pa⟩, kp, tp, sh⟩ := A
  by_cases h1 : wo < 0 ∨ 20 < wo
  · exact ⟨_, _, fun M N h => c_name_b1 hA h de h1, fun M N h => r_name_b1 hA h de h1, hA⟩
  by_cases h2 : de < 0 ∨ 20 < de
  · exact ⟨_, _, fun M N h => c_name_b2 hA h h1 h2, fun M N h => r_name_b2 hA h h1 h2, hA⟩
  have hok : OkP n k P := hA.1.1.1
  have hn := hok.2.1
  by_cases h6 : k = 6
  · exact ⟨_, _, fun M N h => c_name_f hA h h1 h2 h6, fun M N h => r_name_f hA h h1 h2 h6, hA⟩
  · have h7 : k < 6 := by omega
    refine ⟨_, _, fun M N h => c_name hA h h1 h2 h7, fun M N h => r_name hA h h1 h2 h7, ⟨⟨?_, Nat.zero_le _, fun Q hQ => by cases hQ⟩, hA.2⟩⟩
    obtain ⟨a, -, ha, rfl⟩ := rngN (lo := 0) (hi := 20) (by omega) (by omega) h1
    obtain ⟨b, -, hb, rfl⟩ := rngN (lo := 0) (hi := 20) (by omega) (by omega) h2
    refine ParOk.same hA.1.1 (hok.name h7 ha hb) ?_ ?_ ?_ <;> (unfold nameP; simp (disch := omega) only [upP_ne])
theorem op_of (hA : AOk A) (v u : Int32) : OpOk mX11_of mX12_of [.int v, .int u] A := by
  obtain ⟨⟨n, k, P, pa⟩, kp, tp, sh⟩ := A
  rcases isN v n with h1 | ⟨m, hm, rfl⟩
  · exact ⟨_, _, fun M N h => c_of_b1 hA h u h1, fun M N h => r_of_b1 hA h u h1, hA⟩
  rcases sw 6 (by decide) u with ⟨j, hj, rfl⟩ | hx
  · rcases (show j = 0 ∨ j = 1 ∨ j = 2 ∨ j = 3 ∨ j = 4 ∨ j = 5 ∨ j = 6 by omega) with rfl | rfl | rfl | rfl | rfl | rfl | rfl
    · exact ⟨_, _, fun M N h => c_of_0 hA h hm, fun M N h => r_of_0 hA h hm, hA⟩
    · exact ⟨_, _, fun M N h => c_of_1 hA h hm, fun M N h => r_of_1 hA h hm, hA⟩
    · exact ⟨_, _, fun M N h => c_of_2 hA h hm, fun M N h => r_of_2 hA h hm, hA⟩
    · exact ⟨_, _, fun M N h => c_of_3 hA h hm, fun M N h => r_of_3 hA h hm, hA⟩
    · exact ⟨_, _, fun M N h => c_of_4 hA h hm, fun M N h => r_of_4 hA h hm, hA⟩
    · exact ⟨_, _, fun M N h => c_of_5 hA h hm, fun M N h => r_of_5 hA h hm, hA⟩
    · exact ⟨_, _, fun M N h => c_of_6 hA h hm, fun M N h => r_of_6 hA h hm, hA⟩
  · exact ⟨_, _, fun M N h => c_of_b2 hA h hm hx, fun M N h => r_of_b2 hA h hm hx, hA⟩
theorem op_named (hA : AOk A) (v u : Int32) : OpOk mX11_named mX12_named [.int v, .int u] A := by
  obtain ⟨⟨n, k, P, pa⟩, kp, tp, sh⟩ := A
  rcases isN v k with h1 | ⟨m, hm, rfl⟩
  · exact ⟨_, _, fun M N h => c_named_b1 hA h u h1, fun M N h => r_named_b1 hA h u h1, hA⟩
  rcases sw 2 (by decide) u with ⟨j, hj, rfl⟩ | hx
  · rcases (show j = 0 ∨ j = 1 ∨ j = 2 by omega) with rfl | rfl | rfl
    · exact ⟨_, _, fun M N h => c_named_0 hA h hm, fun M N h => r_named_0 hA h hm, hA⟩
    · exact ⟨_, _, fun M N h => c_named_1 hA h hm, fun M N h => r_named_1 hA h hm, hA⟩
    · exact ⟨_, _, fun M N h => c_named_2 hA h hm, fun M N h => r_named_2 hA h hm, hA⟩
  · exact ⟨_, _, fun M N h => c_named_b2 hA h hm hx, fun M N h => r_named_b2 hA h hm hx, hA⟩
theorem op_values (hA : AOk A) (v u : Int32) : OpOk mX11_values mX12_values [.int v, .int u] A := by
  obtain ⟨⟨n, k, P, pa⟩, kp, tp, sh⟩ := A
  rcases isN v n with h1 | ⟨m, hm, rfl⟩
  · exact ⟨_, _, fun M N h => c_values_b1 hA h u h1, fun M N h => r_values_b1 hA h u h1, hA⟩
  rcases isN u k with h1 | ⟨i, hi, rfl⟩
  · exact ⟨_, _, fun M N h => c_values_b2 hA h hm h1, fun M N h => r_values_b2 hA h hm h1, hA⟩
  · exact ⟨_, _, fun M N h => c_values hA h hm hi, fun M N h => r_values hA h hm hi, hA⟩
theorem op_stones (hA : AOk A) (v : Int32) : OpOk mX11_stones mX12_stones [.int v] A := by
  obtain ⟨⟨n, k, P, pa⟩, kp, tp, sh⟩ := A
  by_cases h1 : v < 0 ∨ 20 < v
  · exact ⟨_, _, fun M N h => c_stones_b hA h h1, fun M N h => r_stones_b hA h h1, hA⟩
  · refine ⟨_, _, fun M N h => c_stones hA h h1, fun M N h => r_stones hA h h1, ⟨⟨?_, hA.1.2.1, fun Q hQ => ⟨(hA.1.2.2 Q hQ).1, fun j a b c => ?_⟩⟩, hA.2⟩⟩
    · obtain ⟨s, -, hs, rfl⟩ := rngN (lo := 0) (hi := 20) (by omega) (by omega) h1
      have h11 : ParOk n k P := hA.1.1
      show ParOk n k (upP P 2 (nI s))
      obtain ⟨g1, ⟨r, hr, er⟩, -, g4⟩ := h11
      exact ⟨g1.st _, ⟨r, hr, by rw [upP_ne (by omega)]; exact er⟩, ⟨s, hs, upP_at⟩, by rw [upP_ne (by omega)]; exact g4⟩
    · show Q j = upP P 2 v j
      rw [upP_ne b]; exact (hA.1.2.2 Q hQ).2 j a b c
theorem op_type (hA : AOk A) (v : Int32) : OpOk mX11_type mX12_type [.int v] A := by
  obtain ⟨⟨n, k, P, pa⟩, kp, tp, sh⟩ := A
  by_cases h1 : v < 32 ∨ 126 < v
  · exact ⟨_, _, fun M N h => c_type_b hA h h1, fun M N h => r_type_b hA h h1, hA⟩
  · obtain ⟨q, h2, h3, rfl⟩ := rngN (lo := 32) (hi := 126) (by omega) (by omega) h1
    have ht := hA.2.2.1.1
    by_cases h8 : tp.length = 80
    · exact ⟨_, _, fun M N h => c_type_f hA h h2 h3 h8, fun M N h => r_type_f hA h h2 h3 h8, hA⟩
    · have h9 : tp.length < 80 := by have ht : tp.length ≤ 80 := ht; omega
      refine ⟨_, _, fun M N h => c_type hA h h2 h3 h9, fun M N h => r_type hA h h2 h3 h9, ⟨hA.1, hA.2.1, ⟨by show (tp ++ [nI q]).length ≤ 80; rw [List.length_append, List.length_singleton]; omega, fun x hx => ?_⟩, hA.2.2.2⟩⟩
      rcases List.mem_append.mp hx with hx | hx
      · exact hA.2.2.1.2 x hx
      · rw [List.mem_singleton] at hx; exact ⟨q, h2, h3, hx⟩
theorem op_parish (hA : AOk A) : OpOk mX11_parish mX12_parish [] A := by
  obtain ⟨⟨n, k, P, pa⟩, kp, tp, sh⟩ := A
  have htp : ∀ j, j < tp.length → tp[j]? = some (nI ((tp.getD j 0).toNatClampNeg)) ∧ (tp.getD j 0).toNatClampNeg < 128 := fun j hj => by
    have e : tp[j]? = some (tp[j]) := List.getElem?_eq_getElem hj
    obtain ⟨q, h1, h2, h3⟩ := hA.2.2.1.2 tp[j] (List.getElem_mem hj)
    rw [List.getD_eq_getElem?_getD, e]
    show some tp[j] = some (nI (tp[j]).toNatClampNeg) ∧ (tp[j]).toNatClampNeg < 128
    rw [h3, nI_clamp (by omega)]
    exact ⟨rfl, by omega⟩
  cases hr : pRead (fun j => (tp.getD j 0).toNatClampNeg) tp.length (P 46) with
  | mk o q =>
    cases o with
    | none => exact ⟨_, _, fun M N h => c_parish_b hA h htp hr, fun M N h => r_parish_b hA h htp hr, ⟨hA.1, hA.2.1, ⟨Nat.zero_le _, fun x hx => by cases hx⟩, hA.2.2.2⟩⟩
    | some t =>
      obtain ⟨n2, k2, P2⟩ := t
      have g1 := pRead_ok hr
      obtain ⟨⟨s, hs, e2⟩, e3, e46⟩ := pRead_keep hr
      have h46 := hA.1.1.2.2.2
      exact ⟨_, _, fun M N h => c_parish hA h htp hr, fun M N h => r_parish hA h htp hr, ⟨⟨⟨g1.1, ⟨0, by omega, e3⟩, ⟨s, hs, e2⟩, by show ¬ P2 46 < 0; rw [show P2 46 = P 46 from e46]; exact h46⟩, Nat.zero_le _, fun Q hQ => by cases hQ⟩, hA.2.1, ⟨Nat.zero_le _, fun x hx => by cases hx⟩, hA.2.2.2⟩⟩
theorem op_count (hA : AOk A) (u : Int32) : OpOk mX11_count mX12_count [.int u] A := by
  obtain ⟨⟨n, k, P, pa⟩, kp, tp, sh⟩ := A
  rcases sw 8 (by decide) u with ⟨j, hj, rfl⟩ | hx
  · rcases (show j = 0 ∨ j = 1 ∨ j = 2 ∨ j = 3 ∨ j = 4 ∨ j = 5 ∨ j = 6 ∨ j = 7 ∨ j = 8 by omega) with rfl | rfl | rfl | rfl | rfl | rfl | rfl | rfl | rfl
    · exact ⟨_, _, fun M N h => c_count_0 hA h, fun M N h => r_count_0 hA h, hA⟩
    · exact ⟨_, _, fun M N h => c_count_1 hA h, fun M N h => r_count_1 hA h, hA⟩
    · exact ⟨_, _, fun M N h => c_count_2 hA h, fun M N h => r_count_2 hA h, hA⟩
    · exact ⟨_, _, fun M N h => c_count_3 hA h, fun M N h => r_count_3 hA h, hA⟩
    · exact ⟨_, _, fun M N h => c_count_4 hA h, fun M N h => r_count_4 hA h, hA⟩
    · exact ⟨_, _, fun M N h => c_count_5 hA h, fun M N h => r_count_5 hA h, hA⟩
    · exact ⟨_, _, fun M N h => c_count_6 hA h, fun M N h => r_count_6 hA h, hA⟩
    · exact ⟨_, _, fun M N h => c_count_7 hA h, fun M N h => r_count_7 hA h, hA⟩
    · exact ⟨_, _, fun M N h => c_count_8 hA h, fun M N h => r_count_8 hA h, hA⟩
  · exact ⟨_, _, fun M N h => c_count_b hA h hx, fun M N h => r_count_b hA h hx, hA⟩
theorem op_marches (hA : AOk A) (v : Int32) : OpOk mX11_marches mX12_marches [.int v] A := by
  obtain ⟨⟨n, k, P, pa⟩, kp, tp, sh⟩ := A
  by_cases h1 : v < 1 ∨ 40 < v
  · exact ⟨_, _, fun M N h => c_marches_b hA h h1, fun M N h => r_marches_b hA h h1, hA⟩
  · obtain ⟨t, ht1, ht, rfl⟩ := rngN (lo := 1) (hi := 40) (by omega) (by omega) h1
    obtain ⟨r, hr, e3⟩ := hA.1.1.2.1
    by_cases hb : r + t ≤ 9999
    · exact ⟨_, _, fun M N h => c_marches hA h ht1 ht e3 hb, fun M N h => r_marches hA h ht1 ht e3 hb, ⟨(marS_ok hA.1 e3 hb).1, hA.2⟩⟩
    · exact ⟨_, _, fun M N h => c_marches_f hA h ht1 ht e3 hr (by omega), fun M N h => r_marches_f hA h ht1 ht e3 hr (by omega), hA⟩
theorem op_train (hA : AOk A) (v : Int32) : OpOk mX11_train mX12_train [.int v] A := by
  obtain ⟨⟨n, k, P, pa⟩, kp, tp, sh⟩ := A
  rcases isN v n with h1 | ⟨m, hm, rfl⟩
  · exact ⟨_, _, fun M N h => c_train_b hA h h1, fun M N h => r_train_b hA h h1, hA⟩
  have hok : OkP n k P := hA.1.1.1
  have hn6 := hok.1
  obtain ⟨z, hz, ez⟩ := (hok.2.2.2.2.1 m hm).2.1
  by_cases h9 : z = 9
  · have e9 : P (10 + m) = 9 := by rw [ez, h9]; rfl
    exact ⟨_, _, fun M N h => c_train_n hA h hm e9, fun M N h => r_train_n hA h hm e9, hA⟩
  · have l9 : P (10 + m) < 9 := by rw [ez]; exact nI_lt (b := 9) (by omega) (by omega)
    refine ⟨_, _, fun M N h => c_train hA h hm l9, fun M N h => r_train hA h hm l9, ⟨hA.1.deed ?_ (fun j a b c => upP_ne (by omega)), hA.2⟩⟩
    refine ParOk.same hA.1.1 ?_ (upP_ne (by omega)) (upP_ne (by omega)) (upP_ne (by omega))
    rw [ez, nI_1 z]
    exact hok.handU hm (by omega)
theorem op_hire (hA : AOk A) (v u : Int32) : OpOk mX11_hire mX12_hire [.int v, .int u] A := by
  obtain ⟨⟨n, k, P, pa⟩, kp, tp, sh⟩ := A
  rcases isN v n with h1 | ⟨m, hm, rfl⟩
  · exact ⟨_, _, fun M N h => c_hire_b1 hA h u h1, fun M N h => r_hire_b1 hA h u h1, hA⟩
  have hok : OkP n k P := hA.1.1.1
  have hn6 := hok.1
  by_cases h1 : u < 1 ∨ 4 < u
  · exact ⟨_, _, fun M N h => c_hire_b2 hA h hm h1, fun M N h => r_hire_b2 hA h hm h1, hA⟩
  · refine ⟨_, _, fun M N h => c_hire hA h hm h1, fun M N h => r_hire hA h hm h1, ⟨hA.1.deed ?_ (fun j a b c => upP_ne (by omega)), hA.2⟩⟩
    obtain ⟨q, hq1, hq, rfl⟩ := rngN (lo := 1) (hi := 4) (by omega) (by omega) h1
    exact ParOk.same hA.1.1 (hok.ox hm hq1 hq) (upP_ne (by omega)) (upP_ne (by omega)) (upP_ne (by omega))
theorem op_swap (hA : AOk A) (v u : Int32) : OpOk mX11_swap mX12_swap [.int v, .int u] A := by
  obtain ⟨⟨n, k, P, pa⟩, kp, tp, sh⟩ := A
  rcases isN v n with h1 | ⟨m, hm, rfl⟩
  · exact ⟨_, _, fun M N h => c_swap_b1 hA h u h1, fun M N h => r_swap_b1 hA h u h1, hA⟩
  rcases isN u n with h1 | ⟨o, ho, rfl⟩
  · exact ⟨_, _, fun M N h => c_swap_b2 hA h hm h1, fun M N h => r_swap_b2 hA h hm h1, hA⟩
  have hok : OkP n k P := hA.1.1.1
  have hn6 := hok.1
  by_cases hmo : m = o
  · subst hmo; exact ⟨_, _, fun M N h => c_swap_b3 hA h hm, fun M N h => r_swap_b3 hA h hm, hA⟩
  by_cases h1 : P (28 + m) = -4
  · exact ⟨_, _, fun M N h => c_swap_n1 hA h hm ho hmo h1, fun M N h => r_swap_n1 hA h hm ho hmo h1, hA⟩
  by_cases h2 : P (28 + o) = -4
  · exact ⟨_, _, fun M N h => c_swap_n2 hA h hm ho hmo h1 h2, fun M N h => r_swap_n2 hA h hm ho hmo h1 h2, hA⟩
  · refine ⟨_, _, fun M N h => c_swap hA h hm ho hmo h1 h2, fun M N h => r_swap hA h hm ho hmo h1 h2, ⟨hA.1.deed ?_ (fun j a b c => (upP_ne (by omega)).trans (upP_ne (by omega))), hA.2⟩⟩
    exact ParOk.same hA.1.1 ((hok.call hm (hok.2.2.2.2.1 o ho).2.2.2).call ho (hok.2.2.2.2.1 m hm).2.2.2) ((upP_ne (by omega)).trans (upP_ne (by omega))) ((upP_ne (by omega)).trans (upP_ne (by omega))) ((upP_ne (by omega)).trans (upP_ne (by omega)))
theorem op_drift (hA : AOk A) (v : Int32) : OpOk mX11_drift mX12_drift [.int v] A := by
  obtain ⟨⟨n, k, P, pa⟩, kp, tp, sh⟩ := A
  by_cases h1 : v < 1 ∨ 40 < v
  · exact ⟨_, _, fun M N h => c_drift_b hA h h1, fun M N h => r_drift_b hA h h1, hA⟩
  · obtain ⟨t, ht1, ht, rfl⟩ := rngN (lo := 1) (hi := 40) (by omega) (by omega) h1
    obtain ⟨r, hr, e3⟩ := hA.1.1.2.1
    by_cases hb : r + t ≤ 9999
    · exact ⟨_, _, fun M N h => c_drift hA h ht1 ht e3 hb, fun M N h => r_drift hA h ht1 ht e3 hb, ⟨(drS_ok hA.1 e3 hb).1, hA.2⟩⟩
    · exact ⟨_, _, fun M N h => c_drift_f hA h ht1 ht e3 hr (by omega), fun M N h => r_drift_f hA h ht1 ht e3 hr (by omega), hA⟩
theorem op_undo (hA : AOk A) : OpOk mX11_undo mX12_undo [] A := by
  obtain ⟨⟨n, k, P, pa⟩, kp, tp, sh⟩ := A
  cases pa with
  | nil => exact ⟨_, _, fun M N h => c_undo_n hA h rfl, fun M N h => r_undo_n hA h rfl, hA⟩
  | cons Q pb =>
    have hQ := hA.1.2.2 Q List.mem_cons_self
    have hl : (Q :: pb).length ≤ 8 := hA.1.2.1
    rw [List.length_cons] at hl
    have hQ1 : ParOk n k Q := hQ.1
    have q5 : ∀ j, j < 10 → j ≠ 2 → j ≠ 3 → Q j = P j := hQ.2
    have hP1 : ParOk n k P := hA.1.1
    have hr2 : ∀ R ∈ pb, ParOk n k R ∧ ∀ j, j < 10 → j ≠ 2 → j ≠ 3 → R j = P j := fun R hR => hA.1.2.2 R (List.mem_cons_of_mem _ hR)
    have hp : ParOk n k (undoP P Q) := by
      obtain ⟨q1, ⟨r, hr, er⟩, -, q4⟩ := hQ1
      obtain ⟨p1, -, ⟨s, hs, es⟩, -⟩ := hP1
      refine ⟨?_, ⟨r, hr, by rw [undoP_in (by omega)]; exact er⟩, ⟨s, hs, by rw [undoP_out (by omega)]; exact es⟩, by rw [undoP_in (by omega)]; exact q4⟩
      refine (q1.st (P 2)).congr (fun j hj => ?_)
      by_cases e2 : j = 2
      · subst e2; rw [undoP_out (by omega), upP_at]
      · rw [upP_ne e2]
        by_cases e : (10 ≤ j ∧ j < 47) ∨ j = 3
        · rw [undoP_in e]
        · rw [undoP_out e]; exact (q5 j (by omega) e2 (by omega)).symm
    exact ⟨_, _, fun M N h => c_undo hA h rfl, fun M N h => r_undo hA h rfl, ⟨⟨hp, by show pb.length ≤ 8; omega, fun R hR => ⟨(hr2 R hR).1, fun j a b c => by show R j = undoP P Q j; rw [undoP_out (by omega)]; exact (hr2 R hR).2 j a b c⟩⟩, hA.2⟩⟩
theorem op_seed (hA : AOk A) (v : Int32) : OpOk mX11_seed mX12_seed [.int v] A := by
  obtain ⟨⟨n, k, P, pa⟩, kp, tp, sh⟩ := A
  by_cases h1 : v < 0
  · exact ⟨_, _, fun M N h => c_seed_b hA h h1, fun M N h => r_seed_b hA h h1, hA⟩
  · exact ⟨_, _, fun M N h => c_seed hA h h1, fun M N h => r_seed hA h h1, ⟨⟨hA.1.1.draw h1, hA.1.2.1, fun Q hQ => ⟨(hA.1.2.2 Q hQ).1, fun j a b c => ((hA.1.2.2 Q hQ).2 j a b c).trans (upP_ne (by omega)).symm⟩⟩, hA.2⟩⟩
theorem op_image (hA : AOk A) : OpOk mX11_image mX12_image [] A := by
  obtain ⟨⟨n, k, P, pa⟩, kp, tp, sh⟩ := A
  exact ⟨_, _, fun M N h => c_image hA h, fun M N h => r_image hA h, ⟨hA.1, fun y hy => by cases hy; exact hA.1, hA.2.2⟩⟩
theorem op_restore (hA : AOk A) : OpOk mX11_restore mX12_restore [] A := by
  obtain ⟨⟨n, k, P, pa⟩, kp, tp, sh⟩ := A
  cases kp with
  | none => exact ⟨_, _, fun M N h => c_restore_n hA h rfl, fun M N h => r_restore_n hA h rfl, hA⟩
  | some y =>
    obtain ⟨n2, k2, P2, pa2⟩ := y
    exact ⟨_, _, fun M N h => c_restore hA h rfl, fun M N h => r_restore hA h rfl, ⟨hA.2.1 _ rfl, hA.2⟩⟩
end OPS
