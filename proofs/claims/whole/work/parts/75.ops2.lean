section OPS2
variable {A : AS}
theorem op_ahead (hA : AOk A) (v u z : Int32) : OpOk mX11_ahead mX12_ahead [.int v, .int u, .int z] A := by
  obtain ⟨⟨n, k, P, pa⟩, kp, tp, sh⟩ := A
  rcases isN v n with h1 | ⟨m, hm, rfl⟩
  · exact ⟨_, _, fun M N h => c_ahead_b1 hA h u z h1, fun M N h => r_ahead_b1 hA h u z h1, hA⟩
  by_cases h1 : u < 0 ∨ 60 < u
  · exact ⟨_, _, fun M N h => c_ahead_b2 hA h z hm h1, fun M N h => r_ahead_b2 hA h z hm h1, hA⟩
  by_cases h2 : z < 0 ∨ 2 < z
  · exact ⟨_, _, fun M N h => c_ahead_b3 hA h hm h1 h2, fun M N h => r_ahead_b3 hA h hm h1 h2, hA⟩
  obtain ⟨t, -, ht, rfl⟩ := rngN (lo := 0) (hi := 60) (by omega) (by omega) h1
  obtain ⟨j, -, hj, rfl⟩ := rngN (lo := 0) (hi := 2) (by omega) (by omega) h2
  rcases (show j = 0 ∨ j = 1 ∨ j = 2 by omega) with rfl | rfl | rfl
  · exact ⟨_, _, fun M N h => c_ahead_0 hA h hm ht, fun M N h => r_ahead_0 hA h hm ht, hA⟩
  · exact ⟨_, _, fun M N h => c_ahead_1 hA h hm ht, fun M N h => r_ahead_1 hA h hm ht, hA⟩
  · exact ⟨_, _, fun M N h => c_ahead_2 hA h hm ht, fun M N h => r_ahead_2 hA h hm ht, hA⟩
theorem op_nameAhead (hA : AOk A) (v u z : Int32) : OpOk mX11_nameAhead mX12_nameAhead [.int v, .int u, .int z] A := by
  obtain ⟨⟨n, k, P, pa⟩, kp, tp, sh⟩ := A
  rcases isN v k with h1 | ⟨m, hm, rfl⟩
  · exact ⟨_, _, fun M N h => c_nameAhead_b1 hA h u z h1, fun M N h => r_nameAhead_b1 hA h u z h1, hA⟩
  by_cases h1 : u < 0 ∨ 60 < u
  · exact ⟨_, _, fun M N h => c_nameAhead_b2 hA h z hm h1, fun M N h => r_nameAhead_b2 hA h z hm h1, hA⟩
  by_cases h2 : z < 0 ∨ 1 < z
  · exact ⟨_, _, fun M N h => c_nameAhead_b3 hA h hm h1 h2, fun M N h => r_nameAhead_b3 hA h hm h1 h2, hA⟩
  obtain ⟨t, -, ht, rfl⟩ := rngN (lo := 0) (hi := 60) (by omega) (by omega) h1
  obtain ⟨j, -, hj, rfl⟩ := rngN (lo := 0) (hi := 1) (by omega) (by omega) h2
  rcases (show j = 0 ∨ j = 1 by omega) with rfl | rfl
  · exact ⟨_, _, fun M N h => c_nameAhead_0 hA h hm ht, fun M N h => r_nameAhead_0 hA h hm ht, hA⟩
  · exact ⟨_, _, fun M N h => c_nameAhead_1 hA h hm ht, fun M N h => r_nameAhead_1 hA h hm ht, hA⟩
theorem op_needs (hA : AOk A) (v u : Int32) : OpOk mX11_needs mX12_needs [.int v, .int u] A := by
  obtain ⟨⟨n, k, P, pa⟩, kp, tp, sh⟩ := A
  rcases isN v n with h1 | ⟨m, hm, rfl⟩
  · exact ⟨_, _, fun M N h => c_needs_b1 hA h u h1, fun M N h => r_needs_b1 hA h u h1, hA⟩
  rcases isN u k with h1 | ⟨i, hi, rfl⟩
  · exact ⟨_, _, fun M N h => c_needs_b2 hA h hm h1, fun M N h => r_needs_b2 hA h hm h1, hA⟩
  have hok : OkP n k P := hA.1.1.1
  obtain ⟨z, hz, ez⟩ := (hok.2.2.2.2.1 m hm).2.1
  exact ⟨_, _, fun M N h => c_needs hA h hm hi ez hz, fun M N h => r_needs hA h hm hi ez hz, hA⟩
theorem op_field (hA : AOk A) (v : Int32) : OpOk mX11_field mX12_field [.int v] A := by
  obtain ⟨⟨n, k, P, pa⟩, kp, tp, sh⟩ := A
  rcases isN v n with h1 | ⟨m, hm, rfl⟩
  · exact ⟨_, _, fun M N h => c_field_b hA h h1, fun M N h => r_field_b hA h h1, hA⟩
  · exact ⟨_, _, fun M N h => c_field hA h hm, fun M N h => r_field hA h hm, hA⟩
theorem op_parting (hA : AOk A) (v : Int32) : OpOk mX11_parting mX12_parting [.int v] A := by
  obtain ⟨⟨n, k, P, pa⟩, kp, tp, sh⟩ := A
  by_cases h0 : v = -4
  · subst h0; exact ⟨_, _, fun M N h => c_parting_n hA h, fun M N h => r_parting_n hA h, hA⟩
  rcases isN v n with h1 | ⟨m, hm, rfl⟩
  · exact ⟨_, _, fun M N h => c_parting_b hA h h0 h1, fun M N h => r_parting_b hA h h0 h1, hA⟩
  · exact ⟨_, _, fun M N h => c_parting hA h hm, fun M N h => r_parting hA h hm, hA⟩
theorem op_change (hA : AOk A) (v : Int32) : OpOk mX11_change mX12_change [.int v] A := by
  obtain ⟨⟨n, k, P, pa⟩, kp, tp, sh⟩ := A
  by_cases h1 : v < -1
  · exact ⟨_, _, fun M N h => c_change_b hA h h1, fun M N h => r_change_b hA h h1, hA⟩
  by_cases h2 : v = -1
  · subst h2; exact ⟨_, _, fun M N h => c_change_n hA h, fun M N h => r_change_n hA h, hA⟩
  have h0 : ¬ v < 0 := fun q => by
    rw [Int32.lt_iff_toInt_lt] at q h1
    have e1 : (-1 : Int32).toInt = -1 := by decide
    have e0 : (0 : Int32).toInt = 0 := rfl
    exact h2 (Int32.toInt_inj.mp (by omega))
  obtain ⟨c, hc, rfl⟩ := nI_of h0
  exact ⟨_, _, fun M N h => c_change hA h hc, fun M N h => r_change hA h hc, hA⟩
theorem op_luck (hA : AOk A) (v na wh : Int32) : OpOk mX11_luck mX12_luck [.int v, .int na, .int wh] A := by
  obtain ⟨⟨n, k, P, pa⟩, kp, tp, sh⟩ := A
  rcases isN v n with h1 | ⟨m, hm, rfl⟩
  · exact ⟨_, _, fun M N h => c_luck_b1 hA h na wh h1, fun M N h => r_luck_b1 hA h na wh h1, hA⟩
  have hok : OkP n k P := hA.1.1.1
  obtain ⟨s, hs, es⟩ := hA.1.1.2.2.1
  have hob : ∀ q, offN P (nI s) q ≤ 35 := fun q => offN_le q
  by_cases h0 : na = -4
  · subst h0
    by_cases h2 : wh < 0 ∨ 1 < wh
    · exact ⟨_, _, fun M N h => c_luck_b3 hA h hm h2, fun M N h => r_luck_b3 hA h hm h2, hA⟩
    · have hw := luck_le (P := P) (nm := none) hok.1 hok.2.1 hm (fun j h => by cases h) hob
      exact ⟨_, _, fun M N h => c_luck_n hA h hm h2 es hs (Nat.le_trans hw.1 hw.2), fun M N h => r_luck_n hA h hm h2 es hs, hA⟩
  rcases isN na k with h1 | ⟨i, hi, rfl⟩
  · exact ⟨_, _, fun M N h => c_luck_b2 hA h wh hm h0 h1, fun M N h => r_luck_b2 hA h wh hm h0 h1, hA⟩
  · by_cases h2 : wh < 0 ∨ 1 < wh
    · exact ⟨_, _, fun M N h => c_luck_b4 hA h hm hi h2, fun M N h => r_luck_b4 hA h hm hi h2, hA⟩
    · have hw := luck_le (P := P) (nm := some i) hok.1 hok.2.1 hm (fun j h => by cases h; exact hi) hob
      exact ⟨_, _, fun M N h => c_luck hA h hm hi h2 es hs (Nat.le_trans hw.1 hw.2), fun M N h => r_luck hA h hm hi h2 es hs, hA⟩
theorem op_top (hA : AOk A) (v u : Int32) : OpOk mX11_top mX12_top [.int v, .int u] A := by
  obtain ⟨⟨n, k, P, pa⟩, kp, tp, sh⟩ := A
  rcases isN v n with h1 | ⟨m, hm, rfl⟩
  · exact ⟨_, _, fun M N h => c_top_b1 hA h u h1, fun M N h => r_top_b1 hA h u h1, hA⟩
  by_cases h1 : u < 1 ∨ 60 < u
  · exact ⟨_, _, fun M N h => c_top_b2 hA h hm h1, fun M N h => r_top_b2 hA h hm h1, hA⟩
  · obtain ⟨t, ht1, ht, rfl⟩ := rngN (lo := 1) (hi := 60) (by omega) (by omega) h1
    exact ⟨_, _, fun M N h => c_top hA h hm ht1 ht, fun M N h => r_top hA h hm ht1 ht, hA⟩
theorem op_sheet (hA : AOk A) (v u z : Int32) : OpOk mX11_sheet mX12_sheet [.int v, .int u, .int z] A := by
  obtain ⟨⟨n, k, P, pa⟩, kp, tp, sh⟩ := A
  by_cases h1 : v < 0 ∨ 3 < v
  · exact ⟨_, _, fun M N h => c_sheet_b1 hA h u z h1, fun M N h => r_sheet_b1 hA h u z h1, hA⟩
  by_cases h2 : u < 0 ∨ 3 < u
  · exact ⟨_, _, fun M N h => c_sheet_b2 hA h z h1 h2, fun M N h => r_sheet_b2 hA h z h1 h2, hA⟩
  by_cases h3 : 24 < z
  · exact ⟨_, _, fun M N h => c_sheet_b3 hA h h1 h2 h3, fun M N h => r_sheet_b3 hA h h1 h2 h3, hA⟩
  by_cases h4 : z < 0
  · exact ⟨_, _, fun M N h => c_sheet_s hA h h1 h2 h3 h4, fun M N h => r_sheet_s hA h h1 h2 h3 h4, hA⟩
  obtain ⟨a, -, ha, rfl⟩ := rngN (lo := 0) (hi := 3) (by omega) (by omega) h1
  obtain ⟨b, -, hb, rfl⟩ := rngN (lo := 0) (hi := 3) (by omega) (by omega) h2
  obtain ⟨q, -, hq, rfl⟩ := rngN (v := z) (lo := 0) (hi := 24) (by omega) (by omega) (fun q => q.elim h4 h3)
  exact ⟨_, _, fun M N h => c_sheet hA h (by omega) (by omega) hq, fun M N h => r_sheet hA h (by omega) (by omega) hq, hA.sheet (fun la ln f e => by cases e; exact ⟨by omega, hq⟩)⟩
theorem op_drop (hA : AOk A) (v : Int32) : OpOk mX11_drop mX12_drop [.int v] A := by
  obtain ⟨⟨n, k, P, pa⟩, kp, tp, sh⟩ := A
  by_cases h1 : v < 0 ∨ 3 < v
  · exact ⟨_, _, fun M N h => c_drop_b hA h h1, fun M N h => r_drop_b hA h h1, hA⟩
  obtain ⟨a, -, ha, rfl⟩ := rngN (lo := 0) (hi := 3) (by omega) (by omega) h1
  cases hs : sh a with
  | none => exact ⟨_, _, fun M N h => c_drop_n hA h (by omega) hs, fun M N h => r_drop_n hA h (by omega) hs, hA⟩
  | some z =>
    obtain ⟨la, ln, f⟩ := z
    exact ⟨_, _, fun M N h => c_drop hA h (by omega) hs, fun M N h => r_drop hA h (by omega) hs, hA.sheet (fun la ln f e => by cases e)⟩
theorem op_item (hA : AOk A) (v u z : Int32) (x : Int64) : OpOk mX11_item mX12_item [.int v, .int u, .int z, .long x] A := by
  obtain ⟨⟨n, k, P, pa⟩, kp, tp, sh⟩ := A
  rcases isN v 4 with h1 | ⟨a, ha, rfl⟩
  · exact ⟨_, _, fun M N h => c_item_b hA h z x (Or.inl h1), fun M N h => r_item_b hA h z x (Or.inl h1), hA⟩
  rcases isN u 4 with h1 | ⟨b, hb, rfl⟩
  · exact ⟨_, _, fun M N h => c_item_b hA h z x (Or.inr h1), fun M N h => r_item_b hA h z x (Or.inr h1), hA⟩
  by_cases hw : wrS (sh a) b z 1 = 0
  · obtain ⟨ln, f, q, hs, rfl, hq, hl⟩ := wrS_0 (n := 1) (fun la ln f e => (hA.2.2.2 a ha la ln f e).2) (by omega) hw
    exact ⟨_, _, fun M N h => c_item hA h x ha hb hs hq hl, fun M N h => r_item hA h x ha hb hs hq hl, hA.sheet (fun la ln f e => by cases e; exact ⟨hb, hl⟩)⟩
  · exact ⟨_, _, fun M N h => c_item_w hA h x ha hb hw, fun M N h => r_item_w hA h x ha hb hw, hA⟩
theorem op_copy (hA : AOk A) (v i u j z : Int32) : OpOk mX11_copy mX12_copy [.int v, .int i, .int u, .int j, .int z] A := by
  obtain ⟨⟨n, k, P, pa⟩, kp, tp, sh⟩ := A
  by_cases h1 : v < 0 ∨ 3 < v
  · exact ⟨_, _, fun M N h => c_copy_b1 hA h i u j z h1, fun M N h => r_copy_b1 hA h i u j z h1, hA⟩
  by_cases h2 : u < 0 ∨ 3 < u
  · exact ⟨_, _, fun M N h => c_copy_b2 hA h i j z h1 h2, fun M N h => r_copy_b2 hA h i j z h1 h2, hA⟩
  obtain ⟨a, -, ha, rfl⟩ := rngN (lo := 0) (hi := 3) (by omega) (by omega) h1
  obtain ⟨b, -, hb, rfl⟩ := rngN (lo := 0) (hi := 3) (by omega) (by omega) h2
  have ha : a < 4 := by omega
  have hb : b < 4 := by omega
  cases hs : sh a with
  | none => exact ⟨_, _, fun M N h => c_copy_n1 hA h i j z ha hb hs, fun M N h => r_copy_n1 hA h i j z ha hb hs, hA⟩
  | some y =>
    obtain ⟨la, ln, f⟩ := y
    cases hs2 : sh b with
    | none => exact ⟨_, _, fun M N h => c_copy_n2 hA h i j z ha hb hs hs2, fun M N h => r_copy_n2 hA h i j z ha hb hs hs2, hA⟩
    | some y2 =>
      obtain ⟨lb, lm, g⟩ := y2
      have l1 := (hA.2.2.2 a ha la ln f hs).2
      have l2 := hA.2.2.2 b hb lb lm g hs2
      by_cases hne : lb = la
      · by_cases q1 : 0 ≤ i ∧ 0 ≤ z ∧ i ≤ nI ln - z
        · by_cases q2 : 0 ≤ j ∧ 0 ≤ z ∧ j ≤ nI lm - z
          · obtain ⟨q, c, rfl, rfl, e1⟩ := has_inv l1 q1
            obtain ⟨t, c2, rfl, ec, e2⟩ := has_inv l2.2 q2
            have hcc : c2 = c := ((nI_eq (by omega) (by omega)).mp ec).symm
            subst hcc
            exact ⟨_, _, fun M N h => c_copy hA h ha hb hs hs2 hne e1 l1 e2 l2.2, fun M N h => r_copy hA h ha hb hs hs2 hne e1 l1 e2 l2.2, hA.sheet (fun la ln f e => by cases e; exact l2)⟩
          · exact ⟨_, _, fun M N h => c_copy_i2 hA h ha hb hs hs2 hne q1 q2, fun M N h => r_copy_i2 hA h ha hb hs hs2 hne q1 q2, hA⟩
        · exact ⟨_, _, fun M N h => c_copy_i1 hA h j ha hb hs hs2 hne q1, fun M N h => r_copy_i1 hA h j ha hb hs hs2 hne q1, hA⟩
      · exact ⟨_, _, fun M N h => c_copy_c hA h i j z ha hb hs hs2 (fun e => hne e.symm), fun M N h => r_copy_c hA h i j z ha hb hs hs2 (fun e => hne e.symm), hA⟩
theorem op_ledger (hA : AOk A) (v u z i x : Int32) : OpOk mX11_ledger mX12_ledger [.int v, .int u, .int z, .int i, .int x] A := by
  obtain ⟨⟨n, k, P, pa⟩, kp, tp, sh⟩ := A
  rcases isN v n with h1 | ⟨m, hm, rfl⟩
  · exact ⟨_, _, fun M N h => c_ledger_b1 hA h u z i x h1, fun M N h => r_ledger_b1 hA h u z i x h1, hA⟩
  by_cases h1 : x < 1 ∨ 8 < x
  · exact ⟨_, _, fun M N h => c_ledger_b2 hA h u z i hm h1, fun M N h => r_ledger_b2 hA h u z i hm h1, hA⟩
  rcases isN u 4 with h2 | ⟨a, ha, rfl⟩
  · exact ⟨_, _, fun M N h => c_ledger_b3 hA h i hm h1 (Or.inl h2), fun M N h => r_ledger_b3 hA h i hm h1 (Or.inl h2), hA⟩
  rcases isN z 4 with h2 | ⟨b, hb, rfl⟩
  · exact ⟨_, _, fun M N h => c_ledger_b3 hA h i hm h1 (Or.inr h2), fun M N h => r_ledger_b3 hA h i hm h1 (Or.inr h2), hA⟩
  by_cases hw : wrS (sh a) b i x = 0
  · obtain ⟨c, hc1, hc8, rfl⟩ := rngN (lo := 1) (hi := 8) (by omega) (by omega) h1
    obtain ⟨ln, f, q, hs, rfl, hq, hl⟩ := wrS_0 (n := c) (fun la ln f e => (hA.2.2.2 a ha la ln f e).2) (by omega) hw
    exact ⟨_, _, fun M N h => c_ledger hA h hm hc1 hc8 ha hb hs hq hl, fun M N h => r_ledger hA h hm hc1 hc8 ha hb hs hq hl, hA⟩
  · exact ⟨_, _, fun M N h => c_ledger_w hA h hm h1 ha hb hw, fun M N h => r_ledger_w hA h hm h1 ha hb hw, hA⟩
theorem op_film (hA : AOk A) (v x u z i : Int32) : OpOk mX11_film mX12_film [.int v, .int x, .int u, .int z, .int i] A := by
  obtain ⟨⟨n, k, P, pa⟩, kp, tp, sh⟩ := A
  rcases isN v n with h1 | ⟨m, hm, rfl⟩
  · exact ⟨_, _, fun M N h => c_film_b1 hA h x u z i h1, fun M N h => r_film_b1 hA h x u z i h1, hA⟩
  by_cases h1 : x < 1 ∨ 24 < x
  · exact ⟨_, _, fun M N h => c_film_b2 hA h u z i hm h1, fun M N h => r_film_b2 hA h u z i hm h1, hA⟩
  rcases isN u 4 with h2 | ⟨a, ha, rfl⟩
  · exact ⟨_, _, fun M N h => c_film_b3 hA h i hm h1 (Or.inl h2), fun M N h => r_film_b3 hA h i hm h1 (Or.inl h2), hA⟩
  rcases isN z 4 with h2 | ⟨b, hb, rfl⟩
  · exact ⟨_, _, fun M N h => c_film_b3 hA h i hm h1 (Or.inr h2), fun M N h => r_film_b3 hA h i hm h1 (Or.inr h2), hA⟩
  by_cases hw : wrS (sh a) b i x = 0
  · obtain ⟨c, hc1, hc8, rfl⟩ := rngN (lo := 1) (hi := 24) (by omega) (by omega) h1
    obtain ⟨ln, f, q, hs, rfl, hq, hl⟩ := wrS_0 (n := c) (fun la ln f e => (hA.2.2.2 a ha la ln f e).2) (by omega) hw
    exact ⟨_, _, fun M N h => c_film hA h hm hc1 hc8 ha hb hs hq hl, fun M N h => r_film hA h hm hc1 hc8 ha hb hs hq hl, hA.sheet (fun la ln f e => by cases e; exact ⟨hb, hl⟩)⟩
  · exact ⟨_, _, fun M N h => c_film_w hA h hm h1 ha hb hw, fun M N h => r_film_w hA h hm h1 ha hb hw, hA⟩
end OPS2
