/-! ===== luck, purely: events, the line, the draws' numbers ===== -/
theorem flE_R {o : Nat → Nat} {t m : Nat} : ∀ n, flE (evR o t n) m = if m < n ∧ o m ≤ t ∧ t < o m + 3 then [3 - (t - o m)] else []
  | 0 => by rw [if_neg (by omega)]; rfl
  | n + 1 => by
    unfold evR
    rw [flE_append, flE_R n]
    by_cases e : m = n
    · subst e
      rw [if_neg (by omega), List.nil_append]
      by_cases h : o m ≤ t ∧ t < o m + 3
      · rw [if_pos h, if_pos (by omega)]
        show (if m = m then _ else _) = _
        rw [if_pos rfl]; rfl
      · rw [if_neg h, if_neg (by omega)]; rfl
    · have h0 : flE (if o n ≤ t ∧ t < o n + 3 then [(n, 3 - (t - o n))] else []) m = [] := by
        split
        · show (if n = m then _ else _) = _
          rw [if_neg (fun q => e q.symm)]; rfl
        · rfl
      rw [h0, List.append_nil]
      by_cases h : m < n ∧ o m ≤ t ∧ t < o m + 3
      · rw [if_pos h, if_pos (by omega)]
      · rw [if_neg h, if_neg (by omega)]
theorem flE_L {o : Nat → Nat} {n m : Nat} (hm : m < n) : ∀ T, flE (evL o n T) m = if T ≤ o m then [] else if T = o m + 1 then [3] else if T = o m + 2 then [3, 2] else [3, 2, 1]
  | 0 => by rw [if_pos (by omega)]; rfl
  | T + 1 => by
    unfold evL
    rw [flE_append, flE_L hm T, flE_R]
    by_cases h1 : T < o m
    · rw [if_pos (by omega), if_neg (by omega), if_pos (by omega)]; rfl
    · by_cases h2 : T = o m
      · rw [if_pos (by omega), if_pos (by omega), if_neg (by omega), if_pos (by omega), h2, Nat.sub_self]; rfl
      · by_cases h3 : T = o m + 1
        · rw [if_neg (by omega), if_pos h3, if_pos (by omega), if_neg (by omega), if_neg (by omega), if_pos (by omega), show 3 - (T - o m) = 2 by omega]; rfl
        · by_cases h4 : T = o m + 2
          · rw [if_neg (by omega), if_neg h3, if_pos h4, if_pos (by omega), if_neg (by omega), if_neg (by omega), if_neg (by omega), show 3 - (T - o m) = 1 by omega]; rfl
          · rw [if_neg (by omega), if_neg h3, if_neg h4, if_neg (by omega), if_neg (by omega), if_neg (by omega), if_neg (by omega)]; rfl
theorem Inv0 {o : Nat → Nat} {n : Nat} (ho : ∀ m, o m ≤ 35) : Inv n (evL o n 38) 0 (fun _ => 0) (fun _ => 3) := fun m hm => by
  have h9 := ho m
  refine ⟨Nat.zero_le 2, fun hs => (by rw [Nat.zero_testBit] at hs; cases hs), fun _ => ⟨rfl, ?_⟩⟩
  rw [flE_L hm, if_neg (by omega), if_neg (by omega), if_neg (by omega)]; rfl
theorem firE_append {d : Nat → Nat} : ∀ (E F : List (Nat × Nat)), firE d (E ++ F) = firE d E ++ firE d F
  | [], F => rfl
  | e :: E, F => by
    show (if e.2 = 3 - d e.1 then e.1 :: firE d (E ++ F) else firE d (E ++ F)) = (if e.2 = 3 - d e.1 then e.1 :: firE d E else firE d E) ++ firE d F
    rw [firE_append E F]
    split <;> rfl
def lt3 (f : Nat → Nat) (a b : Nat) : Prop := f a < f b ∨ (f a = f b ∧ a < b)
theorem firE_R {o d : Nat → Nat} {t : Nat} : ∀ n, (∀ m, m < n → d m < 3) → (∀ x, x ∈ firE d (evR o t n) ↔ x < n ∧ o x + d x = t) ∧ (firE d (evR o t n)).Pairwise (lt3 (fun m => o m + d m))
  | 0, _ => ⟨fun x => ⟨fun h => (by cases h), fun h => absurd h.1 (Nat.not_lt_zero _)⟩, List.Pairwise.nil⟩
  | n + 1, hd => by
    obtain ⟨h1, h2⟩ := firE_R (o := o) (d := d) (t := t) n (fun m hm => hd m (by omega))
    have hdn := hd n (by omega)
    have hl : firE d (if o n ≤ t ∧ t < o n + 3 then [(n, 3 - (t - o n))] else []) = if o n + d n = t then [n] else [] := by
      by_cases e : o n + d n = t
      · rw [if_pos (by omega), if_pos e]
        show (if 3 - (t - o n) = 3 - d n then [n] else []) = [n]
        rw [if_pos (by omega)]
      · rw [if_neg e]
        split
        · show (if 3 - (t - o n) = 3 - d n then [n] else []) = []
          rw [if_neg (by omega)]
        · rfl
    unfold evR
    rw [firE_append, hl]
    by_cases e : o n + d n = t
    · rw [if_pos e]
      refine ⟨fun x => ?_, List.pairwise_append.mpr ⟨h2, List.pairwise_singleton _ _, fun a ha b hb => ?_⟩⟩
      · rw [List.mem_append, h1 x, List.mem_singleton]
        constructor
        · rintro (h | h)
          · exact ⟨by omega, h.2⟩
          · subst h; exact ⟨by omega, e⟩
        · intro h
          by_cases ex : x = n
          · exact Or.inr ex
          · exact Or.inl ⟨by omega, h.2⟩
      · rw [List.mem_singleton] at hb
        subst hb
        have := (h1 a).mp ha
        exact Or.inr ⟨by show o a + d a = o b + d b; omega, this.1⟩
    · rw [if_neg e, List.append_nil]
      refine ⟨fun x => ?_, h2⟩
      rw [h1 x]
      constructor
      · intro h; exact ⟨by omega, h.2⟩
      · intro h
        refine ⟨?_, h.2⟩
        rcases Nat.lt_or_eq_of_le (Nat.le_of_lt_succ h.1) with q | q
        · exact q
        · subst q; exact absurd h.2 e
theorem firE_L {o d : Nat → Nat} {n : Nat} (hd : ∀ m, m < n → d m < 3) : ∀ T, (∀ x, x ∈ firE d (evL o n T) ↔ x < n ∧ o x + d x < T) ∧ (firE d (evL o n T)).Pairwise (lt3 (fun m => o m + d m))
  | 0 => ⟨fun x => ⟨fun h => (by cases h), fun h => absurd h.2 (Nat.not_lt_zero _)⟩, List.Pairwise.nil⟩
  | T + 1 => by
    obtain ⟨h1, h2⟩ := firE_L (o := o) (d := d) (n := n) hd T
    obtain ⟨g1, g2⟩ := firE_R (o := o) (d := d) (t := T) n hd
    unfold evL
    rw [firE_append]
    refine ⟨fun x => ?_, List.pairwise_append.mpr ⟨h2, g2, fun a ha b hb => ?_⟩⟩
    · rw [List.mem_append, h1 x, g1 x]
      constructor
      · rintro (h | h)
        · exact ⟨h.1, by omega⟩
        · exact ⟨h.1, by omega⟩
      · intro h
        by_cases e : o x + d x = T
        · exact Or.inr ⟨h.1, e⟩
        · exact Or.inl ⟨h.1, by omega⟩
    · have q1 := (h1 a).mp ha
      have q2 := (g1 b).mp hb
      exact Or.inl (by show o a + d a < o b + d b; omega)
theorem sorted_uniq {R : Nat → Nat → Prop} (hirr : ∀ a, ¬ R a a) (hasy : ∀ a b, R a b → ¬ R b a) : ∀ (l1 l2 : List Nat), l1.Pairwise R → l2.Pairwise R → (∀ x, x ∈ l1 ↔ x ∈ l2) → l1 = l2
  | [], [], _, _, _ => rfl
  | [], b :: l2, _, _, h => by have := (h b).mpr List.mem_cons_self; cases this
  | a :: l1, [], _, _, h => by have := (h a).mp List.mem_cons_self; cases this
  | a :: l1, b :: l2, p1, p2, h => by
    obtain ⟨p1a, p1b⟩ := List.pairwise_cons.mp p1
    obtain ⟨p2a, p2b⟩ := List.pairwise_cons.mp p2
    have hab : a = b := by
      rcases List.mem_cons.mp ((h a).mp List.mem_cons_self) with q | q
      · exact q
      · rcases List.mem_cons.mp ((h b).mpr List.mem_cons_self) with r | r
        · exact r.symm
        · exact absurd (p2a a q) (hasy _ _ (p1a b r))
    subst hab
    rw [sorted_uniq hirr hasy l1 l2 p1b p2b (fun x => ⟨fun hx => ?_, fun hx => ?_⟩)]
    · rcases List.mem_cons.mp ((h x).mp (List.mem_cons_of_mem _ hx)) with q | q
      · subst q; exact absurd (p1a x hx) (hirr x)
      · exact q
    · rcases List.mem_cons.mp ((h x).mpr (List.mem_cons_of_mem _ hx)) with q | q
      · subst q; exact absurd (p2a x hx) (hirr x)
      · exact q
/-- the events fire in the order of the line -/
theorem firE_line {o d : Nat → Nat} {n : Nat} {off : Nat → Int32} (hd : ∀ m, m < n → d m < 3) (ho : ∀ m, o m ≤ 35) (hoff : ∀ m, m < n → off m = nI (o m + d m)) : firE d (evL o n 38) = (List.range n).map (lineA off n) := by
  obtain ⟨h1, h2⟩ := firE_L (o := o) (d := d) (n := n) hd 38
  obtain ⟨g1, g2⟩ := lineA_sorted (off := off) n
  refine sorted_uniq (R := lt3 (fun m => o m + d m)) (fun a h => by unfold lt3 at h; omega) (fun a b h q => by unfold lt3 at h q; omega) _ _ h2 ?_ (fun x => ?_)
  · refine List.pairwise_map.mpr (List.pairwise_lt_range.imp_of_mem (fun {a b} ha hb hab => ?_))
    have ha := List.mem_range.mp ha
    have hb := List.mem_range.mp hb
    have h9 := g1 a b hab hb
    have la := lineA_lt (off := off) ha
    have lb := lineA_lt (off := off) hb
    unfold lt2 at h9
    rw [hoff _ la, hoff _ lb] at h9
    have oa := ho (lineA off n a)
    have ob := ho (lineA off n b)
    have da := hd _ la
    have db := hd _ lb
    rw [nI_toInt (by omega), nI_toInt (by omega)] at h9
    unfold lt3
    rcases h9 with h9 | h9
    · left; show o _ + d _ < o _ + d _; omega
    · right; exact ⟨by show o _ + d _ = o _ + d _; omega, h9.2⟩
  · rw [h1 x, List.mem_map]
    constructor
    · intro h
      obtain ⟨i, hi, e⟩ := g2 x h.1
      exact ⟨i, List.mem_range.mpr hi, e⟩
    · rintro ⟨i, hi, e⟩
      have hx := lineA_lt (off := off) (List.mem_range.mp hi)
      rw [e] at hx
      have := ho x
      have := hd x hx
      exact ⟨hx, by omega⟩
theorem chG_keep {P : Nat → Int32} {k man : Nat} {ln : Nat → Nat} {t : Nat} : ∀ u, (∀ j, t ≤ j → j < t + u → ln j ≠ man) → (chG P k ln (t + u)).2 man = (chG P k ln t).2 man
  | 0, _ => rfl
  | u + 1, h => by
    show (if man = ln (t + u) then _ else (chG P k ln (t + u)).2 man) = _
    rw [if_neg (fun q => h (t + u) (by omega) (by omega) q.symm), chG_keep u (fun j h1 h2 => h j h1 (by omega))]
theorem indL_line {P : Nat → Int32} {k man n j0 : Nat} {nm : Option Nat} {ln : Nat → Nat} (hj : ln j0 = man) (hj0 : j0 < n) (hinj : ∀ i j, i < n → j < n → ln i = ln j → i = j) : ∀ u t, t + u = n → t ≤ j0 → indL P k man nm ((List.range' t u).map ln) (chG P k ln t).1 = if (chG P k ln n).2 man = nm then 1 else 0
  | 0, t, h1, h2 => by omega
  | u + 1, t, h1, h2 => by
    rw [List.range'_succ, List.map_cons]
    by_cases e : t = j0
    · subst e
      have h3 : (chG P k ln n).2 man = wishP P (ln t) (chG P k ln t).1 k := by
        rw [show n = (t + 1) + (n - (t + 1)) by omega, chG_keep (n - (t + 1)) (fun j a1 a2 q => by have := hinj j t (by omega) hj0 (q.trans hj.symm); omega)]
        show (if man = ln t then _ else _) = _
        rw [if_pos hj.symm]
      rw [h3]
      show (if ln t = man then _ else _) = _
      rw [if_pos hj]
    · have hne : ln t ≠ man := fun q => e (hinj t j0 (by omega) hj0 (q.trans hj.symm))
      show (if ln t = man then _ else indL P k man nm ((List.range' (t + 1) u).map ln) (addS (chG P k ln t).1 (wishP P (ln t) (chG P k ln t).1 k))) = _
      rw [if_neg hne]
      exact indL_line hj hj0 hinj u (t + 1) (by omega) (by omega)
theorem indL_cho {P : Nat → Int32} {n k man : Nat} {nm : Option Nat} {off : Nat → Int32} (hman : man < n) : indL P k man nm ((List.range n).map (lineA off n)) 0 = if (chG P k (lineA off n) n).2 man = nm then 1 else 0 := by
  obtain ⟨g1, g2⟩ := lineA_sorted (off := off) n
  obtain ⟨j0, hj0, hj⟩ := g2 man hman
  rw [List.range_eq_range']
  refine indL_line (ln := lineA off n) hj hj0 (fun i j hi hj e => ?_) n 0 (by omega) (by omega)
  rcases Nat.lt_trichotomy i j with q | q | q
  · have := g1 i j q hj; rw [e] at this; unfold lt2 at this; omega
  · exact q
  · have := g1 j i q hi; rw [e] at this; unfold lt2 at this; omega
theorem dig_lo {n m x c : Nat} (hm : m < n) : (x * 3 ^ n + c) / 3 ^ m % 3 = c / 3 ^ m % 3 := by
  have e : 3 ^ n = 3 ^ m * (3 * 3 ^ (n - m - 1)) := by
    rw [← Nat.pow_succ', ← Nat.pow_add]
    congr 1
    omega
  have hp : 0 < 3 ^ m := Nat.pow_pos (by omega)
  rw [e, show x * (3 ^ m * (3 * 3 ^ (n - m - 1))) + c = c + 3 ^ m * (3 * (x * 3 ^ (n - m - 1))) by
    rw [Nat.add_comm]; congr 1; rw [Nat.mul_left_comm, Nat.mul_left_comm x 3], Nat.add_mul_div_left _ _ hp, Nat.add_mul_mod_self_left]
theorem dig_hi {n x c : Nat} (hx : x < 3) (hc : c < 3 ^ n) : (x * 3 ^ n + c) / 3 ^ n % 3 = x := by
  have hp : 0 < 3 ^ n := Nat.pow_pos (by omega)
  rw [Nat.add_comm, Nat.add_mul_div_right _ _ hp, Nat.div_eq_of_lt hc, Nat.zero_add, Nat.mod_eq_of_lt hx]
theorem BS_codes : ∀ (n : Nat) (F : (Nat → Nat) → Nat), (∀ d d' : Nat → Nat, (∀ m, m < n → d m = d' m) → F d = F d') → sumN (fun c => F (fun m => c / 3 ^ m % 3)) (3 ^ n) = BS (fun _ => 0) (fun _ => 3) n F
  | 0, F, hF => by
    show 0 + F _ = F _
    rw [Nat.zero_add]
    exact hF _ _ (fun m hm => absurd hm (Nat.not_lt_zero _))
  | n + 1, F, hF => by
    have key : ∀ x, x < 3 → sumN (fun c => F (fun m => (x * 3 ^ n + c) / 3 ^ m % 3)) (3 ^ n) = BS (fun _ => 0) (fun _ => 3) n (fun d => F (dU d n x)) := by
      intro x hx
      rw [← BS_codes n (fun d => F (dU d n x)) (fun d d' h => hF _ _ (fun m hm => by
        by_cases e : m = n
        · subst e; rw [dU_at, dU_at]
        · rw [dU_ne e, dU_ne e]; exact h m (by omega)))]
      refine sumN_congr (fun c hc => hF _ _ (fun m hm => ?_))
      by_cases e : m = n
      · subst e; rw [dU_at]; exact dig_hi hx hc
      · rw [dU_ne e]; exact dig_lo (by omega)
    have h0 := key 0 (by omega)
    have h1 := key 1 (by omega)
    have h2 := key 2 (by omega)
    show _ = 0 + BS _ _ n _ + BS _ _ n _ + BS _ _ n _
    rw [show 3 ^ (n + 1) = 3 ^ n + (3 ^ n + 3 ^ n) by rw [Nat.pow_succ]; omega, sumN_add, sumN_add]
    simp only [Nat.zero_add]
    rw [← h0, ← h1, ← h2, ← Nat.add_assoc]
    simp only [Nat.zero_mul, Nat.zero_add, Nat.one_mul, Nat.two_mul, Nat.add_assoc]
/-- the class's count is the reference's -/
theorem luck_sum {P : Nat → Int32} {n k man : Nat} {nm : Option Nat} {o : Nat → Nat} (hk : k ≤ 6) (hman : man < n) (hnm : ∀ i, nm = some i → i < k) (ho : ∀ m, o m ≤ 35) : wF P k man nm (evL o n 38) 0 0 = sumN (fun c => if (chG P k (lineA (fun m => nI (o m + c / 3 ^ m % 3)) n) n).2 man = nm then 1 else 0) (3 ^ n) := by
  have h1 := wF_box (P := P) (n := n) (man := man) hk hnm (evL o n 38) 0 0 (fun _ => 0) (fun _ => 3) (by omega) (fun e he => (evL_mem (m := e.1) (l := e.2) he).1) (Inv0 ho) (Nat.zero_testBit man)
  have h2 : (nI 0 : Int32) = 0 := nI_0
  rw [h2] at h1
  rw [h1]
  have h3 := BS_codes n (fun d => indL P k man nm (firE (fun m => d m % 3) (evL o n 38)) 0) (fun d d' h => by
    have e : firE (fun m => d m % 3) (evL o n 38) = firE (fun m => d' m % 3) (evL o n 38) := by
      rw [firE_line (off := fun m => nI (o m + d m % 3)) (fun m _ => Nat.mod_lt _ (by omega)) ho (fun m _ => rfl), firE_line (off := fun m => nI (o m + d m % 3)) (fun m _ => Nat.mod_lt _ (by omega)) ho (fun m hm => by rw [h m hm])]
    show indL P k man nm (firE (fun m => d m % 3) _) 0 = indL P k man nm (firE (fun m => d' m % 3) _) 0
    rw [e])
  have h4 : BS (fun _ => 0) (fun _ => 3) n (fun d => indL P k man nm (firE d (evL o n 38)) 0) = BS (fun _ => 0) (fun _ => 3) n (fun d => indL P k man nm (firE (fun m => d m % 3) (evL o n 38)) 0) := BS_congr (fun d hd => by
    rw [firE_line (off := fun m => nI (o m + d m)) (fun m hm => (hd m hm).2) ho (fun m _ => rfl), firE_line (off := fun m => nI (o m + d m)) (fun m _ => Nat.mod_lt _ (by omega)) ho (fun m hm => by rw [Nat.mod_eq_of_lt (hd m hm).2])])
  rw [h4, ← h3]
  refine sumN_congr (fun c _ => ?_)
  show indL P k man nm (firE (fun m => c / 3 ^ m % 3 % 3) (evL o n 38)) 0 = _
  rw [firE_line (off := fun m => nI (o m + c / 3 ^ m % 3)) (fun m _ => Nat.mod_lt _ (by omega)) ho (fun m _ => by rw [Nat.mod_mod]), indL_cho hman]
theorem luck_le {P : Nat → Int32} {n k man : Nat} {nm : Option Nat} {o : Nat → Nat} (hn : n ≤ 6) (hk : k ≤ 6) (hman : man < n) (hnm : ∀ i, nm = some i → i < k) (ho : ∀ m, o m ≤ 35) : wF P k man nm (evL o n 38) 0 0 ≤ 3 ^ n ∧ 3 ^ n ≤ 729 := by
  rw [luck_sum hk hman hnm ho]
  exact ⟨sumN_le (fun i => by split <;> omega) _, Nat.pow_le_pow_right (n := 3) (by omega) hn⟩
theorem rdc_gcd : ∀ f w, rdc f w (3 ^ f) = (w / Nat.gcd w (3 ^ f), 3 ^ f / Nat.gcd w (3 ^ f))
  | 0, w => by
    show (w, 1) = _
    rw [Nat.pow_zero, Nat.gcd_one_right, Nat.div_one, Nat.div_one]
  | f + 1, w => by
    unfold rdc
    split
    · rename_i h
      have hw : w = 3 * (w / 3) := by omega
      have e : 3 ^ (f + 1) / 3 = 3 ^ f := by rw [Nat.pow_succ, Nat.mul_div_cancel _ (by omega)]
      rw [e, rdc_gcd f (w / 3)]
      generalize w / 3 = v at hw
      subst hw
      rw [Nat.pow_succ', Nat.gcd_mul_left, Nat.mul_div_mul_left _ _ (by omega), Nat.mul_div_mul_left _ _ (by omega)]
    · rename_i h
      have hc : Nat.Coprime w 3 := by
        show Nat.gcd w 3 = 1
        rw [Nat.gcd_comm, Nat.gcd_rec]
        rcases (show w % 3 = 1 ∨ w % 3 = 2 by omega) with q | q <;> rw [q] <;> decide
      have h1 : Nat.gcd w (3 ^ (f + 1)) = 1 := Nat.Coprime.pow_right (f + 1) hc
      rw [h1, Nat.div_one, Nat.div_one]
