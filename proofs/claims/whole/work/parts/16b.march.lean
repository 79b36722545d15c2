/-! ===== a March, purely ===== -/
theorem lineA_surj {off : Nat → Int32} : ∀ {n x : Nat}, x < n → ∃ i, i < n ∧ lineA off n i = x
  | 0, _, h => absurd h (Nat.not_lt_zero _)
  | n + 1, x, h => by
    have hq := plc_le (off := off) (m := n) (l := lineA off n) n
    show ∃ i, i < n + 1 ∧ insA off n (lineA off n) i = x
    by_cases e : x = n
    · subst e
      exact ⟨plc off x (lineA off x) x, by omega, by unfold insA; rw [if_neg (Nat.lt_irrefl _), if_pos rfl]⟩
    · obtain ⟨i, hi, hx⟩ := lineA_surj (off := off) (n := n) (x := x) (by omega)
      by_cases hi2 : i < plc off n (lineA off n) n
      · exact ⟨i, by omega, by unfold insA; rw [if_pos hi2]; exact hx⟩
      · refine ⟨i + 1, by omega, ?_⟩
        unfold insA
        rw [if_neg (by omega), if_neg (by omega), Nat.add_sub_cancel]
        exact hx
def handM (P : Nat → Int32) (c : Nat → Option Nat) (m : Nat) : Int32 := match c m with
  | none => if P (10 + m) < 9 then P (10 + m) + 1 else P (10 + m)
  | some _ => P (10 + m)
def credM (P : Nat → Int32) (c : Nat → Option Nat) (m : Nat) : Int32 := match c m with
  | none => P (22 + m)
  | some i => P (22 + m) + valP P m i
def decI (x : Int32) : Int32 := if 0 < x then x - 1 else x
def worthM (P : Nat → Int32) (s : Int32) (i : Nat) : Int32 := if (s >>> (nI i &&& 31)) &&& 1 = 0 then decI (P (34 + i)) else P (34 + i)
def debtM (P : Nat → Int32) (s : Int32) (i : Nat) : Int32 := if (s >>> (nI i &&& 31)) &&& 1 = 0 then P (40 + i) else decI (P (40 + i))
/-- one MARCH with st stones -/
def marchP (n k : Nat) (P : Nat → Int32) (st : Int32) : Nat → Int32 := fun j =>
  if j = 3 then P 3 + 1 else if 10 ≤ j ∧ j < 10 + n then handM P (choP P n k st).2 (j - 10) else if 22 ≤ j ∧ j < 22 + n then credM P (choP P n k st).2 (j - 22)
  else if 28 ≤ j ∧ j < 28 + n then optI (-4) ((choP P n k st).2 (j - 28)) else if 34 ≤ j ∧ j < 34 + k then worthM P (choP P n k st).1 (j - 34) else if 40 ≤ j ∧ j < 40 + k then debtM P (choP P n k st).1 (j - 40) else P j
section MP
variable {n k : Nat} {P : Nat → Int32} {st : Int32}
theorem mp_3 : marchP n k P st 3 = P 3 + 1 := by unfold marchP; rw [if_pos rfl]
theorem mp_hand {m : Nat} (hn : n ≤ 6) (hm : m < n) : marchP n k P st (10 + m) = handM P (choP P n k st).2 m := by
  unfold marchP; rw [if_neg (by omega), if_pos (by omega), Nat.add_sub_cancel_left]
theorem mp_cred {m : Nat} (hn : n ≤ 6) (hm : m < n) : marchP n k P st (22 + m) = credM P (choP P n k st).2 m := by
  unfold marchP; rw [if_neg (by omega), if_neg (by omega), if_pos (by omega), Nat.add_sub_cancel_left]
theorem mp_call {m : Nat} (hn : n ≤ 6) (hm : m < n) : marchP n k P st (28 + m) = optI (-4) ((choP P n k st).2 m) := by
  unfold marchP; rw [if_neg (by omega), if_neg (by omega), if_neg (by omega), if_pos (by omega), Nat.add_sub_cancel_left]
theorem mp_worth {i : Nat} (hn : n ≤ 6) (hk : k ≤ 6) (hi : i < k) : marchP n k P st (34 + i) = worthM P (choP P n k st).1 i := by
  unfold marchP; rw [if_neg (by omega), if_neg (by omega), if_neg (by omega), if_neg (by omega), if_pos (by omega), Nat.add_sub_cancel_left]
theorem mp_debt {i : Nat} (hn : n ≤ 6) (hk : k ≤ 6) (hi : i < k) : marchP n k P st (40 + i) = debtM P (choP P n k st).1 i := by
  unfold marchP; rw [if_neg (by omega), if_neg (by omega), if_neg (by omega), if_neg (by omega), if_neg (by omega), if_pos (by omega), Nat.add_sub_cancel_left]
theorem mp_same {j : Nat} (h3 : j ≠ 3) (h : j < 10 ∨ (10 + n ≤ j ∧ j < 22) ∨ (22 + n ≤ j ∧ j < 28) ∨ (28 + n ≤ j ∧ j < 34) ∨ (34 + k ≤ j ∧ j < 40) ∨ 40 + k ≤ j) (hn : n ≤ 6) (hk : k ≤ 6) : marchP n k P st j = P j := by
  unfold marchP; rw [if_neg h3, if_neg (by omega), if_neg (by omega), if_neg (by omega), if_neg (by omega), if_neg (by omega)]
theorem dec_ok : ∀ q, q < 21 → (∃ z, z ≤ 20 ∧ decI (nI q) = nI z) := by
  intro q hq
  unfold decI
  cases q with
  | zero => exact ⟨0, by omega, by decide⟩
  | succ q =>
    refine ⟨q, by omega, ?_⟩
    have h9 : (0 : Int32) < nI (q + 1) := nI_lt (a := 0) (b := q + 1) (by omega) (by omega)
    rw [if_pos h9, nI_pred]
theorem dec_max : ∀ q, q < 21 → (if (0 : Int32) < nI q - 1 then nI q - 1 else 0) = decI (nI q) := by decide
theorem unN_optI {o : Option Nat} {k : Nat} (h : ∀ i, o = some i → i < k) (hk : k ≤ 6) : unN (optI (-4) o) = optI (-1) o := by
  cases o with
  | none => decide
  | some i =>
    have hi := h i rfl
    unfold unN optI
    rw [if_neg]
    intro q
    have h1 := congrArg Int32.toInt q
    rw [nI_toInt (by omega)] at h1
    have h2 : (-4 : Int32).toInt = -4 := by decide
    omega
theorem choP_lt {m i : Nat} (h : (choP P n k st).2 m = some i) : i < k := chG_lt h
/-- a March keeps a parish such as may be -/
theorem OkP.march (h : OkP n k P) : OkP n k (marchP n k P st) := by
  obtain ⟨hn, hk, h0, h1, hm, hm2, hi, hi2⟩ := h
  refine ⟨hn, hk, ?_, ?_, fun m hmn => ?_, fun m a1 a2 => ?_, fun i hik => ?_, fun i a1 a2 => ?_⟩
  · rw [mp_same (by omega) (by omega) hn hk]; exact h0
  · rw [mp_same (by omega) (by omega) hn hk]; exact h1
  · obtain ⟨⟨q, q4, eq⟩, ⟨z, z9, ez⟩, ⟨o, o1, o4, eo⟩, hc⟩ := hm m hmn
    refine ⟨⟨q, q4, ?_⟩, ?_, ⟨o, o1, o4, ?_⟩, ?_⟩
    · rw [mp_same (by omega) (by omega) hn hk]; exact eq
    · rw [mp_hand hn hmn]
      unfold handM
      split
      · rw [ez]
        by_cases h9 : z = 9
        · subst h9; exact ⟨9, by omega, by decide⟩
        · have h8 : nI z < (9 : Int32) := nI_lt (a := z) (b := 9) (by omega) (by omega)
          rw [if_pos h8]
          exact ⟨z + 1, by omega, nI_1 z⟩
      · exact ⟨z, z9, ez⟩
    · rw [mp_same (by omega) (by omega) hn hk]; exact eo
    · rw [mp_call hn hmn]
      cases hc9 : (choP P n k st).2 m with
      | none => exact Or.inl rfl
      | some i => exact Or.inr ⟨i, choP_lt hc9, rfl⟩
  · rw [mp_same (by omega) (by omega) hn hk, mp_same (by omega) (by omega) hn hk]; exact hm2 m a1 a2
  · obtain ⟨⟨q, q20, eq⟩, ⟨z, z20, ez⟩⟩ := hi i hik
    rw [mp_worth hn hk hik, mp_debt hn hk hik]
    unfold worthM debtM
    split
    · rw [eq, ez]; exact ⟨dec_ok q (by omega), z, z20, rfl⟩
    · rw [eq, ez]; exact ⟨⟨q, q20, rfl⟩, dec_ok z (by omega)⟩
  · rw [mp_same (by omega) (by omega) hn hk, mp_same (by omega) (by omega) hn hk]; exact hi2 i a1 a2
end MP
