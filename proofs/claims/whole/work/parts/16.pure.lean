/-! ===== the pure side: a parish is P : Nat → Int32 in the reference's layout (0 men, 1 names, 2 stones, 3 march, 4+ kind, 10+ hand, 16+ oxen, 22+ credit, 28+ called (-4 none), 34+ worth, 40+ debt, 46 draw) ===== -/
def offP (P : Nat → Int32) (st : Int32) (m : Nat) : Int32 := offK (P (4 + m)) (P (10 + m)) (P (16 + m)) st (P 3)
def valP (P : Nat → Int32) (m i : Nat) : Int32 := valK (P (4 + m)) (P (34 + i)) (P (40 + i)) (decide (m = i))
/-- the place of m behind l's first q: behind all that are not further off -/
def plc (off : Nat → Int32) (m : Nat) (l : Nat → Nat) : Nat → Nat
  | 0 => 0
  | q + 1 => if off m < off (l q) then plc off m l q else q + 1
def insA (off : Nat → Int32) (m : Nat) (l : Nat → Nat) : Nat → Nat := fun j => if j < plc off m l m then l j else if j = plc off m l m then m else l (j - 1)
/-- THE LINE: who stands at each place -/
def lineA (off : Nat → Int32) : Nat → Nat → Nat
  | 0 => fun _ => 0
  | m + 1 => insA off m (lineA off m)
theorem plc_le {off : Nat → Int32} {m : Nat} {l : Nat → Nat} : ∀ q, plc off m l q ≤ q
  | 0 => Nat.le_refl _
  | q + 1 => by
    unfold plc
    split
    · exact Nat.le_succ_of_le (plc_le q)
    · exact Nat.le_refl _
theorem lineA_lt {off : Nat → Int32} : ∀ {n j : Nat}, j < n → lineA off n j < n
  | 0, _, h => absurd h (Nat.not_lt_zero _)
  | n + 1, j, h => by
    show insA off n (lineA off n) j < n + 1
    have hq := plc_le (off := off) (m := n) (l := lineA off n) n
    unfold insA
    split
    · have := lineA_lt (off := off) (n := n) (j := j) (by omega)
      omega
    · split
      · omega
      · have := lineA_lt (off := off) (n := n) (j := j - 1) (by omega)
        omega
/-- what man m takes of names 0 .. i - 1 when the set s is gone -/
def wishP (P : Nat → Int32) (m : Nat) (s : Int32) : Nat → Option Nat
  | 0 => none
  | i + 1 => if (s >>> (nI i &&& 31)) &&& 1 = 0 then (match wishP P m s i with
      | none => some i
      | some b => if valP P m b < valP P m i then some i else some b) else wishP P m s i
theorem wishP_lt {P : Nat → Int32} {m : Nat} {s : Int32} : ∀ {k i : Nat}, wishP P m s k = some i → i < k
  | 0, _, h => by cases h
  | k + 1, i, h => by
    unfold wishP at h
    split at h
    · split at h
      · cases h; omega
      · rename_i b hb
        have := wishP_lt hb
        split at h <;> cases h <;> omega
    · have := wishP_lt h
      omega
def addS (s : Int32) : Option Nat → Int32
  | none => s
  | some i => s ||| (1 : Int32) <<< (nI i &&& 31)
/-- CHOICE: the first j of the line have chosen: the names that are gone, who takes what -/
def chG (P : Nat → Int32) (k : Nat) (ln : Nat → Nat) : Nat → Int32 × (Nat → Option Nat)
  | 0 => (0, fun _ => none)
  | j + 1 => (addS (chG P k ln j).1 (wishP P (ln j) (chG P k ln j).1 k), fun x => if x = ln j then wishP P (ln j) (chG P k ln j).1 k else (chG P k ln j).2 x)
def choP (P : Nat → Int32) (n k : Nat) (st : Int32) : Int32 × (Nat → Option Nat) := chG P k (lineA (offP P st) n) n
theorem chG_lt {P : Nat → Int32} {k : Nat} {ln : Nat → Nat} : ∀ {j m i : Nat}, (chG P k ln j).2 m = some i → i < k
  | 0, _, _, h => by cases h
  | j + 1, m, i, h => by
    simp only [chG] at h
    split at h
    · exact wishP_lt h
    · exact chG_lt h
/-- a parish that may be: n men, k names -/
def OkP (n k : Nat) (P : Nat → Int32) : Prop :=
  n ≤ 6 ∧ k ≤ 6 ∧ P 0 = nI n ∧ P 1 = nI k ∧
  (∀ m, m < n → (∃ q, q ≤ 4 ∧ P (4 + m) = nI q) ∧ (∃ q, q ≤ 9 ∧ P (10 + m) = nI q) ∧ (∃ q, 1 ≤ q ∧ q ≤ 4 ∧ P (16 + m) = nI q) ∧ (P (28 + m) = -4 ∨ ∃ i, i < k ∧ P (28 + m) = nI i)) ∧
  (∀ m, n ≤ m → m < 6 → P (22 + m) = 0 ∧ P (28 + m) = -4) ∧
  (∀ i, i < k → (∃ q, q ≤ 20 ∧ P (34 + i) = nI q) ∧ ∃ q, q ≤ 20 ∧ P (40 + i) = nI q) ∧
  (∀ i, k ≤ i → i < 6 → P (34 + i) = 0 ∧ P (40 + i) = 0)
/-- the class's none is -1, the reference's -4 -/
def unN (x : Int32) : Int32 := if x = -4 then -1 else x
/-- parish p of the class holds P -/
def IsC (M : Nat → Nat → Int32) (p n k : Nat) (P : Nat → Int32) : Prop :=
  M p 0 = nI n ∧ M p 1 = nI k ∧ M p 2 = P 2 ∧ M p 3 = P 3 ∧ M p 4 = P 46 ∧
  (∀ m, m < n → M (p + 1) m = P (4 + m) ∧ M (p + 2) m = P (10 + m) ∧ M (p + 3) m = P (16 + m) ∧ M (p + 4) m = P (22 + m) ∧ M (p + 5) m = unN (P (28 + m))) ∧
  ∀ i, i < k → M (p + 6) i = P (34 + i) ∧ M (p + 7) i = P (40 + i)
theorem IsC.keep {M M' : Nat → Nat → Int32} {p n k : Nat} {P : Nat → Int32} (h : IsC M p n k P) (he : ∀ a, p ≤ a → a < p + 8 → M' a = M a) : IsC M' p n k P := by
  obtain ⟨h0, h1, h2, h3, h4, h5, h6⟩ := h
  have e : ∀ i, i < 8 → M' (p + i) = M (p + i) := fun i hi => he _ (by omega) (by omega)
  have e0 : M' p = M p := e 0 (by omega)
  refine ⟨by rw [e0]; exact h0, by rw [e0]; exact h1, by rw [e0]; exact h2, by rw [e0]; exact h3, by rw [e0]; exact h4, fun m hm => ?_, fun i hi => ?_⟩
  · rw [e 1 (by omega), e 2 (by omega), e 3 (by omega), e 4 (by omega), e 5 (by omega)]
    exact h5 m hm
  · rw [e 6 (by omega), e 7 (by omega)]
    exact h6 i hi
theorem IsC.copied {M M' : Nat → Nat → Int32} {p q n k : Nat} {P : Nat → Int32} (hn : n ≤ 6) (hk : k ≤ 6) (h : IsC M q n k P) (hc : Copied M M' p q) : IsC M' p n k P := by
  obtain ⟨h0, h1, h2, h3, h4, h5, h6⟩ := h
  obtain ⟨c1, c2, -⟩ := hc
  refine ⟨by rw [c1 0 (by omega)]; exact h0, by rw [c1 1 (by omega)]; exact h1, by rw [c1 2 (by omega)]; exact h2, by rw [c1 3 (by omega)]; exact h3, by rw [c1 4 (by omega)]; exact h4, fun m hm => ?_, fun i hi => ?_⟩
  · rw [c2 1 m (by omega) (by omega) (by omega), c2 2 m (by omega) (by omega) (by omega), c2 3 m (by omega) (by omega) (by omega), c2 4 m (by omega) (by omega) (by omega), c2 5 m (by omega) (by omega) (by omega)]
    exact h5 m hm
  · rw [c2 6 i (by omega) (by omega) (by omega), c2 7 i (by omega) (by omega) (by omega)]
    exact h6 i hi
theorem isPar.ge {p : Nat} (h : isPar p) : 14 ≤ p := by
  unfold isPar at h
  omega
theorem isPar.lt {p : Nat} (h : isPar p) : p + 8 ≤ 170 := by
  unfold isPar at h
  omega
theorem one_le_nI {q : Nat} (h1 : 1 ≤ q) (h : q < 1000) : (1 : Int32) ≤ nI q := nI_le (a := 1) h1 (by omega)
