/-! ===== the abstract state, and what the two objects' cells hold of it ===== -/
/-- n men, k names, the parish, what may be undone (the latest first) -/
abbrev YS : Type := Nat × Nat × (Nat → Int32) × List (Nat → Int32)
abbrev AS : Type := YS × Option YS × List Int32 × (Nat → Option (Nat × Nat × (Nat → Int64)))
def ParOk (n k : Nat) (P : Nat → Int32) : Prop := OkP n k P ∧ (∃ r, r ≤ 9999 ∧ P 3 = nI r) ∧ (∃ s, s ≤ 20 ∧ P 2 = nI s) ∧ ¬ P 46 < 0
def YOk (y : YS) : Prop := ParOk y.1 y.2.1 y.2.2.1 ∧ y.2.2.2.length ≤ 8 ∧ ∀ Q ∈ y.2.2.2, ParOk y.1 y.2.1 Q ∧ ∀ j, j < 10 → j ≠ 2 → j ≠ 3 → Q j = y.2.2.1 j
def AOk (A : AS) : Prop := YOk A.1 ∧ (∀ y, A.2.1 = some y → YOk y) ∧ (A.2.2.1.length ≤ 80 ∧ ∀ x ∈ A.2.2.1, ∃ q, 32 ≤ q ∧ q ≤ 126 ∧ x = nI q) ∧ ∀ i, i < 4 → ∀ la ln f, A.2.2.2 i = some (la, ln, f) → la < 4 ∧ ln ≤ 24
/-- the class: a parish p with a past ps -/
def YC (M : Nat → Nat → Int32) (p ps : Nat) (y : YS) : Prop := IsC M p y.1 y.2.1 y.2.2.1 ∧ ∃ w, w < 8 ∧ M ps 1 = nI w ∧ M ps 2 = nI y.2.2.2.length ∧ ∀ i Q, y.2.2.2[i]? = some Q → IsC M (ps + 2 + 8 * ((w + 8 - i) % 8)) y.1 y.2.1 Q
def ShC (M : Nat → Nat → Int32) (N : Nat → Nat → Int64) (i : Nat) (s : Option (Nat × Nat × (Nat → Int64))) : Prop := match s with
  | none => M (181 + 2 * i) 0 = 1
  | some (la, ln, f) => M (181 + 2 * i) 0 = 0 ∧ M (181 + 2 * i) 1 = nI la ∧ M (181 + 2 * i) 2 = nI ln ∧ ∀ j, j < 24 → N (182 + 2 * i) j = f j
def KpC (M : Nat → Nat → Int32) (o : Option YS) : Prop := match o with
  | none => M 0 6 = 0
  | some y => M 0 6 = 1 ∧ YC M 88 96 y
def TpC (M : Nat → Nat → Int32) (t : List Int32) : Prop := M 170 1 = nI t.length ∧ ∀ j x, t[j]? = some x → M 171 j = x
def CI (M : Nat → Nat → Int32) (N : Nat → Nat → Int64) (A : AS) : Prop := YC M 14 22 A.1 ∧ KpC M A.2.1 ∧ TpC M A.2.2.1 ∧ ∀ i, i < 4 → ShC M N i (A.2.2.2 i)
/-- the reference: an array t -/
def YR (M : Nat → Nat → Int32) (t : Nat) (y : YS) : Prop := (∀ j, j < 47 → M t j = y.2.2.1 j) ∧ M t 47 = nI y.2.2.2.length ∧ ∀ i Q, y.2.2.2[i]? = some Q → (∀ j, j < 37 → M t (48 + 38 * (y.2.2.2.length - 1 - i) + j) = Q (10 + j)) ∧ M t (48 + 38 * (y.2.2.2.length - 1 - i) + 37) = Q 3
def ShR (M : Nat → Nat → Int32) (N : Nat → Nat → Int64) (i : Nat) (s : Option (Nat × Nat × (Nat → Int64))) : Prop := match s with
  | none => M 196 i = -1
  | some (la, ln, f) => M 196 i = nI ln ∧ M 195 i = nI la ∧ ∀ j, j < 24 → N 197 (24 * i + j) = f j
def KpR (M : Nat → Nat → Int32) (o : Option YS) : Prop := match o with
  | none => M 189 4 = 0
  | some y => M 189 4 = 1 ∧ YR M 193 y
def TpR (M : Nat → Nat → Int32) (t : List Int32) : Prop := M 189 6 = nI t.length ∧ ∀ j x, t[j]? = some x → M 194 j = x
def RI (M : Nat → Nat → Int32) (N : Nat → Nat → Int64) (A : AS) : Prop := YR M 190 A.1 ∧ KpR M A.2.1 ∧ TpR M A.2.2.1 ∧ ∀ i, i < 4 → ShR M N i (A.2.2.2 i)
theorem YC.keep {M M' : Nat → Nat → Int32} {p ps : Nat} {y : YS} (h : YC M p ps y) (h1 : ∀ a, p ≤ a → a < p + 8 → M' a = M a) (h2 : ∀ a, ps ≤ a → a < ps + 66 → M' a = M a) : YC M' p ps y := by
  obtain ⟨g1, w, hw, g2, g3, g4⟩ := h
  refine ⟨g1.keep h1, w, hw, by rw [h2 ps (Nat.le_refl _) (by omega)]; exact g2, by rw [h2 ps (Nat.le_refl _) (by omega)]; exact g3, fun i Q hi => (g4 i Q hi).keep (fun a a1 a2 => h2 a (by omega) (by omega))⟩
theorem KpC.keep {M M' : Nat → Nat → Int32} {o : Option YS} (h : KpC M o) (h0 : M' 0 = M 0) (h1 : ∀ a, 88 ≤ a → a < 162 → M' a = M a) : KpC M' o := by
  cases o with
  | none => show M' 0 6 = 0; rw [h0]; exact h
  | some y => exact ⟨by rw [h0]; exact h.1, h.2.keep (fun a a1 a2 => h1 a (by omega) (by omega)) (fun a a1 a2 => h1 a (by omega) (by omega))⟩
theorem TpC.keep {M M' : Nat → Nat → Int32} {t : List Int32} (h : TpC M t) (h0 : M' 170 = M 170) (h1 : M' 171 = M 171) : TpC M' t := ⟨by rw [h0]; exact h.1, fun j x hj => by rw [h1]; exact h.2 j x hj⟩
theorem ShC.keep {M M' : Nat → Nat → Int32} {N N' : Nat → Nat → Int64} {i : Nat} {s : Option (Nat × Nat × (Nat → Int64))} (h : ShC M N i s) (h0 : M' (181 + 2 * i) = M (181 + 2 * i)) (h1 : N' (182 + 2 * i) = N (182 + 2 * i)) : ShC M' N' i s := by
  cases s with
  | none => show M' (181 + 2 * i) 0 = 1; rw [h0]; exact h
  | some q =>
    obtain ⟨la, ln, f⟩ := q
    obtain ⟨g1, g2, g3, g4⟩ := h
    exact ⟨by rw [h0]; exact g1, by rw [h0]; exact g2, by rw [h0]; exact g3, fun j hj => by rw [h1]; exact g4 j hj⟩
/-- cells that hold nothing between calls -/
def tmpC (a : Nat) : Prop := (8 ≤ a ∧ a ≤ 13) ∨ (162 ≤ a ∧ a < 170) ∨ (173 ≤ a ∧ a < 181)
theorem CI.tmp {M M' : Nat → Nat → Int32} {N : Nat → Nat → Int64} {A : AS} (h : CI M N A) (he : ∀ a, ¬ tmpC a → M' a = M a) : CI M' N A := by
  have e : ∀ a, (a < 8 ∨ (13 < a ∧ a < 162) ∨ (170 ≤ a ∧ a < 173) ∨ 181 ≤ a) → M' a = M a := fun a ha => he a (by unfold tmpC; omega)
  exact ⟨h.1.keep (fun a a1 a2 => e a (by omega)) (fun a a1 a2 => e a (by omega)), h.2.1.keep (e 0 (by omega)) (fun a a1 a2 => e a (by omega)), h.2.2.1.keep (e 170 (by omega)) (e 171 (by omega)), fun i hi => (h.2.2.2 i hi).keep (e _ (by omega)) rfl⟩
/-- how a call of the class ends: it answers r, the state is A', the reference's cells and the script stay -/
def CQ (M : Nat → Nat → Int32) (N : Nat → Nat → Int64) (r : Int32) (A' : AS) : AQ := fun r' h' => ∃ M' N', h' = (SK, M', N') ∧ r' = some (.int r) ∧ CI M' N' A' ∧ ∀ a, 189 ≤ a → M' a = M a ∧ N' a = N a
/-- .. of the reference -/
def RQ (M : Nat → Nat → Int32) (N : Nat → Nat → Int64) (r : Int32) (A' : AS) : AQ := fun r' h' => ∃ M' N', h' = (SK, M', N') ∧ r' = some (.int r) ∧ RI M' N' A' ∧ ∀ a, (a < 189 ∨ 202 ≤ a) → M' a = M a ∧ N' a = N a
theorem CQ.same {M : Nat → Nat → Int32} {N : Nat → Nat → Int64} {r : Int32} {A : AS} (h : CI M N A) : CQ M N r A (some (.int r)) (SK, M, N) := ⟨M, N, rfl, rfl, h, fun _ _ => ⟨rfl, rfl⟩⟩
theorem CQ.tmp {M M' : Nat → Nat → Int32} {N : Nat → Nat → Int64} {r : Int32} {A : AS} (h : CI M N A) (he : ∀ a, ¬ tmpC a → M' a = M a) : CQ M N r A (some (.int r)) (SK, M', N) := ⟨M', N, rfl, rfl, h.tmp he, fun a ha => ⟨he a (by unfold tmpC; omega), rfl⟩⟩
theorem RQ.same {M : Nat → Nat → Int32} {N : Nat → Nat → Int64} {r : Int32} {A : AS} (h : RI M N A) : RQ M N r A (some (.int r)) (SK, M, N) := ⟨M, N, rfl, rfl, h, fun _ _ => ⟨rfl, rfl⟩⟩
