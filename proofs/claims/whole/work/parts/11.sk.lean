/-! ===== the cells as the two constructors leave them: FurrowNames is cell 0, FurrowNamesModel cell 189; parishes are runs of 8 cells ===== -/
abbrev parV (p : Nat) : List Value := [.int 0, .int 0, .int 0, .int 0, .int 0, .ref (p + 1), .ref (p + 2), .ref (p + 3), .ref (p + 4), .ref (p + 5), .ref (p + 6), .ref (p + 7)]
def SK : List (Nat × List Value) := [(11, [.ref 1, .ref 11, .ref 14, .ref 22, .ref 88, .ref 96, .int 0, .ref 162, .ref 170, .ref 172, .ref 173]),
  (0, [.ref 2, .ref 8, .ref 9, .ref 10]),
  (104, [.ref 3, .ref 4, .ref 5, .ref 6, .ref 7]),
  (6, []),
  (8, []),
  (7, []),
  (2, []),
  (1, []),
  (100, rep 6),
  (100, rep 6),
  (100, rep 6),
  (3, [.ref 1, .ref 12, .ref 13, .int 0]),
  (100, rep 18),
  (100, rep 18),
  (4, parV 14),
  (100, rep 6),
  (100, rep 6),
  (100, rep 6),
  (100, rep 6),
  (100, rep 6),
  (100, rep 6),
  (100, rep 6),
  (5, [.ref 23, .int 0, .int 0]),
  (105, [.ref 24, .ref 32, .ref 40, .ref 48, .ref 56, .ref 64, .ref 72, .ref 80]),
  (4, parV 24),
  (100, rep 6),
  (100, rep 6),
  (100, rep 6),
  (100, rep 6),
  (100, rep 6),
  (100, rep 6),
  (100, rep 6),
  (4, parV 32),
  (100, rep 6),
  (100, rep 6),
  (100, rep 6),
  (100, rep 6),
  (100, rep 6),
  (100, rep 6),
  (100, rep 6),
  (4, parV 40),
  (100, rep 6),
  (100, rep 6),
  (100, rep 6),
  (100, rep 6),
  (100, rep 6),
  (100, rep 6),
  (100, rep 6),
  (4, parV 48),
  (100, rep 6),
  (100, rep 6),
  (100, rep 6),
  (100, rep 6),
  (100, rep 6),
  (100, rep 6),
  (100, rep 6),
  (4, parV 56),
  (100, rep 6),
  (100, rep 6),
  (100, rep 6),
  (100, rep 6),
  (100, rep 6),
  (100, rep 6),
  (100, rep 6),
  (4, parV 64),
  (100, rep 6),
  (100, rep 6),
  (100, rep 6),
  (100, rep 6),
  (100, rep 6),
  (100, rep 6),
  (100, rep 6),
  (4, parV 72),
  (100, rep 6),
  (100, rep 6),
  (100, rep 6),
  (100, rep 6),
  (100, rep 6),
  (100, rep 6),
  (100, rep 6),
  (4, parV 80),
  (100, rep 6),
  (100, rep 6),
  (100, rep 6),
  (100, rep 6),
  (100, rep 6),
  (100, rep 6),
  (100, rep 6),
  (4, parV 88),
  (100, rep 6),
  (100, rep 6),
  (100, rep 6),
  (100, rep 6),
  (100, rep 6),
  (100, rep 6),
  (100, rep 6),
  (5, [.ref 97, .int 0, .int 0]),
  (105, [.ref 98, .ref 106, .ref 114, .ref 122, .ref 130, .ref 138, .ref 146, .ref 154]),
  (4, parV 98),
  (100, rep 6),
  (100, rep 6),
  (100, rep 6),
  (100, rep 6),
  (100, rep 6),
  (100, rep 6),
  (100, rep 6),
  (4, parV 106),
  (100, rep 6),
  (100, rep 6),
  (100, rep 6),
  (100, rep 6),
  (100, rep 6),
  (100, rep 6),
  (100, rep 6),
  (4, parV 114),
  (100, rep 6),
  (100, rep 6),
  (100, rep 6),
  (100, rep 6),
  (100, rep 6),
  (100, rep 6),
  (100, rep 6),
  (4, parV 122),
  (100, rep 6),
  (100, rep 6),
  (100, rep 6),
  (100, rep 6),
  (100, rep 6),
  (100, rep 6),
  (100, rep 6),
  (4, parV 130),
  (100, rep 6),
  (100, rep 6),
  (100, rep 6),
  (100, rep 6),
  (100, rep 6),
  (100, rep 6),
  (100, rep 6),
  (4, parV 138),
  (100, rep 6),
  (100, rep 6),
  (100, rep 6),
  (100, rep 6),
  (100, rep 6),
  (100, rep 6),
  (100, rep 6),
  (4, parV 146),
  (100, rep 6),
  (100, rep 6),
  (100, rep 6),
  (100, rep 6),
  (100, rep 6),
  (100, rep 6),
  (100, rep 6),
  (4, parV 154),
  (100, rep 6),
  (100, rep 6),
  (100, rep 6),
  (100, rep 6),
  (100, rep 6),
  (100, rep 6),
  (100, rep 6),
  (4, parV 162),
  (100, rep 6),
  (100, rep 6),
  (100, rep 6),
  (100, rep 6),
  (100, rep 6),
  (100, rep 6),
  (100, rep 6),
  (10, [.ref 171, .int 0, .int 0]),
  (102, rep 80),
  (106, [.ref 181, .ref 183, .ref 185, .ref 187]),
  (110, [.ref 174, .ref 175, .ref 176, .ref 177, .ref 178, .ref 179, .ref 180]),
  (100, rep 64),
  (100, rep 64),
  (100, rep 64),
  (100, rep 64),
  (100, rep 64),
  (100, rep 64),
  (100, rep 64),
  (9, [.int 0, .int 0, .int 0, .ref 182]),
  (101, rep 24),
  (9, [.int 0, .int 0, .int 0, .ref 184]),
  (101, rep 24),
  (9, [.int 0, .int 0, .int 0, .ref 186]),
  (101, rep 24),
  (9, [.int 0, .int 0, .int 0, .ref 188]),
  (101, rep 24),
  (12, [.ref 190, .ref 191, .ref 192, .ref 193, .int 0, .ref 194, .int 0, .ref 195, .ref 196, .ref 197, .ref 198, .ref 199, .ref 200, .int 0, .int 0, .ref 201]),
  (100, rep 352),
  (100, rep 352),
  (100, rep 352),
  (100, rep 352),
  (100, rep 80),
  (100, rep 4),
  (100, rep 4),
  (101, rep 96),
  (100, rep 6),
  (100, rep 6),
  (100, rep 6),
  (100, rep 448)]
def ParAt (p : Nat) : Prop := SK[p]? = some (4, parV p) ∧ SK[p + 1]? = some (100, rep 6) ∧ SK[p + 2]? = some (100, rep 6) ∧ SK[p + 3]? = some (100, rep 6) ∧ SK[p + 4]? = some (100, rep 6) ∧ SK[p + 5]? = some (100, rep 6) ∧ SK[p + 6]? = some (100, rep 6) ∧ SK[p + 7]? = some (100, rep 6)
theorem par14 : ParAt 14 := ⟨rfl, rfl, rfl, rfl, rfl, rfl, rfl, rfl⟩
theorem par24 : ParAt 24 := ⟨rfl, rfl, rfl, rfl, rfl, rfl, rfl, rfl⟩
theorem par32 : ParAt 32 := ⟨rfl, rfl, rfl, rfl, rfl, rfl, rfl, rfl⟩
theorem par40 : ParAt 40 := ⟨rfl, rfl, rfl, rfl, rfl, rfl, rfl, rfl⟩
theorem par48 : ParAt 48 := ⟨rfl, rfl, rfl, rfl, rfl, rfl, rfl, rfl⟩
theorem par56 : ParAt 56 := ⟨rfl, rfl, rfl, rfl, rfl, rfl, rfl, rfl⟩
theorem par64 : ParAt 64 := ⟨rfl, rfl, rfl, rfl, rfl, rfl, rfl, rfl⟩
theorem par72 : ParAt 72 := ⟨rfl, rfl, rfl, rfl, rfl, rfl, rfl, rfl⟩
theorem par80 : ParAt 80 := ⟨rfl, rfl, rfl, rfl, rfl, rfl, rfl, rfl⟩
theorem par88 : ParAt 88 := ⟨rfl, rfl, rfl, rfl, rfl, rfl, rfl, rfl⟩
theorem par98 : ParAt 98 := ⟨rfl, rfl, rfl, rfl, rfl, rfl, rfl, rfl⟩
theorem par106 : ParAt 106 := ⟨rfl, rfl, rfl, rfl, rfl, rfl, rfl, rfl⟩
theorem par114 : ParAt 114 := ⟨rfl, rfl, rfl, rfl, rfl, rfl, rfl, rfl⟩
theorem par122 : ParAt 122 := ⟨rfl, rfl, rfl, rfl, rfl, rfl, rfl, rfl⟩
theorem par130 : ParAt 130 := ⟨rfl, rfl, rfl, rfl, rfl, rfl, rfl, rfl⟩
theorem par138 : ParAt 138 := ⟨rfl, rfl, rfl, rfl, rfl, rfl, rfl, rfl⟩
theorem par146 : ParAt 146 := ⟨rfl, rfl, rfl, rfl, rfl, rfl, rfl, rfl⟩
theorem par154 : ParAt 154 := ⟨rfl, rfl, rfl, rfl, rfl, rfl, rfl, rfl⟩
theorem par162 : ParAt 162 := ⟨rfl, rfl, rfl, rfl, rfl, rfl, rfl, rfl⟩
def isPar (p : Nat) : Prop := p = 14 ∨ p = 24 ∨ p = 32 ∨ p = 40 ∨ p = 48 ∨ p = 56 ∨ p = 64 ∨ p = 72 ∨ p = 80 ∨ p = 88 ∨ p = 98 ∨ p = 106 ∨ p = 114 ∨ p = 122 ∨ p = 130 ∨ p = 138 ∨ p = 146 ∨ p = 154 ∨ p = 162
theorem isPar.at {p : Nat} (h : isPar p) : ParAt p := by
  rcases h with rfl | rfl | rfl | rfl | rfl | rfl | rfl | rfl | rfl | rfl | rfl | rfl | rfl | rfl | rfl | rfl | rfl | rfl | rfl
  · exact par14
  · exact par24
  · exact par32
  · exact par40
  · exact par48
  · exact par56
  · exact par64
  · exact par72
  · exact par80
  · exact par88
  · exact par98
  · exact par106
  · exact par114
  · exact par122
  · exact par130
  · exact par138
  · exact par146
  · exact par154
  · exact par162
theorem ParAt.c0 {p : Nat} (h : ParAt p) : SK[p]? = some (4, parV p) := h.1
theorem ParAt.c1 {p : Nat} (h : ParAt p) : SK[p + 1]? = some (100, rep 6) := h.2.1
theorem ParAt.c2 {p : Nat} (h : ParAt p) : SK[p + 2]? = some (100, rep 6) := h.2.2.1
theorem ParAt.c3 {p : Nat} (h : ParAt p) : SK[p + 3]? = some (100, rep 6) := h.2.2.2.1
theorem ParAt.c4 {p : Nat} (h : ParAt p) : SK[p + 4]? = some (100, rep 6) := h.2.2.2.2.1
theorem ParAt.c5 {p : Nat} (h : ParAt p) : SK[p + 5]? = some (100, rep 6) := h.2.2.2.2.2.1
theorem ParAt.c6 {p : Nat} (h : ParAt p) : SK[p + 6]? = some (100, rep 6) := h.2.2.2.2.2.2.1
theorem ParAt.c7 {p : Nat} (h : ParAt p) : SK[p + 7]? = some (100, rep 6) := h.2.2.2.2.2.2.2
theorem nI_addE {x y : Int32} {a b : Nat} (hx : x = nI a) (hy : y = nI b) : x + y = nI (a + b) := by rw [hx, hy]; exact nI_add a b
theorem nI_mulE {x y : Int32} {a b : Nat} (hx : x = nI a) (hy : y = nI b) : x * y = nI (a * b) := by rw [hx, hy]; exact pk_mul a b
theorem g_top {mm : MM} {d mcr msr pc : Nat} {L : AL} {st : List Value} {h : AH} {Q : AQ} {x y : Int32} (e : x = y) (kk : Go mm d mcr msr pc L (.int y :: st) h Q) : Go mm d mcr msr pc L (.int x :: st) h Q := e ▸ kk
theorem g_topL {mm : MM} {d mcr msr pc : Nat} {L : AL} {st : List Value} {h : AH} {Q : AQ} {x y : Int64} (e : x = y) (kk : Go mm d mcr msr pc L (.long y :: st) h Q) : Go mm d mcr msr pc L (.long x :: st) h Q := e ▸ kk
theorem z_narrow {p : Prop} [Decidable p] : narrow .boolean (.int (if p then 1 else 0)) = .int (if p then 1 else 0) := by split <;> decide
