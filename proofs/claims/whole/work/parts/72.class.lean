def T10 : List (Nat × List Value) := [(0, [.ref 2, .ref 8, .ref 9, .ref 10]), (104, [.ref 3, .ref 4, .ref 5, .ref 6, .ref 7]), (6, []), (8, []), (7, []), (2, []), (1, []), (100, rep 6), (100, rep 6), (100, rep 6)]
def T13 : List (Nat × List Value) := T10 ++ [(3, [.ref 1, .ref 12, .ref 13, .int 0]), (100, rep 18), (100, rep 18)]
def T21 : List (Nat × List Value) := T13 ++ parC 14
def T87 : List (Nat × List Value) := T21 ++ pastC 22
def T95 : List (Nat × List Value) := T87 ++ parC 88
def T161 : List (Nat × List Value) := T95 ++ pastC 96
def T169 : List (Nat × List Value) := T161 ++ parC 162
def T171 : List (Nat × List Value) := T169 ++ [(10, [.ref 171, .int 0, .int 0]), (102, rep 80)]
theorem l10 : T10.length = 10 := rfl
theorem l13 : T13.length = 13 := rfl
theorem l21 : T21.length = 21 := by unfold T21; rw [List.length_append, l13]; rfl
theorem past_len (p : Nat) : (pastC p).length = 66 := by show (pcs (p + 2) 8).length + 1 + 1 = 66; rw [pcs_len]
theorem l87 : T87.length = 87 := by unfold T87; rw [List.length_append, l21, past_len]
theorem l95 : T95.length = 95 := by unfold T95; rw [List.length_append, l87]; rfl
theorem l161 : T161.length = 161 := by unfold T161; rw [List.length_append, l95, past_len]
theorem l169 : T169.length = 169 := by unfold T169; rw [List.length_append, l161]; rfl
theorem l171 : T171.length = 171 := by unfold T171; rw [List.length_append, l169]; rfl
theorem cons_len {a : Nat × List Value} {l : List (Nat × List Value)} {n : Nat} (h : l.length = n) : (a :: l).length = n + 1 := by rw [List.length_cons, h]
section GY
variable {mm : MM} {d mcr msr pc pc' p : Nat} {L L' : AL} {st : List Value} {sk : List (Nat × List Value)} {M : Nat → Nat → Int32} {N : Nat → Nat → Int64} {Q : AQ}
/-- new, where the heap's length is known -/
theorem y_new {idx ci : Nat} {vs : List Value} (hp0 : sk.length = p) (hd : decode mm.2.1 pc = .ok (.new idx, 3)) (hf : NLk mm.1.cls idx ci vs) (hb : p < 1000000) (hp : pc + 3 = pc') (kk : Go mm d mcr msr pc' L (.ref p :: st) (sk ++ [(ci, vs)], zI M p, zL N p) Q) : Go mm d (mcr + 1) (msr + vs.length) pc L st (sk, M, N) Q := by
  subst hp0
  exact g_new hd hf hb hp kk
end GY
section GZ
variable {mm : MM} {d mcr msr pc pc' p : Nat} {L L' : AL} {st : List Value} {sk : List (Nat × List Value)} {M : Nat → Nat → Int32} {N : Nat → Nat → Int64} {Q : AQ}
theorem y_mna {idx n k : Nat} {i j : Int32} (hp0 : sk.length = p) (hd : decode mm.2.1 pc = .ok (.multianewarray idx 2, 4)) (hw : Cond.classLink mm.1.cls idx "[[I" ∈ gtbl) (hac : Cond.arrayClass .int ∈ gtbl) (hi : i = nI n) (hj : j = nI k) (hn : n ≤ 1000) (hk : k ≤ 1000) (hlt : p + 1 + n ≤ 1000000) (hp : pc + 4 = pc') (kk : Go mm d mcr msr pc' L (.ref p :: st) (sk ++ mnaC p n k, zIs M p (p + 1 + n), zLs N p (p + 1 + n)) Q) : Go mm d (mcr + (1 + n)) (msr + (n + n * k)) pc L (.int j :: .int i :: st) (sk, M, N) Q := by
  subst hp0
  exact g_mna hd hw hac hi hj hn hk hlt hp kk
theorem y_put0 {idx ci j r : Nat} {vs vs' : List Value} {T l : List (Nat × List Value)} {ty : FieldType} (hd : decode mm.2.1 pc = .ok (.putfield idx, 3)) (hf : FLk mm.1.cls idx ci j ty true) (hi2 : mm.1.name = "<init>" ∧ ((vwCl[ci]?).map fun q => q.1) = some mm.1.cls) (hj2 : j < vs.length) (hn : ∀ a : Nat, narrow ty (.ref a) = .ref a ∧ fits ty (.ref a) = true) (hv : vs.set j (.ref r) = vs') (hp : pc + 3 = pc') (kk : Go mm d mcr msr pc' L st (((ci, vs') :: T) ++ l, M, N) Q) : Go mm d mcr msr pc L (.ref r :: .ref 0 :: st) (((ci, vs) :: T) ++ l, M, N) Q := by
  subst hv
  exact g_putFR hd hf hi2 (k := 0) (by rw [List.cons_append]; rfl) hj2 hn hp kk
theorem y_l {l l' : List (Nat × List Value)} {T : List (Nat × List Value)} (hl : l = l') (kk : Go mm d mcr msr pc L st (T ++ l', M, N) Q) : Go mm d mcr msr pc L st (T ++ l, M, N) Q := by subst hl; exact kk
theorem y_newq {idx n tag : Nat} {i : Int32} {C : String} (hp0 : sk.length = p) (hd : decode mm.2.1 pc = .ok (.anewarray idx, 3)) (hw : Cond.classLink mm.1.cls idx C ∈ gtbl) (hx : ∀ (B0 : Nat) (D : va_G) (ad : Nat → Nat) (U : State), Kx B0 D ad U → va_AO C U) (ht : arrTy tag = some (.object C) ∧ 103 ≤ tag) (hi : i = nI n) (hn : n ≤ 1000) (hb : p < 1000000) (hp : pc + 3 = pc') (kk : Go mm d mcr msr pc' L (.ref p :: st) (sk ++ [(tag, rep n)], zI M p, zL N p) Q) : Go mm d (mcr + 1) (msr + n) pc L (.int i :: st) (sk, M, N) Q := by
  subst hp0
  exact g_newq hd hw hx ht hi hn hb hp kk
end GZ
set_option maxRecDepth 100000 in
set_option maxHeartbeats 2000000 in
theorem f_1 {M : Nat → Nat → Int32} {N : Nat → Nat → Int64} {Q : AQ} (kk : ∀ (M' : Nat → Nat → Int32) (N' : Nat → Nat → Int64), (∀ a, (a < 1 ∨ 11 ≤ a) → M' a = M a) → Go mX11_init 5 178 1742 15 [(0, .ref 0)] [] (((11, [.ref 1, .null, .null, .null, .null, .null, .int 0, .null, .null, .null, .null]) :: T10), M', N') Q) : Go mX11_init 5 188 1769 4 [(0, .ref 0)] [] (((11, [.null, .null, .null, .null, .null, .null, .int 0, .null, .null, .null, .null]) :: []), M, N) Q := by
  refine g_aload_n (j := 0) (pc' := 5) dX11_init_4 rfl rfl ?_
  refine y_new (mm := mX11_init) (sk := ((11, [.null, .null, .null, .null, .null, .null, .int 0, .null, .null, .null, .null]) :: [])) (p := 1) (ci := 0) (vs := [.null, .null, .null, .null]) (mcr := 187) (msr := 1765) (pc' := 8) (cons_len rfl) dX11_init_5 nX11_7 (by omega) rfl ?_
  refine g_dup (pc' := 9) dX11_init_8 rfl rfl ?_
  refine g_callI (my := mX0_init) (k := 1) (st := [.ref 1, .ref 0]) (av := []) (mcr := 178) (msr := 1742) (mc := 9) (ms := 23) (pc' := 12) dX11_init_9 kX0_init wX11_9 rfl (Nat.le_of_ble_eq_true rfl) (by decide) (i_X0 (sk0 := ((11, [.null, .null, .null, .null, .null, .null, .int 0, .null, .null, .null, .null]) :: [])) (p := 1) (cons_len rfl) (by omega)) rfl ?_
  rintro _ _ ⟨M1, N1, rfl, rfl, f⟩
  show Go mX11_init 5 178 1742 12 [(0, .ref 0)] [.ref 1, .ref 0] (((11, [.null, .null, .null, .null, .null, .null, .int 0, .null, .null, .null, .null]) :: T10), M1, N1) _
  refine g_putFR (pc' := 15) dX11_init_12 fX11_10 ⟨rfl, rfl⟩ rfl (Nat.le_of_ble_eq_true rfl) (fun _ => ⟨rfl, rfl⟩) rfl ?_
  exact kk M1 N1 (fun a ha => (f a (by omega)).trans (zI_ne (by omega)))
set_option maxRecDepth 100000 in
set_option maxHeartbeats 2000000 in
theorem f_2 {M : Nat → Nat → Int32} {N : Nat → Nat → Int64} {Q : AQ} (kk : ∀ (M' : Nat → Nat → Int32) (N' : Nat → Nat → Int64), (∀ a, (a < 11 ∨ 14 ≤ a) → M' a = M a) → Go mX11_init 5 175 1702 30 [(0, .ref 0)] [] (((11, [.ref 1, .ref 11, .null, .null, .null, .null, .int 0, .null, .null, .null, .null]) :: T13), M', N') Q) : Go mX11_init 5 178 1742 15 [(0, .ref 0)] [] (((11, [.ref 1, .null, .null, .null, .null, .null, .int 0, .null, .null, .null, .null]) :: T10), M, N) Q := by
  refine g_aload_n (j := 0) (pc' := 16) dX11_init_15 rfl rfl ?_
  refine y_new (mm := mX11_init) (sk := ((11, [.ref 1, .null, .null, .null, .null, .null, .int 0, .null, .null, .null, .null]) :: T10)) (p := 11) (ci := 3) (vs := [.null, .null, .null, .int 0]) (mcr := 177) (msr := 1738) (pc' := 19) (cons_len l10) dX11_init_16 nX11_16 (by omega) rfl ?_
  refine g_dup (pc' := 20) dX11_init_19 rfl rfl ?_
  refine g_aload_n (j := 0) (pc' := 21) dX11_init_20 rfl rfl ?_
  refine g_getR (pc' := 24) dX11_init_21 fX11_10 rfl rfl rfl ?_
  refine g_callI (my := mX3_init) (k := 11) (st := [.ref 11, .ref 0]) (av := [.ref 1]) (mcr := 175) (msr := 1702) (mc := 2) (ms := 36) (pc' := 27) dX11_init_24 kX3_init wX11_18 rfl (Nat.le_of_ble_eq_true rfl) (by decide) (i_X3 (sk0 := ((11, [.ref 1, .null, .null, .null, .null, .null, .int 0, .null, .null, .null, .null]) :: T10)) (p := 11) (cons_len l10) (by omega) 1) rfl ?_
  rintro _ _ ⟨M1, N1, rfl, rfl, f⟩
  show Go mX11_init 5 175 1702 27 [(0, .ref 0)] [.ref 11, .ref 0] (((11, [.ref 1, .null, .null, .null, .null, .null, .int 0, .null, .null, .null, .null]) :: T13), M1, N1) _
  refine g_putFR (pc' := 30) dX11_init_27 fX11_21 ⟨rfl, rfl⟩ rfl (Nat.le_of_ble_eq_true rfl) (fun _ => ⟨rfl, rfl⟩) rfl ?_
  exact kk M1 N1 (fun a ha => (f a (by omega)).trans (zI_ne (by omega)))
set_option maxRecDepth 100000 in
set_option maxHeartbeats 2000000 in
theorem f_3 {M : Nat → Nat → Int32} {N : Nat → Nat → Int64} {Q : AQ} (kk : ∀ (M' : Nat → Nat → Int32) (N' : Nat → Nat → Int64), (M' 14 0 = 0 ∧ M' 14 1 = 0 ∧ M' 14 2 = 6 ∧ M' 14 3 = 0 ∧ M' 14 4 = 1) → (∀ a, (a < 14 ∨ 22 ≤ a) → M' a = M a) → Go mX11_init 5 167 1648 41 [(0, .ref 0)] [] (((11, [.ref 1, .ref 11, .ref 14, .null, .null, .null, .int 0, .null, .null, .null, .null]) :: T21), M', N') Q) : Go mX11_init 5 175 1702 30 [(0, .ref 0)] [] (((11, [.ref 1, .ref 11, .null, .null, .null, .null, .int 0, .null, .null, .null, .null]) :: T13), M, N) Q := by
  refine g_aload_n (j := 0) (pc' := 31) dX11_init_30 rfl rfl ?_
  refine y_new (mm := mX11_init) (sk := ((11, [.ref 1, .ref 11, .null, .null, .null, .null, .int 0, .null, .null, .null, .null]) :: T13)) (p := 14) (ci := 4) (vs := [.int 0, .int 0, .int 0, .int 0, .int 0, .null, .null, .null, .null, .null, .null, .null]) (mcr := 174) (msr := 1690) (pc' := 34) (cons_len l13) dX11_init_31 nX11_25 (by omega) rfl ?_
  refine g_dup (pc' := 35) dX11_init_34 rfl rfl ?_
  refine g_callI (my := mX4_init) (k := 14) (st := [.ref 14, .ref 0]) (av := []) (mcr := 167) (msr := 1648) (mc := 7) (ms := 42) (pc' := 38) dX11_init_35 kX4_init wX11_27 rfl (Nat.le_of_ble_eq_true rfl) (by decide) (i_X4 (sk0 := ((11, [.ref 1, .ref 11, .null, .null, .null, .null, .int 0, .null, .null, .null, .null]) :: T13)) (p := 14) (cons_len l13) (by omega)) rfl ?_
  rintro _ _ ⟨M1, N1, rfl, rfl, v, f⟩
  show Go mX11_init 5 167 1648 38 [(0, .ref 0)] [.ref 14, .ref 0] (((11, [.ref 1, .ref 11, .null, .null, .null, .null, .int 0, .null, .null, .null, .null]) :: T21), M1, N1) _
  refine g_putFR (pc' := 41) dX11_init_38 fX11_28 ⟨rfl, rfl⟩ rfl (Nat.le_of_ble_eq_true rfl) (fun _ => ⟨rfl, rfl⟩) rfl ?_
  exact kk M1 N1 v (fun a ha => (f a (by omega)).trans (zI_ne (by omega)))
set_option maxRecDepth 100000 in
set_option maxHeartbeats 2000000 in
theorem f_4 {M : Nat → Nat → Int32} {N : Nat → Nat → Int64} {Q : AQ} (kk : ∀ (M' : Nat → Nat → Int32) (N' : Nat → Nat → Int64), M' 22 1 = 0 → M' 22 2 = 0 → (∀ a, (a < 22 ∨ 88 ≤ a) → M' a = M a) → Go mX11_init 5 101 1205 52 [(0, .ref 0)] [] (((11, [.ref 1, .ref 11, .ref 14, .ref 22, .null, .null, .int 0, .null, .null, .null, .null]) :: T87), M', N') Q) : Go mX11_init 5 167 1648 41 [(0, .ref 0)] [] (((11, [.ref 1, .ref 11, .ref 14, .null, .null, .null, .int 0, .null, .null, .null, .null]) :: T21), M, N) Q := by
  refine g_aload_n (j := 0) (pc' := 42) dX11_init_41 rfl rfl ?_
  refine y_new (mm := mX11_init) (sk := ((11, [.ref 1, .ref 11, .ref 14, .null, .null, .null, .int 0, .null, .null, .null, .null]) :: T21)) (p := 22) (ci := 5) (vs := [.null, .int 0, .int 0]) (mcr := 166) (msr := 1645) (pc' := 45) (cons_len l21) dX11_init_42 nX11_32 (by omega) rfl ?_
  refine g_dup (pc' := 46) dX11_init_45 rfl rfl ?_
  refine g_callI (my := mX5_init) (k := 22) (st := [.ref 22, .ref 0]) (av := []) (mcr := 101) (msr := 1205) (mc := 65) (ms := 440) (pc' := 49) dX11_init_46 kX5_init wX11_34 rfl (Nat.le_of_ble_eq_true rfl) (by decide) (i_X5 (sk0 := ((11, [.ref 1, .ref 11, .ref 14, .null, .null, .null, .int 0, .null, .null, .null, .null]) :: T21)) (p := 22) (cons_len l21) (by omega)) rfl ?_
  rintro _ _ ⟨M1, N1, rfl, rfl, v, u, f⟩
  show Go mX11_init 5 101 1205 49 [(0, .ref 0)] [.ref 22, .ref 0] (((11, [.ref 1, .ref 11, .ref 14, .null, .null, .null, .int 0, .null, .null, .null, .null]) :: T87), M1, N1) _
  refine g_putFR (pc' := 52) dX11_init_49 fX11_35 ⟨rfl, rfl⟩ rfl (Nat.le_of_ble_eq_true rfl) (fun _ => ⟨rfl, rfl⟩) rfl ?_
  exact kk M1 N1 v u (fun a ha => (f a (by omega)).trans (zI_ne (by omega)))
set_option maxRecDepth 100000 in
set_option maxHeartbeats 2000000 in
theorem f_5 {M : Nat → Nat → Int32} {N : Nat → Nat → Int64} {Q : AQ} (kk : ∀ (M' : Nat → Nat → Int32) (N' : Nat → Nat → Int64), (M' 88 0 = 0 ∧ M' 88 1 = 0 ∧ M' 88 2 = 6 ∧ M' 88 3 = 0 ∧ M' 88 4 = 1) → (∀ a, (a < 88 ∨ 96 ≤ a) → M' a = M a) → Go mX11_init 5 93 1151 63 [(0, .ref 0)] [] (((11, [.ref 1, .ref 11, .ref 14, .ref 22, .ref 88, .null, .int 0, .null, .null, .null, .null]) :: T95), M', N') Q) : Go mX11_init 5 101 1205 52 [(0, .ref 0)] [] (((11, [.ref 1, .ref 11, .ref 14, .ref 22, .null, .null, .int 0, .null, .null, .null, .null]) :: T87), M, N) Q := by
  refine g_aload_n (j := 0) (pc' := 53) dX11_init_52 rfl rfl ?_
  refine y_new (mm := mX11_init) (sk := ((11, [.ref 1, .ref 11, .ref 14, .ref 22, .null, .null, .int 0, .null, .null, .null, .null]) :: T87)) (p := 88) (ci := 4) (vs := [.int 0, .int 0, .int 0, .int 0, .int 0, .null, .null, .null, .null, .null, .null, .null]) (mcr := 100) (msr := 1193) (pc' := 56) (cons_len l87) dX11_init_53 nX11_25 (by omega) rfl ?_
  refine g_dup (pc' := 57) dX11_init_56 rfl rfl ?_
  refine g_callI (my := mX4_init) (k := 88) (st := [.ref 88, .ref 0]) (av := []) (mcr := 93) (msr := 1151) (mc := 7) (ms := 42) (pc' := 60) dX11_init_57 kX4_init wX11_27 rfl (Nat.le_of_ble_eq_true rfl) (by decide) (i_X4 (sk0 := ((11, [.ref 1, .ref 11, .ref 14, .ref 22, .null, .null, .int 0, .null, .null, .null, .null]) :: T87)) (p := 88) (cons_len l87) (by omega)) rfl ?_
  rintro _ _ ⟨M1, N1, rfl, rfl, v, f⟩
  show Go mX11_init 5 93 1151 60 [(0, .ref 0)] [.ref 88, .ref 0] (((11, [.ref 1, .ref 11, .ref 14, .ref 22, .null, .null, .int 0, .null, .null, .null, .null]) :: T95), M1, N1) _
  refine g_putFR (pc' := 63) dX11_init_60 fX11_39 ⟨rfl, rfl⟩ rfl (Nat.le_of_ble_eq_true rfl) (fun _ => ⟨rfl, rfl⟩) rfl ?_
  exact kk M1 N1 v (fun a ha => (f a (by omega)).trans (zI_ne (by omega)))
set_option maxRecDepth 100000 in
set_option maxHeartbeats 2000000 in
theorem f_6 {M : Nat → Nat → Int32} {N : Nat → Nat → Int64} {Q : AQ} (kk : ∀ (M' : Nat → Nat → Int32) (N' : Nat → Nat → Int64), M' 96 1 = 0 → M' 96 2 = 0 → (∀ a, (a < 96 ∨ 162 ≤ a) → M' a = M a) → Go mX11_init 5 27 708 74 [(0, .ref 0)] [] (((11, [.ref 1, .ref 11, .ref 14, .ref 22, .ref 88, .ref 96, .int 0, .null, .null, .null, .null]) :: T161), M', N') Q) : Go mX11_init 5 93 1151 63 [(0, .ref 0)] [] (((11, [.ref 1, .ref 11, .ref 14, .ref 22, .ref 88, .null, .int 0, .null, .null, .null, .null]) :: T95), M, N) Q := by
  refine g_aload_n (j := 0) (pc' := 64) dX11_init_63 rfl rfl ?_
  refine y_new (mm := mX11_init) (sk := ((11, [.ref 1, .ref 11, .ref 14, .ref 22, .ref 88, .null, .int 0, .null, .null, .null, .null]) :: T95)) (p := 96) (ci := 5) (vs := [.null, .int 0, .int 0]) (mcr := 92) (msr := 1148) (pc' := 67) (cons_len l95) dX11_init_64 nX11_32 (by omega) rfl ?_
  refine g_dup (pc' := 68) dX11_init_67 rfl rfl ?_
  refine g_callI (my := mX5_init) (k := 96) (st := [.ref 96, .ref 0]) (av := []) (mcr := 27) (msr := 708) (mc := 65) (ms := 440) (pc' := 71) dX11_init_68 kX5_init wX11_34 rfl (Nat.le_of_ble_eq_true rfl) (by decide) (i_X5 (sk0 := ((11, [.ref 1, .ref 11, .ref 14, .ref 22, .ref 88, .null, .int 0, .null, .null, .null, .null]) :: T95)) (p := 96) (cons_len l95) (by omega)) rfl ?_
  rintro _ _ ⟨M1, N1, rfl, rfl, v, u, f⟩
  show Go mX11_init 5 27 708 71 [(0, .ref 0)] [.ref 96, .ref 0] (((11, [.ref 1, .ref 11, .ref 14, .ref 22, .ref 88, .null, .int 0, .null, .null, .null, .null]) :: T161), M1, N1) _
  refine g_putFR (pc' := 74) dX11_init_71 fX11_42 ⟨rfl, rfl⟩ rfl (Nat.le_of_ble_eq_true rfl) (fun _ => ⟨rfl, rfl⟩) rfl ?_
  exact kk M1 N1 v u (fun a ha => (f a (by omega)).trans (zI_ne (by omega)))
set_option maxRecDepth 100000 in
set_option maxHeartbeats 2000000 in
theorem f_7 {M : Nat → Nat → Int32} {N : Nat → Nat → Int64} {Q : AQ} (kk : ∀ (M' : Nat → Nat → Int32) (N' : Nat → Nat → Int64), (M' 162 0 = 0 ∧ M' 162 1 = 0 ∧ M' 162 2 = 6 ∧ M' 162 3 = 0 ∧ M' 162 4 = 1) → (∀ a, (a < 162 ∨ 170 ≤ a) → M' a = M a) → Go mX11_init 5 19 654 90 [(0, .ref 0)] [] (((11, [.ref 1, .ref 11, .ref 14, .ref 22, .ref 88, .ref 96, .int 0, .ref 162, .null, .null, .null]) :: T169), M', N') Q) : Go mX11_init 5 27 708 79 [(0, .ref 0)] [] (((11, [.ref 1, .ref 11, .ref 14, .ref 22, .ref 88, .ref 96, .int 0, .null, .null, .null, .null]) :: T161), M, N) Q := by
  refine g_aload_n (j := 0) (pc' := 80) dX11_init_79 rfl rfl ?_
  refine y_new (mm := mX11_init) (sk := ((11, [.ref 1, .ref 11, .ref 14, .ref 22, .ref 88, .ref 96, .int 0, .null, .null, .null, .null]) :: T161)) (p := 162) (ci := 4) (vs := [.int 0, .int 0, .int 0, .int 0, .int 0, .null, .null, .null, .null, .null, .null, .null]) (mcr := 26) (msr := 696) (pc' := 83) (cons_len l161) dX11_init_80 nX11_25 (by omega) rfl ?_
  refine g_dup (pc' := 84) dX11_init_83 rfl rfl ?_
  refine g_callI (my := mX4_init) (k := 162) (st := [.ref 162, .ref 0]) (av := []) (mcr := 19) (msr := 654) (mc := 7) (ms := 42) (pc' := 87) dX11_init_84 kX4_init wX11_27 rfl (Nat.le_of_ble_eq_true rfl) (by decide) (i_X4 (sk0 := ((11, [.ref 1, .ref 11, .ref 14, .ref 22, .ref 88, .ref 96, .int 0, .null, .null, .null, .null]) :: T161)) (p := 162) (cons_len l161) (by omega)) rfl ?_
  rintro _ _ ⟨M1, N1, rfl, rfl, v, f⟩
  show Go mX11_init 5 19 654 87 [(0, .ref 0)] [.ref 162, .ref 0] (((11, [.ref 1, .ref 11, .ref 14, .ref 22, .ref 88, .ref 96, .int 0, .null, .null, .null, .null]) :: T169), M1, N1) _
  refine g_putFR (pc' := 90) dX11_init_87 fX11_49 ⟨rfl, rfl⟩ rfl (Nat.le_of_ble_eq_true rfl) (fun _ => ⟨rfl, rfl⟩) rfl ?_
  exact kk M1 N1 v (fun a ha => (f a (by omega)).trans (zI_ne (by omega)))
set_option maxRecDepth 100000 in
set_option maxHeartbeats 2000000 in
theorem f_8 {M : Nat → Nat → Int32} {N : Nat → Nat → Int64} {Q : AQ} (kk : ∀ (M' : Nat → Nat → Int32) (N' : Nat → Nat → Int64), M' 170 1 = 0 → (∀ a, (a < 170 ∨ 172 ≤ a) → M' a = M a) → Go mX11_init 5 17 571 101 [(0, .ref 0)] [] (((11, [.ref 1, .ref 11, .ref 14, .ref 22, .ref 88, .ref 96, .int 0, .ref 162, .ref 170, .null, .null]) :: T171), M', N') Q) : Go mX11_init 5 19 654 90 [(0, .ref 0)] [] (((11, [.ref 1, .ref 11, .ref 14, .ref 22, .ref 88, .ref 96, .int 0, .ref 162, .null, .null, .null]) :: T169), M, N) Q := by
  refine g_aload_n (j := 0) (pc' := 91) dX11_init_90 rfl rfl ?_
  refine y_new (mm := mX11_init) (sk := ((11, [.ref 1, .ref 11, .ref 14, .ref 22, .ref 88, .ref 96, .int 0, .ref 162, .null, .null, .null]) :: T169)) (p := 170) (ci := 10) (vs := [.null, .int 0, .int 0]) (mcr := 18) (msr := 651) (pc' := 94) (cons_len l169) dX11_init_91 nX11_52 (by omega) rfl ?_
  refine g_dup (pc' := 95) dX11_init_94 rfl rfl ?_
  refine g_callI (my := mX10_init) (k := 170) (st := [.ref 170, .ref 0]) (av := []) (mcr := 17) (msr := 571) (mc := 1) (ms := 80) (pc' := 98) dX11_init_95 kX10_init wX11_54 rfl (Nat.le_of_ble_eq_true rfl) (by decide) (i_X10 (sk0 := ((11, [.ref 1, .ref 11, .ref 14, .ref 22, .ref 88, .ref 96, .int 0, .ref 162, .null, .null, .null]) :: T169)) (p := 170) (cons_len l169) (by omega)) rfl ?_
  rintro _ _ ⟨M1, N1, rfl, rfl, v, f⟩
  show Go mX11_init 5 17 571 98 [(0, .ref 0)] [.ref 170, .ref 0] (((11, [.ref 1, .ref 11, .ref 14, .ref 22, .ref 88, .ref 96, .int 0, .ref 162, .null, .null, .null]) :: T171), M1, N1) _
  refine g_putFR (pc' := 101) dX11_init_98 fX11_55 ⟨rfl, rfl⟩ rfl (Nat.le_of_ble_eq_true rfl) (fun _ => ⟨rfl, rfl⟩) rfl ?_
  exact kk M1 N1 v (fun a ha => (f a (by omega)).trans (zI_ne (by omega)))
set_option maxRecDepth 100000 in
set_option maxHeartbeats 2000000 in
theorem f_k {M : Nat → Nat → Int32} {N : Nat → Nat → Int64} {Q : AQ} (kk : Go mX11_init 5 27 708 79 [(0, .ref 0)] [] (((11, [.ref 1, .ref 11, .ref 14, .ref 22, .ref 88, .ref 96, .int 0, .null, .null, .null, .null]) :: T161), um M 0 6 0, N) Q) : Go mX11_init 5 27 708 74 [(0, .ref 0)] [] (((11, [.ref 1, .ref 11, .ref 14, .ref 22, .ref 88, .ref 96, .int 0, .null, .null, .null, .null]) :: T161), M, N) Q := by
  refine g_aload_n (j := 0) (pc' := 75) dX11_init_74 rfl rfl ?_
  refine g_iconst (v := 0) (pc' := 76) dX11_init_75 (by decide) rfl ?_
  refine g_putI (pc' := 79) dX11_init_76 fX11_45 rfl rfl ⟨by decide, by decide⟩ rfl ?_
  exact kk
set_option maxRecDepth 100000 in
set_option maxHeartbeats 2000000 in
theorem f_a {M : Nat → Nat → Int32} {N : Nat → Nat → Int64} {Q : AQ} (kk : ∀ (M' : Nat → Nat → Int32) (N' : Nat → Nat → Int64), (∀ a, (a < 172 ∨ 181 ≤ a) → M' a = M a) → Go mX11_init 5 8 112 123 [(0, .ref 0), (1, .int (nI 0))] [] ((((11, [.ref 1, .ref 11, .ref 14, .ref 22, .ref 88, .ref 96, .int 0, .ref 162, .ref 170, .ref 172, .ref 173]) :: T171) ++ ((106, [.null, .null, .null, .null]) :: (mnaC 173 7 64 ++ []))), M', N') Q) : Go mX11_init 5 17 571 101 [(0, .ref 0)] [] (((11, [.ref 1, .ref 11, .ref 14, .ref 22, .ref 88, .ref 96, .int 0, .ref 162, .ref 170, .null, .null]) :: T171), M, N) Q := by
  refine g_aload_n (j := 0) (pc' := 102) dX11_init_101 rfl rfl ?_
  refine g_iconst (v := 4) (pc' := 103) dX11_init_102 (by decide) rfl ?_
  refine y_newq (mm := mX11_init) (sk := ((11, [.ref 1, .ref 11, .ref 14, .ref 22, .ref 88, .ref 96, .int 0, .ref 162, .ref 170, .null, .null]) :: T171)) (tag := 106) (mcr := 16) (msr := 567) (n := 4) (p := 172) (pc' := 106) (cons_len l171) dX11_init_103 aX11_59 (fun _ _ _ _ h => h.2.2.2.1) ⟨rfl, by decide⟩ rfl (by omega) (by omega) rfl ?_
  refine y_l (l' := [(106, [.null, .null, .null, .null])]) rfl ?_
  refine y_put0 (vs' := [.ref 1, .ref 11, .ref 14, .ref 22, .ref 88, .ref 96, .int 0, .ref 162, .ref 170, .ref 172, .null]) (pc' := 109) dX11_init_106 fX11_61 ⟨rfl, rfl⟩ (Nat.le_of_ble_eq_true rfl) (fun _ => ⟨rfl, rfl⟩) rfl rfl ?_
  refine g_aload_n (j := 0) (pc' := 110) dX11_init_109 rfl rfl ?_
  refine g_bipush (v := 7) (pc' := 112) dX11_init_110 (by decide) rfl ?_
  refine g_bipush (v := 64) (pc' := 114) dX11_init_112 (by decide) rfl ?_
  refine y_mna (mm := mX11_init) (n := 7) (k := 64) (mcr := 8) (msr := 112) (pc' := 118) (p := 173) (by rw [List.length_append, cons_len l171]; rfl) dX11_init_114 aX11_65 acint rfl rfl (by omega) (by omega) (by omega) rfl ?_
  rw [List.append_assoc]
  refine y_l (l' := ((106, [.null, .null, .null, .null]) :: (mnaC 173 7 64 ++ []))) (by rw [List.append_nil]; rfl) ?_
  refine y_put0 (vs' := [.ref 1, .ref 11, .ref 14, .ref 22, .ref 88, .ref 96, .int 0, .ref 162, .ref 170, .ref 172, .ref 173]) (pc' := 121) dX11_init_118 fX11_67 ⟨rfl, rfl⟩ (Nat.le_of_ble_eq_true rfl) (fun _ => ⟨rfl, rfl⟩) rfl rfl ?_
  refine g_iconst (v := 0) (pc' := 122) dX11_init_121 (by decide) rfl ?_
  refine g_istore_n (L' := [(0, .ref 0), (1, .int (nI 0))]) (pc' := 123) dX11_init_122 (by decide) rfl rfl ?_
  exact kk _ _ (fun a ha => (zIs_ne (by omega)).trans (zI_ne (by omega)))
set_option maxRecDepth 100000 in
set_option maxHeartbeats 2000000 in
theorem f_s0 {M : Nat → Nat → Int32} {N : Nat → Nat → Int64} {Q : AQ} (kk : ∀ (M' : Nat → Nat → Int32) (N' : Nat → Nat → Int64), M' 181 0 = 1 → (∀ a, (a < 181 ∨ 183 ≤ a) → M' a = M a) → Go mX11_init 5 6 84 123 [(0, .ref 0), (1, .int (nI 1))] [] ((((11, [.ref 1, .ref 11, .ref 14, .ref 22, .ref 88, .ref 96, .int 0, .ref 162, .ref 170, .ref 172, .ref 173]) :: T171) ++ ((106, [.ref 181, .null, .null, .null]) :: (mnaC 173 7 64 ++ [(9, [.int 0, .int 0, .int 0, .ref 182]), (101, rep 24)]))), M', N') Q) : Go mX11_init 5 8 112 123 [(0, .ref 0), (1, .int (nI 0))] [] ((((11, [.ref 1, .ref 11, .ref 14, .ref 22, .ref 88, .ref 96, .int 0, .ref 162, .ref 170, .ref 172, .ref 173]) :: T171) ++ ((106, [.null, .null, .null, .null]) :: (mnaC 173 7 64 ++ []))), M, N) Q := by
  refine g_iload_n (j := 1) (pc' := 124) dX11_init_123 rfl rfl ?_
  refine g_iconst (v := 4) (pc' := 125) dX11_init_124 (by decide) rfl ?_
  refine g_icmp_ge (tgt := 147) (pc' := 128) dX11_init_125 (by decide) rfl (fun hc => absurd hc (by decide)) (fun hc => ?_)
  refine g_aload_n (j := 0) (pc' := 129) dX11_init_128 rfl rfl ?_
  refine g_getR (pc' := 132) dX11_init_129 fX11_61 (by rw [List.cons_append]; rfl) rfl rfl ?_
  refine g_iload_n (j := 1) (pc' := 133) dX11_init_132 rfl rfl ?_
  refine x_new (mm := mX11_init) (l := ((106, [.null, .null, .null, .null]) :: (mnaC 173 7 64 ++ []))) (p := 172) (ci := 9) (vs := [.int 0, .int 0, .int 0, .null]) (mcr := 7) (msr := 108) (q := 9) (pc' := 136) (cons_len l171) dX11_init_133 nX11_59 rfl (by omega) rfl ?_
  refine g_dup (pc' := 137) dX11_init_136 rfl rfl ?_
  rw [← List.append_assoc]
  refine g_callI (my := mX9_init) (k := 181) (st := [.ref 181, .int (nI 0), .ref 172]) (av := []) (mcr := 6) (msr := 84) (mc := 1) (ms := 24) (pc' := 140) dX11_init_137 kX9_init wX11_70 rfl (Nat.le_of_ble_eq_true rfl) (by decide) (i_X9 (p := 181) (by rw [List.length_append, cons_len l171]; rfl) (by omega)) rfl ?_
  rintro _ _ ⟨M1, N1, rfl, rfl, s, f⟩
  rw [List.append_assoc]
  refine y_l (l' := ((106, [.null, .null, .null, .null]) :: (mnaC 173 7 64 ++ [(9, [.int 0, .int 0, .int 0, .ref 182]), (101, rep 24)]))) rfl ?_
  refine x_aast (mm := mX11_init) (p := 172) (i := 0) (i2 := 9) (n := 0) (l' := ((106, [.ref 181, .null, .null, .null]) :: (mnaC 173 7 64 ++ [(9, [.int 0, .int 0, .int 0, .ref 182]), (101, rep 24)]))) (pc' := 141) (cons_len l171) dX11_init_140 rfl ⟨rfl, by decide⟩ rfl rfl (SubOk.rf _) rfl (Nat.le_of_ble_eq_true rfl) (by simp) rfl rfl rfl rfl ?_
  refine g_iinc (j := 1) (v := nI 1) (L' := [(0, .ref 0), (1, .int (nI 1))]) (pc' := 144) dX11_init_141 rfl (nI_1 0) (by decide) rfl rfl ?_
  refine g_goto (tgt := 123) dX11_init_144 (by decide) ?_
  exact kk M1 N1 s (fun a ha => (f a (by omega)).trans (zI_ne (by omega)))
set_option maxRecDepth 100000 in
set_option maxHeartbeats 2000000 in
theorem f_s1 {M : Nat → Nat → Int32} {N : Nat → Nat → Int64} {Q : AQ} (kk : ∀ (M' : Nat → Nat → Int32) (N' : Nat → Nat → Int64), M' 183 0 = 1 → (∀ a, (a < 183 ∨ 185 ≤ a) → M' a = M a) → Go mX11_init 5 4 56 123 [(0, .ref 0), (1, .int (nI 2))] [] ((((11, [.ref 1, .ref 11, .ref 14, .ref 22, .ref 88, .ref 96, .int 0, .ref 162, .ref 170, .ref 172, .ref 173]) :: T171) ++ ((106, [.ref 181, .ref 183, .null, .null]) :: (mnaC 173 7 64 ++ [(9, [.int 0, .int 0, .int 0, .ref 182]), (101, rep 24), (9, [.int 0, .int 0, .int 0, .ref 184]), (101, rep 24)]))), M', N') Q) : Go mX11_init 5 6 84 123 [(0, .ref 0), (1, .int (nI 1))] [] ((((11, [.ref 1, .ref 11, .ref 14, .ref 22, .ref 88, .ref 96, .int 0, .ref 162, .ref 170, .ref 172, .ref 173]) :: T171) ++ ((106, [.ref 181, .null, .null, .null]) :: (mnaC 173 7 64 ++ [(9, [.int 0, .int 0, .int 0, .ref 182]), (101, rep 24)]))), M, N) Q := by
  refine g_iload_n (j := 1) (pc' := 124) dX11_init_123 rfl rfl ?_
  refine g_iconst (v := 4) (pc' := 125) dX11_init_124 (by decide) rfl ?_
  refine g_icmp_ge (tgt := 147) (pc' := 128) dX11_init_125 (by decide) rfl (fun hc => absurd hc (by decide)) (fun hc => ?_)
  refine g_aload_n (j := 0) (pc' := 129) dX11_init_128 rfl rfl ?_
  refine g_getR (pc' := 132) dX11_init_129 fX11_61 (by rw [List.cons_append]; rfl) rfl rfl ?_
  refine g_iload_n (j := 1) (pc' := 133) dX11_init_132 rfl rfl ?_
  refine x_new (mm := mX11_init) (l := ((106, [.ref 181, .null, .null, .null]) :: (mnaC 173 7 64 ++ [(9, [.int 0, .int 0, .int 0, .ref 182]), (101, rep 24)]))) (p := 172) (ci := 9) (vs := [.int 0, .int 0, .int 0, .null]) (mcr := 5) (msr := 80) (q := 11) (pc' := 136) (cons_len l171) dX11_init_133 nX11_59 rfl (by omega) rfl ?_
  refine g_dup (pc' := 137) dX11_init_136 rfl rfl ?_
  rw [← List.append_assoc]
  refine g_callI (my := mX9_init) (k := 183) (st := [.ref 183, .int (nI 1), .ref 172]) (av := []) (mcr := 4) (msr := 56) (mc := 1) (ms := 24) (pc' := 140) dX11_init_137 kX9_init wX11_70 rfl (Nat.le_of_ble_eq_true rfl) (by decide) (i_X9 (p := 183) (by rw [List.length_append, cons_len l171]; rfl) (by omega)) rfl ?_
  rintro _ _ ⟨M1, N1, rfl, rfl, s, f⟩
  rw [List.append_assoc]
  refine y_l (l' := ((106, [.ref 181, .null, .null, .null]) :: (mnaC 173 7 64 ++ [(9, [.int 0, .int 0, .int 0, .ref 182]), (101, rep 24), (9, [.int 0, .int 0, .int 0, .ref 184]), (101, rep 24)]))) rfl ?_
  refine x_aast (mm := mX11_init) (p := 172) (i := 0) (i2 := 11) (n := 1) (l' := ((106, [.ref 181, .ref 183, .null, .null]) :: (mnaC 173 7 64 ++ [(9, [.int 0, .int 0, .int 0, .ref 182]), (101, rep 24), (9, [.int 0, .int 0, .int 0, .ref 184]), (101, rep 24)]))) (pc' := 141) (cons_len l171) dX11_init_140 rfl ⟨rfl, by decide⟩ rfl rfl (SubOk.rf _) rfl (Nat.le_of_ble_eq_true rfl) (by simp) rfl rfl rfl rfl ?_
  refine g_iinc (j := 1) (v := nI 2) (L' := [(0, .ref 0), (1, .int (nI 2))]) (pc' := 144) dX11_init_141 rfl (nI_1 1) (by decide) rfl rfl ?_
  refine g_goto (tgt := 123) dX11_init_144 (by decide) ?_
  exact kk M1 N1 s (fun a ha => (f a (by omega)).trans (zI_ne (by omega)))
set_option maxRecDepth 100000 in
set_option maxHeartbeats 2000000 in
theorem f_s2 {M : Nat → Nat → Int32} {N : Nat → Nat → Int64} {Q : AQ} (kk : ∀ (M' : Nat → Nat → Int32) (N' : Nat → Nat → Int64), M' 185 0 = 1 → (∀ a, (a < 185 ∨ 187 ≤ a) → M' a = M a) → Go mX11_init 5 2 28 123 [(0, .ref 0), (1, .int (nI 3))] [] ((((11, [.ref 1, .ref 11, .ref 14, .ref 22, .ref 88, .ref 96, .int 0, .ref 162, .ref 170, .ref 172, .ref 173]) :: T171) ++ ((106, [.ref 181, .ref 183, .ref 185, .null]) :: (mnaC 173 7 64 ++ [(9, [.int 0, .int 0, .int 0, .ref 182]), (101, rep 24), (9, [.int 0, .int 0, .int 0, .ref 184]), (101, rep 24), (9, [.int 0, .int 0, .int 0, .ref 186]), (101, rep 24)]))), M', N') Q) : Go mX11_init 5 4 56 123 [(0, .ref 0), (1, .int (nI 2))] [] ((((11, [.ref 1, .ref 11, .ref 14, .ref 22, .ref 88, .ref 96, .int 0, .ref 162, .ref 170, .ref 172, .ref 173]) :: T171) ++ ((106, [.ref 181, .ref 183, .null, .null]) :: (mnaC 173 7 64 ++ [(9, [.int 0, .int 0, .int 0, .ref 182]), (101, rep 24), (9, [.int 0, .int 0, .int 0, .ref 184]), (101, rep 24)]))), M, N) Q := by
  refine g_iload_n (j := 1) (pc' := 124) dX11_init_123 rfl rfl ?_
  refine g_iconst (v := 4) (pc' := 125) dX11_init_124 (by decide) rfl ?_
  refine g_icmp_ge (tgt := 147) (pc' := 128) dX11_init_125 (by decide) rfl (fun hc => absurd hc (by decide)) (fun hc => ?_)
  refine g_aload_n (j := 0) (pc' := 129) dX11_init_128 rfl rfl ?_
  refine g_getR (pc' := 132) dX11_init_129 fX11_61 (by rw [List.cons_append]; rfl) rfl rfl ?_
  refine g_iload_n (j := 1) (pc' := 133) dX11_init_132 rfl rfl ?_
  refine x_new (mm := mX11_init) (l := ((106, [.ref 181, .ref 183, .null, .null]) :: (mnaC 173 7 64 ++ [(9, [.int 0, .int 0, .int 0, .ref 182]), (101, rep 24), (9, [.int 0, .int 0, .int 0, .ref 184]), (101, rep 24)]))) (p := 172) (ci := 9) (vs := [.int 0, .int 0, .int 0, .null]) (mcr := 3) (msr := 52) (q := 13) (pc' := 136) (cons_len l171) dX11_init_133 nX11_59 rfl (by omega) rfl ?_
  refine g_dup (pc' := 137) dX11_init_136 rfl rfl ?_
  rw [← List.append_assoc]
  refine g_callI (my := mX9_init) (k := 185) (st := [.ref 185, .int (nI 2), .ref 172]) (av := []) (mcr := 2) (msr := 28) (mc := 1) (ms := 24) (pc' := 140) dX11_init_137 kX9_init wX11_70 rfl (Nat.le_of_ble_eq_true rfl) (by decide) (i_X9 (p := 185) (by rw [List.length_append, cons_len l171]; rfl) (by omega)) rfl ?_
  rintro _ _ ⟨M1, N1, rfl, rfl, s, f⟩
  rw [List.append_assoc]
  refine y_l (l' := ((106, [.ref 181, .ref 183, .null, .null]) :: (mnaC 173 7 64 ++ [(9, [.int 0, .int 0, .int 0, .ref 182]), (101, rep 24), (9, [.int 0, .int 0, .int 0, .ref 184]), (101, rep 24), (9, [.int 0, .int 0, .int 0, .ref 186]), (101, rep 24)]))) rfl ?_
  refine x_aast (mm := mX11_init) (p := 172) (i := 0) (i2 := 13) (n := 2) (l' := ((106, [.ref 181, .ref 183, .ref 185, .null]) :: (mnaC 173 7 64 ++ [(9, [.int 0, .int 0, .int 0, .ref 182]), (101, rep 24), (9, [.int 0, .int 0, .int 0, .ref 184]), (101, rep 24), (9, [.int 0, .int 0, .int 0, .ref 186]), (101, rep 24)]))) (pc' := 141) (cons_len l171) dX11_init_140 rfl ⟨rfl, by decide⟩ rfl rfl (SubOk.rf _) rfl (Nat.le_of_ble_eq_true rfl) (by simp) rfl rfl rfl rfl ?_
  refine g_iinc (j := 1) (v := nI 3) (L' := [(0, .ref 0), (1, .int (nI 3))]) (pc' := 144) dX11_init_141 rfl (nI_1 2) (by decide) rfl rfl ?_
  refine g_goto (tgt := 123) dX11_init_144 (by decide) ?_
  exact kk M1 N1 s (fun a ha => (f a (by omega)).trans (zI_ne (by omega)))
set_option maxRecDepth 100000 in
set_option maxHeartbeats 2000000 in
theorem f_s3 {M : Nat → Nat → Int32} {N : Nat → Nat → Int64} {Q : AQ} (kk : ∀ (M' : Nat → Nat → Int32) (N' : Nat → Nat → Int64), M' 187 0 = 1 → (∀ a, (a < 187 ∨ 189 ≤ a) → M' a = M a) → Go mX11_init 5 0 0 123 [(0, .ref 0), (1, .int (nI 4))] [] ((((11, [.ref 1, .ref 11, .ref 14, .ref 22, .ref 88, .ref 96, .int 0, .ref 162, .ref 170, .ref 172, .ref 173]) :: T171) ++ ((106, [.ref 181, .ref 183, .ref 185, .ref 187]) :: (mnaC 173 7 64 ++ [(9, [.int 0, .int 0, .int 0, .ref 182]), (101, rep 24), (9, [.int 0, .int 0, .int 0, .ref 184]), (101, rep 24), (9, [.int 0, .int 0, .int 0, .ref 186]), (101, rep 24), (9, [.int 0, .int 0, .int 0, .ref 188]), (101, rep 24)]))), M', N') Q) : Go mX11_init 5 2 28 123 [(0, .ref 0), (1, .int (nI 3))] [] ((((11, [.ref 1, .ref 11, .ref 14, .ref 22, .ref 88, .ref 96, .int 0, .ref 162, .ref 170, .ref 172, .ref 173]) :: T171) ++ ((106, [.ref 181, .ref 183, .ref 185, .null]) :: (mnaC 173 7 64 ++ [(9, [.int 0, .int 0, .int 0, .ref 182]), (101, rep 24), (9, [.int 0, .int 0, .int 0, .ref 184]), (101, rep 24), (9, [.int 0, .int 0, .int 0, .ref 186]), (101, rep 24)]))), M, N) Q := by
  refine g_iload_n (j := 1) (pc' := 124) dX11_init_123 rfl rfl ?_
  refine g_iconst (v := 4) (pc' := 125) dX11_init_124 (by decide) rfl ?_
  refine g_icmp_ge (tgt := 147) (pc' := 128) dX11_init_125 (by decide) rfl (fun hc => absurd hc (by decide)) (fun hc => ?_)
  refine g_aload_n (j := 0) (pc' := 129) dX11_init_128 rfl rfl ?_
  refine g_getR (pc' := 132) dX11_init_129 fX11_61 (by rw [List.cons_append]; rfl) rfl rfl ?_
  refine g_iload_n (j := 1) (pc' := 133) dX11_init_132 rfl rfl ?_
  refine x_new (mm := mX11_init) (l := ((106, [.ref 181, .ref 183, .ref 185, .null]) :: (mnaC 173 7 64 ++ [(9, [.int 0, .int 0, .int 0, .ref 182]), (101, rep 24), (9, [.int 0, .int 0, .int 0, .ref 184]), (101, rep 24), (9, [.int 0, .int 0, .int 0, .ref 186]), (101, rep 24)]))) (p := 172) (ci := 9) (vs := [.int 0, .int 0, .int 0, .null]) (mcr := 1) (msr := 24) (q := 15) (pc' := 136) (cons_len l171) dX11_init_133 nX11_59 rfl (by omega) rfl ?_
  refine g_dup (pc' := 137) dX11_init_136 rfl rfl ?_
  rw [← List.append_assoc]
  refine g_callI (my := mX9_init) (k := 187) (st := [.ref 187, .int (nI 3), .ref 172]) (av := []) (mcr := 0) (msr := 0) (mc := 1) (ms := 24) (pc' := 140) dX11_init_137 kX9_init wX11_70 rfl (Nat.le_of_ble_eq_true rfl) (by decide) (i_X9 (p := 187) (by rw [List.length_append, cons_len l171]; rfl) (by omega)) rfl ?_
  rintro _ _ ⟨M1, N1, rfl, rfl, s, f⟩
  rw [List.append_assoc]
  refine y_l (l' := ((106, [.ref 181, .ref 183, .ref 185, .null]) :: (mnaC 173 7 64 ++ [(9, [.int 0, .int 0, .int 0, .ref 182]), (101, rep 24), (9, [.int 0, .int 0, .int 0, .ref 184]), (101, rep 24), (9, [.int 0, .int 0, .int 0, .ref 186]), (101, rep 24), (9, [.int 0, .int 0, .int 0, .ref 188]), (101, rep 24)]))) rfl ?_
  refine x_aast (mm := mX11_init) (p := 172) (i := 0) (i2 := 15) (n := 3) (l' := ((106, [.ref 181, .ref 183, .ref 185, .ref 187]) :: (mnaC 173 7 64 ++ [(9, [.int 0, .int 0, .int 0, .ref 182]), (101, rep 24), (9, [.int 0, .int 0, .int 0, .ref 184]), (101, rep 24), (9, [.int 0, .int 0, .int 0, .ref 186]), (101, rep 24), (9, [.int 0, .int 0, .int 0, .ref 188]), (101, rep 24)]))) (pc' := 141) (cons_len l171) dX11_init_140 rfl ⟨rfl, by decide⟩ rfl rfl (SubOk.rf _) rfl (Nat.le_of_ble_eq_true rfl) (by simp) rfl rfl rfl rfl ?_
  refine g_iinc (j := 1) (v := nI 4) (L' := [(0, .ref 0), (1, .int (nI 4))]) (pc' := 144) dX11_init_141 rfl (nI_1 3) (by decide) rfl rfl ?_
  refine g_goto (tgt := 123) dX11_init_144 (by decide) ?_
  exact kk M1 N1 s (fun a ha => (f a (by omega)).trans (zI_ne (by omega)))
def SKF : List (Nat × List Value) := (((11, [.ref 1, .ref 11, .ref 14, .ref 22, .ref 88, .ref 96, .int 0, .ref 162, .ref 170, .ref 172, .ref 173]) :: T171) ++ ((106, [.ref 181, .ref 183, .ref 185, .ref 187]) :: (mnaC 173 7 64 ++ [(9, [.int 0, .int 0, .int 0, .ref 182]), (101, rep 24), (9, [.int 0, .int 0, .int 0, .ref 184]), (101, rep 24), (9, [.int 0, .int 0, .int 0, .ref 186]), (101, rep 24), (9, [.int 0, .int 0, .int 0, .ref 188]), (101, rep 24)])))
set_option maxRecDepth 100000 in
set_option maxHeartbeats 2000000 in
theorem i_X11 {M : Nat → Nat → Int32} {N : Nat → Nat → Int64} : Run mX11_init 5 188 1769 [.ref 0] ([(11, [.null, .null, .null, .null, .null, .null, .int 0, .null, .null, .null, .null])], M, N) (fun r h' => ∃ M' N', h' = (SKF, M', N') ∧ r = none ∧ M' 0 6 = 0 ∧ (M' 14 0 = 0 ∧ M' 14 1 = 0 ∧ M' 14 2 = 6 ∧ M' 14 3 = 0 ∧ M' 14 4 = 1) ∧ M' 22 1 = 0 ∧ M' 22 2 = 0 ∧ M' 170 1 = 0 ∧ (M' 181 0 = 1 ∧ M' 183 0 = 1 ∧ M' 185 0 = 1 ∧ M' 187 0 = 1) ∧ ∀ a, 1000 ≤ a → M' a = M a) := by
  refine Run.of (by decide) (Nat.le_of_ble_eq_true rfl) ?_
  refine g_aload_n (j := 0) (pc' := 1) dX11_init_0 rfl rfl ?_
  refine g_objinit (pc' := 4) dX11_init_1 wX11_1 (Nat.le_of_ble_eq_true rfl) (by decide) rfl ?_
  refine f_1 (fun M1 N1 g1 => ?_)
  refine f_2 (fun M2 N2 g2 => ?_)
  refine f_3 (fun M3 N3 v3 g3 => ?_)
  refine f_4 (fun M4 N4 v4 u4 g4 => ?_)
  refine f_5 (fun M5 N5 v5 g5 => ?_)
  refine f_6 (fun M6 N6 v6 u6 g6 => ?_)
  refine f_k ?_
  refine f_7 (fun M7 N7 v7 g7 => ?_)
  refine f_8 (fun M8 N8 v8 g8 => ?_)
  refine f_a (fun M9 N9 g9 => ?_)
  refine f_s0 (fun Q0 R0 s0 h0 => ?_)
  refine f_s1 (fun Q1 R1 s1 h1 => ?_)
  refine f_s2 (fun Q2 R2 s2 h2 => ?_)
  refine f_s3 (fun Q3 R3 s3 h3 => ?_)
  refine g_iload_n (j := 1) (pc' := 124) dX11_init_123 rfl rfl ?_
  refine g_iconst (v := 4) (pc' := 125) dX11_init_124 (by decide) rfl ?_
  refine g_icmp_ge (tgt := 147) (pc' := 128) dX11_init_125 (by decide) rfl (fun hc => ?_) (fun hc => absurd (by decide) hc)
  exact g_vret dX11_init_147 rfl ⟨Q3, R3, rfl, rfl, by simp (disch := omega) only [um_at, h3 0 (by omega), h2 0 (by omega), h1 0 (by omega), h0 0 (by omega), g9 0 (by omega), g8 0 (by omega), g7 0 (by omega)], ⟨by simp (disch := omega) only [um_ne, h3 14 (by omega), h2 14 (by omega), h1 14 (by omega), h0 14 (by omega), g9 14 (by omega), g8 14 (by omega), g7 14 (by omega), g6 14 (by omega), g5 14 (by omega), g4 14 (by omega)]; exact v3.1, by simp (disch := omega) only [um_ne, h3 14 (by omega), h2 14 (by omega), h1 14 (by omega), h0 14 (by omega), g9 14 (by omega), g8 14 (by omega), g7 14 (by omega), g6 14 (by omega), g5 14 (by omega), g4 14 (by omega)]; exact v3.2.1, by simp (disch := omega) only [um_ne, h3 14 (by omega), h2 14 (by omega), h1 14 (by omega), h0 14 (by omega), g9 14 (by omega), g8 14 (by omega), g7 14 (by omega), g6 14 (by omega), g5 14 (by omega), g4 14 (by omega)]; exact v3.2.2.1, by simp (disch := omega) only [um_ne, h3 14 (by omega), h2 14 (by omega), h1 14 (by omega), h0 14 (by omega), g9 14 (by omega), g8 14 (by omega), g7 14 (by omega), g6 14 (by omega), g5 14 (by omega), g4 14 (by omega)]; exact v3.2.2.2.1, by simp (disch := omega) only [um_ne, h3 14 (by omega), h2 14 (by omega), h1 14 (by omega), h0 14 (by omega), g9 14 (by omega), g8 14 (by omega), g7 14 (by omega), g6 14 (by omega), g5 14 (by omega), g4 14 (by omega)]; exact v3.2.2.2.2⟩, by simp (disch := omega) only [um_ne, h3 22 (by omega), h2 22 (by omega), h1 22 (by omega), h0 22 (by omega), g9 22 (by omega), g8 22 (by omega), g7 22 (by omega), g6 22 (by omega), g5 22 (by omega)]; exact v4, by simp (disch := omega) only [um_ne, h3 22 (by omega), h2 22 (by omega), h1 22 (by omega), h0 22 (by omega), g9 22 (by omega), g8 22 (by omega), g7 22 (by omega), g6 22 (by omega), g5 22 (by omega)]; exact u4, by simp (disch := omega) only [um_ne, h3 170 (by omega), h2 170 (by omega), h1 170 (by omega), h0 170 (by omega), g9 170 (by omega)]; exact v8, ⟨by simp (disch := omega) only [h3 181 (by omega), h2 181 (by omega), h1 181 (by omega)]; exact s0, by simp (disch := omega) only [h3 183 (by omega), h2 183 (by omega)]; exact s1, by simp (disch := omega) only [h3 185 (by omega)]; exact s2, s3⟩, fun a ha => by simp (disch := omega) only [um_ne, h3 a (by omega), h2 a (by omega), h1 a (by omega), h0 a (by omega), g9 a (by omega), g8 a (by omega), g7 a (by omega), g6 a (by omega), g5 a (by omega), g4 a (by omega), g3 a (by omega), g2 a (by omega), g1 a (by omega)]⟩
