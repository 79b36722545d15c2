/-! ===== the constructors: heaps sk0 ++ l, where l is known cell by cell; p is sk0's length ===== -/
theorem at_app {sk0 l : List (Nat × List Value)} {p i : Nat} {c : Nat × List Value} (hp0 : sk0.length = p) (h : l[i]? = some c) : (sk0 ++ l)[p + i]? = some c := by
  rw [List.getElem?_append_right (by omega), ← hp0, Nat.add_sub_cancel_left]; exact h
theorem at_app0 {sk0 l : List (Nat × List Value)} {p i k : Nat} {c : Nat × List Value} (hp0 : sk0.length = p) (hk : k = p + i) (h : l[i]? = some c) : (sk0 ++ l)[k]? = some c := by subst hk; exact at_app hp0 h
theorem set_app {sk0 l : List (Nat × List Value)} {p i : Nat} {c : Nat × List Value} (hp0 : sk0.length = p) : (sk0 ++ l).set (p + i) c = sk0 ++ l.set i c := by
  rw [List.set_append_right _ _ (by omega), ← hp0, Nat.add_sub_cancel_left]
section GX
variable {mm : MM} {d mcr msr pc pc' p q : Nat} {L L' : AL} {st : List Value} {sk0 l l' : List (Nat × List Value)} {M : Nat → Nat → Int32} {N : Nat → Nat → Int64} {Q : AQ}
theorem x_l (hl : l = l') (kk : Go mm d mcr msr pc L st (sk0 ++ l', M, N) Q) : Go mm d mcr msr pc L st (sk0 ++ l, M, N) Q := by subst hl; exact kk
theorem x_new {idx ci : Nat} {vs : List Value} (hp0 : sk0.length = p) (hd : decode mm.2.1 pc = .ok (.new idx, 3)) (hf : NLk mm.1.cls idx ci vs) (hl : l.length = q) (hb : p + q < 1000000) (hp : pc + 3 = pc') (kk : Go mm d mcr msr pc' L (.ref (p + q) :: st) (sk0 ++ (l ++ [(ci, vs)]), zI M (p + q), zL N (p + q)) Q) : Go mm d (mcr + 1) (msr + vs.length) pc L st (sk0 ++ l, M, N) Q := by
  have e : (sk0 ++ l).length = p + q := by rw [List.length_append, hp0, hl]
  refine g_new hd hf (by omega) hp ?_
  rw [e, List.append_assoc]; exact kk
theorem x_newaI {n : Nat} {i : Int32} (hp0 : sk0.length = p) (hd : decode mm.2.1 pc = .ok (.newarray .int, 2)) (hw : Cond.arrayClass .int ∈ gtbl) (hi : i = nI n) (hn : n ≤ 1000) (hl : l.length = q) (hb : p + q < 1000000) (hp : pc + 2 = pc') (kk : Go mm d mcr msr pc' L (.ref (p + q) :: st) (sk0 ++ (l ++ [(100, rep n)]), zI M (p + q), zL N (p + q)) Q) : Go mm d (mcr + 1) (msr + n) pc L (.int i :: st) (sk0 ++ l, M, N) Q := by
  have e : (sk0 ++ l).length = p + q := by rw [List.length_append, hp0, hl]
  refine g_newaI hd hw hi hn (by omega) hp ?_
  rw [e, List.append_assoc]; exact kk
theorem x_newaL {n : Nat} {i : Int32} (hp0 : sk0.length = p) (hd : decode mm.2.1 pc = .ok (.newarray .long, 2)) (hw : Cond.arrayClass .long ∈ gtbl) (hi : i = nI n) (hn : n ≤ 1000) (hl : l.length = q) (hb : p + q < 1000000) (hp : pc + 2 = pc') (kk : Go mm d mcr msr pc' L (.ref (p + q) :: st) (sk0 ++ (l ++ [(101, rep n)]), zI M (p + q), zL N (p + q)) Q) : Go mm d (mcr + 1) (msr + n) pc L (.int i :: st) (sk0 ++ l, M, N) Q := by
  have e : (sk0 ++ l).length = p + q := by rw [List.length_append, hp0, hl]
  refine g_newaL hd hw hi hn (by omega) hp ?_
  rw [e, List.append_assoc]; exact kk
theorem x_newaC {n : Nat} {i : Int32} (hp0 : sk0.length = p) (hd : decode mm.2.1 pc = .ok (.newarray .char, 2)) (hw : Cond.arrayClass .char ∈ gtbl) (hi : i = nI n) (hn : n ≤ 1000) (hl : l.length = q) (hb : p + q < 1000000) (hp : pc + 2 = pc') (kk : Go mm d mcr msr pc' L (.ref (p + q) :: st) (sk0 ++ (l ++ [(102, rep n)]), zI M (p + q), zL N (p + q)) Q) : Go mm d (mcr + 1) (msr + n) pc L (.int i :: st) (sk0 ++ l, M, N) Q := by
  have e : (sk0 ++ l).length = p + q := by rw [List.length_append, hp0, hl]
  refine g_newaC hd hw hi hn (by omega) hp ?_
  rw [e, List.append_assoc]; exact kk
theorem x_newq {idx n tag : Nat} {i : Int32} {C : String} (hp0 : sk0.length = p) (hd : decode mm.2.1 pc = .ok (.anewarray idx, 3)) (hw : Cond.classLink mm.1.cls idx C ∈ gtbl) (hx : ∀ (B0 : Nat) (D : va_G) (ad : Nat → Nat) (U : State), Kx B0 D ad U → va_AO C U) (ht : arrTy tag = some (.object C) ∧ 103 ≤ tag) (hi : i = nI n) (hn : n ≤ 1000) (hl : l.length = q) (hb : p + q < 1000000) (hp : pc + 3 = pc') (kk : Go mm d mcr msr pc' L (.ref (p + q) :: st) (sk0 ++ (l ++ [(tag, rep n)]), zI M (p + q), zL N (p + q)) Q) : Go mm d (mcr + 1) (msr + n) pc L (.int i :: st) (sk0 ++ l, M, N) Q := by
  have e : (sk0 ++ l).length = p + q := by rw [List.length_append, hp0, hl]
  refine g_newq hd hw hx ht hi hn (by omega) hp ?_
  rw [e, List.append_assoc]; exact kk
theorem x_putFR {idx ci j i k r : Nat} {vs : List Value} {ty : FieldType} (hp0 : sk0.length = p) (hd : decode mm.2.1 pc = .ok (.putfield idx, 3)) (hf : FLk mm.1.cls idx ci j ty true) (hi2 : mm.1.name = "<init>" ∧ ((vwCl[ci]?).map fun q => q.1) = some mm.1.cls) (hs : l[i]? = some (ci, vs)) (hj2 : j < vs.length) (hn : ∀ a : Nat, narrow ty (.ref a) = .ref a ∧ fits ty (.ref a) = true) (hk : k = p + i) (hl : l.set i (ci, vs.set j (.ref r)) = l') (hp : pc + 3 = pc') (kk : Go mm d mcr msr pc' L st (sk0 ++ l', M, N) Q) : Go mm d mcr msr pc L (.ref r :: .ref k :: st) (sk0 ++ l, M, N) Q := by
  subst hk
  refine g_putFR hd hf hi2 (at_app hp0 hs) hj2 hn hp ?_
  rw [set_app hp0, hl]; exact kk
theorem x_aast {n tag i i2 k r ci : Nat} {vs ws : List Value} {ii : Int32} {E : String} {qc : vw_C} (hp0 : sk0.length = p) (hd : decode mm.2.1 pc = .ok (.aastore, 1)) (hs : l[i]? = some (tag, vs)) (ht : arrTy tag = some (.object E) ∧ 103 ≤ tag) (hr : l[i2]? = some (ci, ws)) (hc : vwCl[ci]? = some qc) (hq : SubOk qc.1 E) (hi : ii = nI n) (hn : n < vs.length) (hb : vs.length < 2147483648) (hk : k = p + i) (hr2 : r = p + i2) (hl : l.set i (tag, vs.set n (.ref r)) = l') (hp : pc + 1 = pc') (kk : Go mm d mcr msr pc' L st (sk0 ++ l', M, N) Q) : Go mm d mcr msr pc L (.ref r :: .int ii :: .ref k :: st) (sk0 ++ l, M, N) Q := by
  subst hk
  subst hr2
  refine g_aastS hd (at_app hp0 hs) ht (at_app hp0 hr) hc hq hi hn hb hp ?_
  rw [set_app hp0, hl]; exact kk
end GX
theorem cst_Proud : SubOk "FurrowNames$Proud" "FurrowNames$Plain" := SubOk.one (tb_of 51 (by decide +kernel) (by decide +kernel)) (tb_of 44 (by decide +kernel) (by decide +kernel))
theorem cst_Poor : SubOk "FurrowNames$Poor" "FurrowNames$Plain" := SubOk.one (tb_of 58 (by decide +kernel) (by decide +kernel)) (tb_of 44 (by decide +kernel) (by decide +kernel))
theorem cst_Heir : SubOk "FurrowNames$Heir" "FurrowNames$Plain" := SubOk.two (B := "FurrowNames$Proud") (tb_of 65 (by decide +kernel) (by decide +kernel)) (tb_of 51 (by decide +kernel) (by decide +kernel)) (tb_of 44 (by decide +kernel) (by decide +kernel))
theorem cst_Drinker : SubOk "FurrowNames$Drinker" "FurrowNames$Plain" := SubOk.two (B := "FurrowNames$Poor") (tb_of 72 (by decide +kernel) (by decide +kernel)) (tb_of 58 (by decide +kernel) (by decide +kernel)) (tb_of 44 (by decide +kernel) (by decide +kernel))
set_option maxRecDepth 100000 in
set_option maxHeartbeats 1000000 in
theorem i_X6 (k : Nat) (h : AH) : Run mX6_init 1 0 0 [.ref k] h (fun r h' => h' = h ∧ r = none) := by
  refine Run.of (by decide) (Nat.le_of_ble_eq_true rfl) ?_
  obtain ⟨sk, M, N⟩ := h
  refine g_aload_n (j := 0) (pc' := 1) dX6_init_0 rfl rfl ?_
  refine g_objinit (pc' := 4) dX6_init_1 wX6_1 (Nat.le_of_ble_eq_true rfl) (by decide) rfl ?_
  exact g_vret dX6_init_4 rfl (⟨rfl, rfl⟩)
set_option maxRecDepth 100000 in
set_option maxHeartbeats 1000000 in
theorem i_X8 (k : Nat) (h : AH) : Run mX8_init 2 0 0 [.ref k] h (fun r h' => h' = h ∧ r = none) := by
  refine Run.of (by decide) (Nat.le_of_ble_eq_true rfl) ?_
  obtain ⟨sk, M, N⟩ := h
  refine g_aload_n (j := 0) (pc' := 1) dX8_init_0 rfl rfl ?_
  refine g_callI (my := mX6_init) (k := k) (st := []) (av := []) (mcr := 0) (msr := 0) (mc := 0) (ms := 0) (pc' := 4) dX8_init_1 kX6_init wX8_1 rfl (Nat.le_of_ble_eq_true rfl) (by decide) (i_X6 k _) rfl ?_
  rintro _ _ ⟨rfl, rfl⟩
  show Go mX8_init _ _ _ 4 [(0, .ref k)] [] (sk, M, N) _
  exact g_vret dX8_init_4 rfl (⟨rfl, rfl⟩)
set_option maxRecDepth 100000 in
set_option maxHeartbeats 1000000 in
theorem i_X7 (k : Nat) (h : AH) : Run mX7_init 2 0 0 [.ref k] h (fun r h' => h' = h ∧ r = none) := by
  refine Run.of (by decide) (Nat.le_of_ble_eq_true rfl) ?_
  obtain ⟨sk, M, N⟩ := h
  refine g_aload_n (j := 0) (pc' := 1) dX7_init_0 rfl rfl ?_
  refine g_callI (my := mX6_init) (k := k) (st := []) (av := []) (mcr := 0) (msr := 0) (mc := 0) (ms := 0) (pc' := 4) dX7_init_1 kX6_init wX7_1 rfl (Nat.le_of_ble_eq_true rfl) (by decide) (i_X6 k _) rfl ?_
  rintro _ _ ⟨rfl, rfl⟩
  show Go mX7_init _ _ _ 4 [(0, .ref k)] [] (sk, M, N) _
  exact g_vret dX7_init_4 rfl (⟨rfl, rfl⟩)
set_option maxRecDepth 100000 in
set_option maxHeartbeats 1000000 in
theorem i_X2 (k : Nat) (h : AH) : Run mX2_init 3 0 0 [.ref k] h (fun r h' => h' = h ∧ r = none) := by
  refine Run.of (by decide) (Nat.le_of_ble_eq_true rfl) ?_
  obtain ⟨sk, M, N⟩ := h
  refine g_aload_n (j := 0) (pc' := 1) dX2_init_0 rfl rfl ?_
  refine g_callI (my := mX8_init) (k := k) (st := []) (av := []) (mcr := 0) (msr := 0) (mc := 0) (ms := 0) (pc' := 4) dX2_init_1 kX8_init wX2_1 rfl (Nat.le_of_ble_eq_true rfl) (by decide) (i_X8 k _) rfl ?_
  rintro _ _ ⟨rfl, rfl⟩
  show Go mX2_init _ _ _ 4 [(0, .ref k)] [] (sk, M, N) _
  exact g_vret dX2_init_4 rfl (⟨rfl, rfl⟩)
set_option maxRecDepth 100000 in
set_option maxHeartbeats 1000000 in
theorem i_X1 (k : Nat) (h : AH) : Run mX1_init 3 0 0 [.ref k] h (fun r h' => h' = h ∧ r = none) := by
  refine Run.of (by decide) (Nat.le_of_ble_eq_true rfl) ?_
  obtain ⟨sk, M, N⟩ := h
  refine g_aload_n (j := 0) (pc' := 1) dX1_init_0 rfl rfl ?_
  refine g_callI (my := mX7_init) (k := k) (st := []) (av := []) (mcr := 0) (msr := 0) (mc := 0) (ms := 0) (pc' := 4) dX1_init_1 kX7_init wX1_1 rfl (Nat.le_of_ble_eq_true rfl) (by decide) (i_X7 k _) rfl ?_
  rintro _ _ ⟨rfl, rfl⟩
  show Go mX1_init _ _ _ 4 [(0, .ref k)] [] (sk, M, N) _
  exact g_vret dX1_init_4 rfl (⟨rfl, rfl⟩)
abbrev parC (p : Nat) : List (Nat × List Value) := [(4, parV p), (100, rep 6), (100, rep 6), (100, rep 6), (100, rep 6), (100, rep 6), (100, rep 6), (100, rep 6)]
abbrev parN : Nat × List Value := (4, [.int 0, .int 0, .int 0, .int 0, .int 0, .null, .null, .null, .null, .null, .null, .null])
set_option maxRecDepth 100000 in
set_option maxHeartbeats 1000000 in
theorem i_X4 {sk0 : List (Nat × List Value)} {p : Nat} (hp0 : sk0.length = p) (hpb : p ≤ 1000) {M : Nat → Nat → Int32} {N : Nat → Nat → Int64} : Run mX4_init 1 7 42 [.ref p] (sk0 ++ [parN], M, N) (fun r h' => ∃ M' N', h' = (sk0 ++ parC p, M', N') ∧ r = none ∧ (M' p 0 = 0 ∧ M' p 1 = 0 ∧ M' p 2 = 6 ∧ M' p 3 = 0 ∧ M' p 4 = 1) ∧ ∀ a, (a < p ∨ p + 8 ≤ a) → M' a = M a) := by
  refine Run.of (by decide) (Nat.le_of_ble_eq_true rfl) ?_
  refine g_aload_n (j := 0) (pc' := 1) dX4_init_0 rfl rfl ?_
  refine g_objinit (pc' := 4) dX4_init_1 wX4_3 (Nat.le_of_ble_eq_true rfl) (by decide) rfl ?_
  refine g_aload_n (j := 0) (pc' := 5) dX4_init_4 rfl rfl ?_
  refine g_iconst (v := 0) (pc' := 6) dX4_init_5 (by decide) rfl ?_
  refine g_putI (pc' := 9) dX4_init_6 fX4_9 (at_app0 (i := 0) hp0 rfl rfl) rfl ⟨rfl, rfl⟩ rfl ?_
  refine g_aload_n (j := 0) (pc' := 10) dX4_init_9 rfl rfl ?_
  refine g_iconst (v := 0) (pc' := 11) dX4_init_10 (by decide) rfl ?_
  refine g_putI (pc' := 14) dX4_init_11 fX4_15 (at_app0 (i := 0) hp0 rfl rfl) rfl ⟨rfl, rfl⟩ rfl ?_
  refine g_aload_n (j := 0) (pc' := 15) dX4_init_14 rfl rfl ?_
  refine g_bipush (v := 6) (pc' := 17) dX4_init_15 (by decide) rfl ?_
  refine g_putI (pc' := 20) dX4_init_17 fX4_18 (at_app0 (i := 0) hp0 rfl rfl) rfl ⟨rfl, rfl⟩ rfl ?_
  refine g_aload_n (j := 0) (pc' := 21) dX4_init_20 rfl rfl ?_
  refine g_iconst (v := 0) (pc' := 22) dX4_init_21 (by decide) rfl ?_
  refine g_putI (pc' := 25) dX4_init_22 fX4_21 (at_app0 (i := 0) hp0 rfl rfl) rfl ⟨rfl, rfl⟩ rfl ?_
  refine g_aload_n (j := 0) (pc' := 26) dX4_init_25 rfl rfl ?_
  refine g_iconst (v := 1) (pc' := 27) dX4_init_26 (by decide) rfl ?_
  refine g_putI (pc' := 30) dX4_init_27 fX4_24 (at_app0 (i := 0) hp0 rfl rfl) rfl ⟨rfl, rfl⟩ rfl ?_
  refine g_aload_n (j := 0) (pc' := 31) dX4_init_30 rfl rfl ?_
  refine g_bipush (v := 6) (pc' := 33) dX4_init_31 (by decide) rfl ?_
  refine x_newaI (mcr := 6) (msr := 36) (n := 6) (q := 1) (pc' := 35) hp0 dX4_init_33 acint rfl (by omega) rfl (by omega) rfl ?_
  refine x_l (l' := [(4, [.int 0, .int 0, .int 0, .int 0, .int 0, .null, .null, .null, .null, .null, .null, .null]), (100, rep 6)]) rfl ?_
  refine x_putFR (i := 0) (l' := [(4, [.int 0, .int 0, .int 0, .int 0, .int 0, .ref (p + 1), .null, .null, .null, .null, .null, .null]), (100, rep 6)]) (pc' := 38) hp0 dX4_init_35 fX4_27 ⟨rfl, rfl⟩ rfl (Nat.le_of_ble_eq_true rfl) (fun _ => ⟨rfl, rfl⟩) rfl rfl rfl ?_
  refine g_aload_n (j := 0) (pc' := 39) dX4_init_38 rfl rfl ?_
  refine g_bipush (v := 6) (pc' := 41) dX4_init_39 (by decide) rfl ?_
  refine x_newaI (mcr := 5) (msr := 30) (n := 6) (q := 2) (pc' := 43) hp0 dX4_init_41 acint rfl (by omega) rfl (by omega) rfl ?_
  refine x_l (l' := [(4, [.int 0, .int 0, .int 0, .int 0, .int 0, .ref (p + 1), .null, .null, .null, .null, .null, .null]), (100, rep 6), (100, rep 6)]) rfl ?_
  refine x_putFR (i := 0) (l' := [(4, [.int 0, .int 0, .int 0, .int 0, .int 0, .ref (p + 1), .ref (p + 2), .null, .null, .null, .null, .null]), (100, rep 6), (100, rep 6)]) (pc' := 46) hp0 dX4_init_43 fX4_31 ⟨rfl, rfl⟩ rfl (Nat.le_of_ble_eq_true rfl) (fun _ => ⟨rfl, rfl⟩) rfl rfl rfl ?_
  refine g_aload_n (j := 0) (pc' := 47) dX4_init_46 rfl rfl ?_
  refine g_bipush (v := 6) (pc' := 49) dX4_init_47 (by decide) rfl ?_
  refine x_newaI (mcr := 4) (msr := 24) (n := 6) (q := 3) (pc' := 51) hp0 dX4_init_49 acint rfl (by omega) rfl (by omega) rfl ?_
  refine x_l (l' := [(4, [.int 0, .int 0, .int 0, .int 0, .int 0, .ref (p + 1), .ref (p + 2), .null, .null, .null, .null, .null]), (100, rep 6), (100, rep 6), (100, rep 6)]) rfl ?_
  refine x_putFR (i := 0) (l' := [(4, [.int 0, .int 0, .int 0, .int 0, .int 0, .ref (p + 1), .ref (p + 2), .ref (p + 3), .null, .null, .null, .null]), (100, rep 6), (100, rep 6), (100, rep 6)]) (pc' := 54) hp0 dX4_init_51 fX4_34 ⟨rfl, rfl⟩ rfl (Nat.le_of_ble_eq_true rfl) (fun _ => ⟨rfl, rfl⟩) rfl rfl rfl ?_
  refine g_aload_n (j := 0) (pc' := 55) dX4_init_54 rfl rfl ?_
  refine g_bipush (v := 6) (pc' := 57) dX4_init_55 (by decide) rfl ?_
  refine x_newaI (mcr := 3) (msr := 18) (n := 6) (q := 4) (pc' := 59) hp0 dX4_init_57 acint rfl (by omega) rfl (by omega) rfl ?_
  refine x_l (l' := [(4, [.int 0, .int 0, .int 0, .int 0, .int 0, .ref (p + 1), .ref (p + 2), .ref (p + 3), .null, .null, .null, .null]), (100, rep 6), (100, rep 6), (100, rep 6), (100, rep 6)]) rfl ?_
  refine x_putFR (i := 0) (l' := [(4, [.int 0, .int 0, .int 0, .int 0, .int 0, .ref (p + 1), .ref (p + 2), .ref (p + 3), .ref (p + 4), .null, .null, .null]), (100, rep 6), (100, rep 6), (100, rep 6), (100, rep 6)]) (pc' := 62) hp0 dX4_init_59 fX4_37 ⟨rfl, rfl⟩ rfl (Nat.le_of_ble_eq_true rfl) (fun _ => ⟨rfl, rfl⟩) rfl rfl rfl ?_
  refine g_aload_n (j := 0) (pc' := 63) dX4_init_62 rfl rfl ?_
  refine g_bipush (v := 6) (pc' := 65) dX4_init_63 (by decide) rfl ?_
  refine x_newaI (mcr := 2) (msr := 12) (n := 6) (q := 5) (pc' := 67) hp0 dX4_init_65 acint rfl (by omega) rfl (by omega) rfl ?_
  refine x_l (l' := [(4, [.int 0, .int 0, .int 0, .int 0, .int 0, .ref (p + 1), .ref (p + 2), .ref (p + 3), .ref (p + 4), .null, .null, .null]), (100, rep 6), (100, rep 6), (100, rep 6), (100, rep 6), (100, rep 6)]) rfl ?_
  refine x_putFR (i := 0) (l' := [(4, [.int 0, .int 0, .int 0, .int 0, .int 0, .ref (p + 1), .ref (p + 2), .ref (p + 3), .ref (p + 4), .ref (p + 5), .null, .null]), (100, rep 6), (100, rep 6), (100, rep 6), (100, rep 6), (100, rep 6)]) (pc' := 70) hp0 dX4_init_67 fX4_40 ⟨rfl, rfl⟩ rfl (Nat.le_of_ble_eq_true rfl) (fun _ => ⟨rfl, rfl⟩) rfl rfl rfl ?_
  refine g_aload_n (j := 0) (pc' := 71) dX4_init_70 rfl rfl ?_
  refine g_bipush (v := 6) (pc' := 73) dX4_init_71 (by decide) rfl ?_
  refine x_newaI (mcr := 1) (msr := 6) (n := 6) (q := 6) (pc' := 75) hp0 dX4_init_73 acint rfl (by omega) rfl (by omega) rfl ?_
  refine x_l (l' := [(4, [.int 0, .int 0, .int 0, .int 0, .int 0, .ref (p + 1), .ref (p + 2), .ref (p + 3), .ref (p + 4), .ref (p + 5), .null, .null]), (100, rep 6), (100, rep 6), (100, rep 6), (100, rep 6), (100, rep 6), (100, rep 6)]) rfl ?_
  refine x_putFR (i := 0) (l' := [(4, [.int 0, .int 0, .int 0, .int 0, .int 0, .ref (p + 1), .ref (p + 2), .ref (p + 3), .ref (p + 4), .ref (p + 5), .ref (p + 6), .null]), (100, rep 6), (100, rep 6), (100, rep 6), (100, rep 6), (100, rep 6), (100, rep 6)]) (pc' := 78) hp0 dX4_init_75 fX4_43 ⟨rfl, rfl⟩ rfl (Nat.le_of_ble_eq_true rfl) (fun _ => ⟨rfl, rfl⟩) rfl rfl rfl ?_
  refine g_aload_n (j := 0) (pc' := 79) dX4_init_78 rfl rfl ?_
  refine g_bipush (v := 6) (pc' := 81) dX4_init_79 (by decide) rfl ?_
  refine x_newaI (mcr := 0) (msr := 0) (n := 6) (q := 7) (pc' := 83) hp0 dX4_init_81 acint rfl (by omega) rfl (by omega) rfl ?_
  refine x_l (l' := [(4, [.int 0, .int 0, .int 0, .int 0, .int 0, .ref (p + 1), .ref (p + 2), .ref (p + 3), .ref (p + 4), .ref (p + 5), .ref (p + 6), .null]), (100, rep 6), (100, rep 6), (100, rep 6), (100, rep 6), (100, rep 6), (100, rep 6), (100, rep 6)]) rfl ?_
  refine x_putFR (i := 0) (l' := [(4, [.int 0, .int 0, .int 0, .int 0, .int 0, .ref (p + 1), .ref (p + 2), .ref (p + 3), .ref (p + 4), .ref (p + 5), .ref (p + 6), .ref (p + 7)]), (100, rep 6), (100, rep 6), (100, rep 6), (100, rep 6), (100, rep 6), (100, rep 6), (100, rep 6)]) (pc' := 86) hp0 dX4_init_83 fX4_46 ⟨rfl, rfl⟩ rfl (Nat.le_of_ble_eq_true rfl) (fun _ => ⟨rfl, rfl⟩) rfl rfl rfl ?_
  exact g_vret dX4_init_86 rfl (⟨_, _, rfl, rfl, ⟨by simp (disch := omega) only [zI_ne, zI_at, um_ne, um_at, um_at2], by simp (disch := omega) only [zI_ne, zI_at, um_ne, um_at, um_at2], by simp (disch := omega) only [zI_ne, zI_at, um_ne, um_at, um_at2], by simp (disch := omega) only [zI_ne, zI_at, um_ne, um_at, um_at2], by simp (disch := omega) only [zI_ne, zI_at, um_ne, um_at, um_at2]⟩, fun a ha => by simp (disch := omega) only [zI_ne, zI_at, um_ne, um_at, um_at2]⟩)
set_option maxRecDepth 100000 in
set_option maxHeartbeats 1000000 in
theorem i_X0 {sk0 : List (Nat × List Value)} {p : Nat} (hp0 : sk0.length = p) (hpb : p ≤ 1000) {M : Nat → Nat → Int32} {N : Nat → Nat → Int64} : Run mX0_init 4 9 23 [.ref p] (sk0 ++ [(0, [.null, .null, .null, .null])], M, N) (fun r h' => ∃ M' N', h' = (sk0 ++ [(0, [.ref (p + 1), .ref (p + 7), .ref (p + 8), .ref (p + 9)]), (104, [.ref (p + 2), .ref (p + 3), .ref (p + 4), .ref (p + 5), .ref (p + 6)]), (6, []), (8, []), (7, []), (2, []), (1, []), (100, rep 6), (100, rep 6), (100, rep 6)], M', N') ∧ r = none ∧ ∀ a, (a < p ∨ p + 10 ≤ a) → M' a = M a) := by
  refine Run.of (by decide) (Nat.le_of_ble_eq_true rfl) ?_
  refine g_aload_n (j := 0) (pc' := 1) dX0_init_0 rfl rfl ?_
  refine g_objinit (pc' := 4) dX0_init_1 wX0_3 (Nat.le_of_ble_eq_true rfl) (by decide) rfl ?_
  refine g_aload_n (j := 0) (pc' := 5) dX0_init_4 rfl rfl ?_
  refine g_iconst (v := 5) (pc' := 6) dX0_init_5 (by decide) rfl ?_
  refine x_newq (tag := 104) (mcr := 8) (msr := 18) (n := 5) (q := 1) (pc' := 9) hp0 dX0_init_6 aX0_9 (fun _ _ _ _ h => h.2.1) ⟨rfl, by decide⟩ rfl (by omega) rfl (by omega) rfl ?_
  refine x_l (l' := [(0, [.null, .null, .null, .null]), (104, [.null, .null, .null, .null, .null])]) rfl ?_
  refine g_dup (pc' := 10) dX0_init_9 rfl rfl ?_
  refine g_iconst (v := 0) (pc' := 11) dX0_init_10 (by decide) rfl ?_
  refine x_new (mm := mX0_init) (ci := 6) (vs := []) (l := [(0, [.null, .null, .null, .null]), (104, [.null, .null, .null, .null, .null])]) (mcr := 7) (msr := 18) (q := 2) (pc' := 14) hp0 dX0_init_11 nX0_9 rfl (by omega) rfl ?_
  refine x_l (l' := [(0, [.null, .null, .null, .null]), (104, [.null, .null, .null, .null, .null]), (6, [])]) rfl ?_
  refine g_dup (pc' := 15) dX0_init_14 rfl rfl ?_
  refine g_callI (my := mX6_init) (k := p + 2) (st := [.ref (p + 2), .int 0, .ref (p + 1), .ref (p + 1), .ref p]) (av := []) (mcr := 7) (msr := 18) (mc := 0) (ms := 0) (pc' := 18) dX0_init_15 kX6_init wX0_11 rfl (Nat.le_of_ble_eq_true rfl) (by decide) (i_X6 _ _) rfl ?_
  rintro _ _ ⟨rfl, rfl⟩
  show Go mX0_init _ 7 18 18 [(0, .ref p)] [.ref (p + 2), .int 0, .ref (p + 1), .ref (p + 1), .ref p] (sk0 ++ [(0, [.null, .null, .null, .null]), (104, [.null, .null, .null, .null, .null]), (6, [])], (zI (zI M (p + 1)) (p + 2)), (zL (zL N (p + 1)) (p + 2))) _
  refine x_aast (i := 1) (i2 := 2) (n := 0) (l' := [(0, [.null, .null, .null, .null]), (104, [.ref (p + 2), .null, .null, .null, .null]), (6, [])]) (pc' := 19) hp0 dX0_init_18 rfl ⟨rfl, by decide⟩ rfl rfl (SubOk.rf _) rfl (Nat.le_of_ble_eq_true rfl) (by simp) rfl rfl rfl rfl ?_
  refine g_dup (pc' := 20) dX0_init_19 rfl rfl ?_
  refine g_iconst (v := 1) (pc' := 21) dX0_init_20 (by decide) rfl ?_
  refine x_new (mm := mX0_init) (ci := 8) (vs := []) (l := [(0, [.null, .null, .null, .null]), (104, [.ref (p + 2), .null, .null, .null, .null]), (6, [])]) (mcr := 6) (msr := 18) (q := 3) (pc' := 24) hp0 dX0_init_21 nX0_12 rfl (by omega) rfl ?_
  refine x_l (l' := [(0, [.null, .null, .null, .null]), (104, [.ref (p + 2), .null, .null, .null, .null]), (6, []), (8, [])]) rfl ?_
  refine g_dup (pc' := 25) dX0_init_24 rfl rfl ?_
  refine g_callI (my := mX8_init) (k := p + 3) (st := [.ref (p + 3), .int 1, .ref (p + 1), .ref (p + 1), .ref p]) (av := []) (mcr := 6) (msr := 18) (mc := 0) (ms := 0) (pc' := 28) dX0_init_25 kX8_init wX0_14 rfl (Nat.le_of_ble_eq_true rfl) (by decide) (i_X8 _ _) rfl ?_
  rintro _ _ ⟨rfl, rfl⟩
  show Go mX0_init _ 6 18 28 [(0, .ref p)] [.ref (p + 3), .int 1, .ref (p + 1), .ref (p + 1), .ref p] (sk0 ++ [(0, [.null, .null, .null, .null]), (104, [.ref (p + 2), .null, .null, .null, .null]), (6, []), (8, [])], (zI (zI (zI M (p + 1)) (p + 2)) (p + 3)), (zL (zL (zL N (p + 1)) (p + 2)) (p + 3))) _
  refine x_aast (i := 1) (i2 := 3) (n := 1) (l' := [(0, [.null, .null, .null, .null]), (104, [.ref (p + 2), .ref (p + 3), .null, .null, .null]), (6, []), (8, [])]) (pc' := 29) hp0 dX0_init_28 rfl ⟨rfl, by decide⟩ rfl rfl cst_Proud rfl (Nat.le_of_ble_eq_true rfl) (by simp) rfl rfl rfl rfl ?_
  refine g_dup (pc' := 30) dX0_init_29 rfl rfl ?_
  refine g_iconst (v := 2) (pc' := 31) dX0_init_30 (by decide) rfl ?_
  refine x_new (mm := mX0_init) (ci := 7) (vs := []) (l := [(0, [.null, .null, .null, .null]), (104, [.ref (p + 2), .ref (p + 3), .null, .null, .null]), (6, []), (8, [])]) (mcr := 5) (msr := 18) (q := 4) (pc' := 34) hp0 dX0_init_31 nX0_15 rfl (by omega) rfl ?_
  refine x_l (l' := [(0, [.null, .null, .null, .null]), (104, [.ref (p + 2), .ref (p + 3), .null, .null, .null]), (6, []), (8, []), (7, [])]) rfl ?_
  refine g_dup (pc' := 35) dX0_init_34 rfl rfl ?_
  refine g_callI (my := mX7_init) (k := p + 4) (st := [.ref (p + 4), .int 2, .ref (p + 1), .ref (p + 1), .ref p]) (av := []) (mcr := 5) (msr := 18) (mc := 0) (ms := 0) (pc' := 38) dX0_init_35 kX7_init wX0_17 rfl (Nat.le_of_ble_eq_true rfl) (by decide) (i_X7 _ _) rfl ?_
  rintro _ _ ⟨rfl, rfl⟩
  show Go mX0_init _ 5 18 38 [(0, .ref p)] [.ref (p + 4), .int 2, .ref (p + 1), .ref (p + 1), .ref p] (sk0 ++ [(0, [.null, .null, .null, .null]), (104, [.ref (p + 2), .ref (p + 3), .null, .null, .null]), (6, []), (8, []), (7, [])], (zI (zI (zI (zI M (p + 1)) (p + 2)) (p + 3)) (p + 4)), (zL (zL (zL (zL N (p + 1)) (p + 2)) (p + 3)) (p + 4))) _
  refine x_aast (i := 1) (i2 := 4) (n := 2) (l' := [(0, [.null, .null, .null, .null]), (104, [.ref (p + 2), .ref (p + 3), .ref (p + 4), .null, .null]), (6, []), (8, []), (7, [])]) (pc' := 39) hp0 dX0_init_38 rfl ⟨rfl, by decide⟩ rfl rfl cst_Poor rfl (Nat.le_of_ble_eq_true rfl) (by simp) rfl rfl rfl rfl ?_
  refine g_dup (pc' := 40) dX0_init_39 rfl rfl ?_
  refine g_iconst (v := 3) (pc' := 41) dX0_init_40 (by decide) rfl ?_
  refine x_new (mm := mX0_init) (ci := 2) (vs := []) (l := [(0, [.null, .null, .null, .null]), (104, [.ref (p + 2), .ref (p + 3), .ref (p + 4), .null, .null]), (6, []), (8, []), (7, [])]) (mcr := 4) (msr := 18) (q := 5) (pc' := 44) hp0 dX0_init_41 nX0_18 rfl (by omega) rfl ?_
  refine x_l (l' := [(0, [.null, .null, .null, .null]), (104, [.ref (p + 2), .ref (p + 3), .ref (p + 4), .null, .null]), (6, []), (8, []), (7, []), (2, [])]) rfl ?_
  refine g_dup (pc' := 45) dX0_init_44 rfl rfl ?_
  refine g_callI (my := mX2_init) (k := p + 5) (st := [.ref (p + 5), .int 3, .ref (p + 1), .ref (p + 1), .ref p]) (av := []) (mcr := 4) (msr := 18) (mc := 0) (ms := 0) (pc' := 48) dX0_init_45 kX2_init wX0_20 rfl (Nat.le_of_ble_eq_true rfl) (by decide) (i_X2 _ _) rfl ?_
  rintro _ _ ⟨rfl, rfl⟩
  show Go mX0_init _ 4 18 48 [(0, .ref p)] [.ref (p + 5), .int 3, .ref (p + 1), .ref (p + 1), .ref p] (sk0 ++ [(0, [.null, .null, .null, .null]), (104, [.ref (p + 2), .ref (p + 3), .ref (p + 4), .null, .null]), (6, []), (8, []), (7, []), (2, [])], (zI (zI (zI (zI (zI M (p + 1)) (p + 2)) (p + 3)) (p + 4)) (p + 5)), (zL (zL (zL (zL (zL N (p + 1)) (p + 2)) (p + 3)) (p + 4)) (p + 5))) _
  refine x_aast (i := 1) (i2 := 5) (n := 3) (l' := [(0, [.null, .null, .null, .null]), (104, [.ref (p + 2), .ref (p + 3), .ref (p + 4), .ref (p + 5), .null]), (6, []), (8, []), (7, []), (2, [])]) (pc' := 49) hp0 dX0_init_48 rfl ⟨rfl, by decide⟩ rfl rfl cst_Heir rfl (Nat.le_of_ble_eq_true rfl) (by simp) rfl rfl rfl rfl ?_
  refine g_dup (pc' := 50) dX0_init_49 rfl rfl ?_
  refine g_iconst (v := 4) (pc' := 51) dX0_init_50 (by decide) rfl ?_
  refine x_new (mm := mX0_init) (ci := 1) (vs := []) (l := [(0, [.null, .null, .null, .null]), (104, [.ref (p + 2), .ref (p + 3), .ref (p + 4), .ref (p + 5), .null]), (6, []), (8, []), (7, []), (2, [])]) (mcr := 3) (msr := 18) (q := 6) (pc' := 54) hp0 dX0_init_51 nX0_21 rfl (by omega) rfl ?_
  refine x_l (l' := [(0, [.null, .null, .null, .null]), (104, [.ref (p + 2), .ref (p + 3), .ref (p + 4), .ref (p + 5), .null]), (6, []), (8, []), (7, []), (2, []), (1, [])]) rfl ?_
  refine g_dup (pc' := 55) dX0_init_54 rfl rfl ?_
  refine g_callI (my := mX1_init) (k := p + 6) (st := [.ref (p + 6), .int 4, .ref (p + 1), .ref (p + 1), .ref p]) (av := []) (mcr := 3) (msr := 18) (mc := 0) (ms := 0) (pc' := 58) dX0_init_55 kX1_init wX0_23 rfl (Nat.le_of_ble_eq_true rfl) (by decide) (i_X1 _ _) rfl ?_
  rintro _ _ ⟨rfl, rfl⟩
  show Go mX0_init _ 3 18 58 [(0, .ref p)] [.ref (p + 6), .int 4, .ref (p + 1), .ref (p + 1), .ref p] (sk0 ++ [(0, [.null, .null, .null, .null]), (104, [.ref (p + 2), .ref (p + 3), .ref (p + 4), .ref (p + 5), .null]), (6, []), (8, []), (7, []), (2, []), (1, [])], (zI (zI (zI (zI (zI (zI M (p + 1)) (p + 2)) (p + 3)) (p + 4)) (p + 5)) (p + 6)), (zL (zL (zL (zL (zL (zL N (p + 1)) (p + 2)) (p + 3)) (p + 4)) (p + 5)) (p + 6))) _
  refine x_aast (i := 1) (i2 := 6) (n := 4) (l' := [(0, [.null, .null, .null, .null]), (104, [.ref (p + 2), .ref (p + 3), .ref (p + 4), .ref (p + 5), .ref (p + 6)]), (6, []), (8, []), (7, []), (2, []), (1, [])]) (pc' := 59) hp0 dX0_init_58 rfl ⟨rfl, by decide⟩ rfl rfl cst_Drinker rfl (Nat.le_of_ble_eq_true rfl) (by simp) rfl rfl rfl rfl ?_
  refine x_putFR (i := 0) (l' := [(0, [.ref (p + 1), .null, .null, .null]), (104, [.ref (p + 2), .ref (p + 3), .ref (p + 4), .ref (p + 5), .ref (p + 6)]), (6, []), (8, []), (7, []), (2, []), (1, [])]) (pc' := 62) hp0 dX0_init_59 fX0_24 ⟨rfl, rfl⟩ rfl (Nat.le_of_ble_eq_true rfl) (fun _ => ⟨rfl, rfl⟩) rfl rfl rfl ?_
  refine g_aload_n (j := 0) (pc' := 63) dX0_init_62 rfl rfl ?_
  refine g_bipush (v := 6) (pc' := 65) dX0_init_63 (by decide) rfl ?_
  refine x_newaI (mcr := 2) (msr := 12) (n := 6) (q := 7) (pc' := 67) hp0 dX0_init_65 acint rfl (by omega) rfl (by omega) rfl ?_
  refine x_l (l' := [(0, [.ref (p + 1), .null, .null, .null]), (104, [.ref (p + 2), .ref (p + 3), .ref (p + 4), .ref (p + 5), .ref (p + 6)]), (6, []), (8, []), (7, []), (2, []), (1, []), (100, rep 6)]) rfl ?_
  refine x_putFR (i := 0) (l' := [(0, [.ref (p + 1), .ref (p + 7), .null, .null]), (104, [.ref (p + 2), .ref (p + 3), .ref (p + 4), .ref (p + 5), .ref (p + 6)]), (6, []), (8, []), (7, []), (2, []), (1, []), (100, rep 6)]) (pc' := 70) hp0 dX0_init_67 fX0_30 ⟨rfl, rfl⟩ rfl (Nat.le_of_ble_eq_true rfl) (fun _ => ⟨rfl, rfl⟩) rfl rfl rfl ?_
  refine g_aload_n (j := 0) (pc' := 71) dX0_init_70 rfl rfl ?_
  refine g_bipush (v := 6) (pc' := 73) dX0_init_71 (by decide) rfl ?_
  refine x_newaI (mcr := 1) (msr := 6) (n := 6) (q := 8) (pc' := 75) hp0 dX0_init_73 acint rfl (by omega) rfl (by omega) rfl ?_
  refine x_l (l' := [(0, [.ref (p + 1), .ref (p + 7), .null, .null]), (104, [.ref (p + 2), .ref (p + 3), .ref (p + 4), .ref (p + 5), .ref (p + 6)]), (6, []), (8, []), (7, []), (2, []), (1, []), (100, rep 6), (100, rep 6)]) rfl ?_
  refine x_putFR (i := 0) (l' := [(0, [.ref (p + 1), .ref (p + 7), .ref (p + 8), .null]), (104, [.ref (p + 2), .ref (p + 3), .ref (p + 4), .ref (p + 5), .ref (p + 6)]), (6, []), (8, []), (7, []), (2, []), (1, []), (100, rep 6), (100, rep 6)]) (pc' := 78) hp0 dX0_init_75 fX0_34 ⟨rfl, rfl⟩ rfl (Nat.le_of_ble_eq_true rfl) (fun _ => ⟨rfl, rfl⟩) rfl rfl rfl ?_
  refine g_aload_n (j := 0) (pc' := 79) dX0_init_78 rfl rfl ?_
  refine g_bipush (v := 6) (pc' := 81) dX0_init_79 (by decide) rfl ?_
  refine x_newaI (mcr := 0) (msr := 0) (n := 6) (q := 9) (pc' := 83) hp0 dX0_init_81 acint rfl (by omega) rfl (by omega) rfl ?_
  refine x_l (l' := [(0, [.ref (p + 1), .ref (p + 7), .ref (p + 8), .null]), (104, [.ref (p + 2), .ref (p + 3), .ref (p + 4), .ref (p + 5), .ref (p + 6)]), (6, []), (8, []), (7, []), (2, []), (1, []), (100, rep 6), (100, rep 6), (100, rep 6)]) rfl ?_
  refine x_putFR (i := 0) (l' := [(0, [.ref (p + 1), .ref (p + 7), .ref (p + 8), .ref (p + 9)]), (104, [.ref (p + 2), .ref (p + 3), .ref (p + 4), .ref (p + 5), .ref (p + 6)]), (6, []), (8, []), (7, []), (2, []), (1, []), (100, rep 6), (100, rep 6), (100, rep 6)]) (pc' := 86) hp0 dX0_init_83 fX0_37 ⟨rfl, rfl⟩ rfl (Nat.le_of_ble_eq_true rfl) (fun _ => ⟨rfl, rfl⟩) rfl rfl rfl ?_
  exact g_vret dX0_init_86 rfl (⟨_, _, rfl, rfl, fun a ha => by simp (disch := omega) only [zI_ne, zI_at, um_ne, um_at, um_at2]⟩)
set_option maxRecDepth 100000 in
set_option maxHeartbeats 1000000 in
theorem i_X3 {sk0 : List (Nat × List Value)} {p : Nat} (hp0 : sk0.length = p) (hpb : p ≤ 1000) {M : Nat → Nat → Int32} {N : Nat → Nat → Int64} (c : Nat) : Run mX3_init 1 2 36 [.ref p, .ref c] (sk0 ++ [(3, [.null, .null, .null, .int 0])], M, N) (fun r h' => ∃ M' N', h' = (sk0 ++ [(3, [.ref c, .ref (p + 1), .ref (p + 2), .int 0]), (100, rep 18), (100, rep 18)], M', N') ∧ r = none ∧ ∀ a, (a < p ∨ p + 3 ≤ a) → M' a = M a) := by
  refine Run.of (by decide) (Nat.le_of_ble_eq_true rfl) ?_
  refine g_aload_n (j := 0) (pc' := 1) dX3_init_0 rfl rfl ?_
  refine g_objinit (pc' := 4) dX3_init_1 wX3_3 (Nat.le_of_ble_eq_true rfl) (by decide) rfl ?_
  refine g_aload_n (j := 0) (pc' := 5) dX3_init_4 rfl rfl ?_
  refine g_bipush (v := 18) (pc' := 7) dX3_init_5 (by decide) rfl ?_
  refine x_newaI (mcr := 1) (msr := 18) (n := 18) (q := 1) (pc' := 9) hp0 dX3_init_7 acint rfl (by omega) rfl (by omega) rfl ?_
  refine x_l (l' := [(3, [.null, .null, .null, .int 0]), (100, rep 18)]) rfl ?_
  refine x_putFR (i := 0) (l' := [(3, [.null, .ref (p + 1), .null, .int 0]), (100, rep 18)]) (pc' := 12) hp0 dX3_init_9 fX3_11 ⟨rfl, rfl⟩ rfl (Nat.le_of_ble_eq_true rfl) (fun _ => ⟨rfl, rfl⟩) rfl rfl rfl ?_
  refine g_aload_n (j := 0) (pc' := 13) dX3_init_12 rfl rfl ?_
  refine g_bipush (v := 18) (pc' := 15) dX3_init_13 (by decide) rfl ?_
  refine x_newaI (mcr := 0) (msr := 0) (n := 18) (q := 2) (pc' := 17) hp0 dX3_init_15 acint rfl (by omega) rfl (by omega) rfl ?_
  refine x_l (l' := [(3, [.null, .ref (p + 1), .null, .int 0]), (100, rep 18), (100, rep 18)]) rfl ?_
  refine x_putFR (i := 0) (l' := [(3, [.null, .ref (p + 1), .ref (p + 2), .int 0]), (100, rep 18), (100, rep 18)]) (pc' := 20) hp0 dX3_init_17 fX3_15 ⟨rfl, rfl⟩ rfl (Nat.le_of_ble_eq_true rfl) (fun _ => ⟨rfl, rfl⟩) rfl rfl rfl ?_
  refine g_aload_n (j := 0) (pc' := 21) dX3_init_20 rfl rfl ?_
  refine g_iconst (v := 0) (pc' := 22) dX3_init_21 (by decide) rfl ?_
  refine g_putI (pc' := 25) dX3_init_22 fX3_18 (at_app0 (i := 0) hp0 rfl rfl) rfl ⟨rfl, rfl⟩ rfl ?_
  refine g_aload_n (j := 0) (pc' := 26) dX3_init_25 rfl rfl ?_
  refine g_aload_n (j := 1) (pc' := 27) dX3_init_26 rfl rfl ?_
  refine x_putFR (i := 0) (l' := [(3, [.ref c, .ref (p + 1), .ref (p + 2), .int 0]), (100, rep 18), (100, rep 18)]) (pc' := 30) hp0 dX3_init_27 fX3_22 ⟨rfl, rfl⟩ rfl (Nat.le_of_ble_eq_true rfl) (fun _ => ⟨rfl, rfl⟩) rfl rfl rfl ?_
  exact g_vret dX3_init_30 rfl (⟨_, _, rfl, rfl, fun a ha => by simp (disch := omega) only [zI_ne, zI_at, um_ne, um_at, um_at2]⟩)
set_option maxRecDepth 100000 in
set_option maxHeartbeats 1000000 in
theorem i_X9 {sk0 : List (Nat × List Value)} {p : Nat} (hp0 : sk0.length = p) (hpb : p ≤ 1000) {M : Nat → Nat → Int32} {N : Nat → Nat → Int64} : Run mX9_init 1 1 24 [.ref p] (sk0 ++ [(9, [.int 0, .int 0, .int 0, .null])], M, N) (fun r h' => ∃ M' N', h' = (sk0 ++ [(9, [.int 0, .int 0, .int 0, .ref (p + 1)]), (101, rep 24)], M', N') ∧ r = none ∧ M' p 0 = 1 ∧ ∀ a, (a < p ∨ p + 2 ≤ a) → M' a = M a) := by
  refine Run.of (by decide) (Nat.le_of_ble_eq_true rfl) ?_
  refine g_aload_n (j := 0) (pc' := 1) dX9_init_0 rfl rfl ?_
  refine g_objinit (pc' := 4) dX9_init_1 wX9_3 (Nat.le_of_ble_eq_true rfl) (by decide) rfl ?_
  refine g_aload_n (j := 0) (pc' := 5) dX9_init_4 rfl rfl ?_
  refine g_iconst (v := 1) (pc' := 6) dX9_init_5 (by decide) rfl ?_
  refine g_putI (pc' := 9) dX9_init_6 fX9_9 (at_app0 (i := 0) hp0 rfl rfl) rfl ⟨by decide, by decide⟩ rfl ?_
  refine g_aload_n (j := 0) (pc' := 10) dX9_init_9 rfl rfl ?_
  refine g_iconst (v := 0) (pc' := 11) dX9_init_10 (by decide) rfl ?_
  refine g_putI (pc' := 14) dX9_init_11 fX9_15 (at_app0 (i := 0) hp0 rfl rfl) rfl ⟨rfl, rfl⟩ rfl ?_
  refine g_aload_n (j := 0) (pc' := 15) dX9_init_14 rfl rfl ?_
  refine g_iconst (v := 0) (pc' := 16) dX9_init_15 (by decide) rfl ?_
  refine g_putI (pc' := 19) dX9_init_16 fX9_19 (at_app0 (i := 0) hp0 rfl rfl) rfl ⟨rfl, rfl⟩ rfl ?_
  refine g_aload_n (j := 0) (pc' := 20) dX9_init_19 rfl rfl ?_
  refine g_bipush (v := 24) (pc' := 22) dX9_init_20 (by decide) rfl ?_
  refine x_newaL (mcr := 0) (msr := 0) (n := 24) (q := 1) (pc' := 24) hp0 dX9_init_22 aclong rfl (by omega) rfl (by omega) rfl ?_
  refine x_l (l' := [(9, [.int 0, .int 0, .int 0, .null]), (101, rep 24)]) rfl ?_
  refine x_putFR (i := 0) (l' := [(9, [.int 0, .int 0, .int 0, .ref (p + 1)]), (101, rep 24)]) (pc' := 27) hp0 dX9_init_24 fX9_22 ⟨rfl, rfl⟩ rfl (Nat.le_of_ble_eq_true rfl) (fun _ => ⟨rfl, rfl⟩) rfl rfl rfl ?_
  exact g_vret dX9_init_27 rfl (⟨_, _, rfl, rfl, by simp (disch := omega) only [zI_ne, zI_at, um_ne, um_at, um_at2], fun a ha => by simp (disch := omega) only [zI_ne, zI_at, um_ne, um_at, um_at2]⟩)
set_option maxRecDepth 100000 in
set_option maxHeartbeats 1000000 in
theorem i_X10 {sk0 : List (Nat × List Value)} {p : Nat} (hp0 : sk0.length = p) (hpb : p ≤ 1000) {M : Nat → Nat → Int32} {N : Nat → Nat → Int64} : Run mX10_init 1 1 80 [.ref p] (sk0 ++ [(10, [.null, .int 0, .int 0])], M, N) (fun r h' => ∃ M' N', h' = (sk0 ++ [(10, [.ref (p + 1), .int 0, .int 0]), (102, rep 80)], M', N') ∧ r = none ∧ M' p 1 = 0 ∧ ∀ a, (a < p ∨ p + 2 ≤ a) → M' a = M a) := by
  refine Run.of (by decide) (Nat.le_of_ble_eq_true rfl) ?_
  refine g_aload_n (j := 0) (pc' := 1) dX10_init_0 rfl rfl ?_
  refine g_objinit (pc' := 4) dX10_init_1 wX10_3 (Nat.le_of_ble_eq_true rfl) (by decide) rfl ?_
  refine g_aload_n (j := 0) (pc' := 5) dX10_init_4 rfl rfl ?_
  refine g_bipush (v := 80) (pc' := 7) dX10_init_5 (by decide) rfl ?_
  refine x_newaC (mcr := 0) (msr := 0) (n := 80) (q := 1) (pc' := 9) hp0 dX10_init_7 acchar rfl (by omega) rfl (by omega) rfl ?_
  refine x_l (l' := [(10, [.null, .int 0, .int 0]), (102, rep 80)]) rfl ?_
  refine x_putFR (i := 0) (l' := [(10, [.ref (p + 1), .int 0, .int 0]), (102, rep 80)]) (pc' := 12) hp0 dX10_init_9 fX10_11 ⟨rfl, rfl⟩ rfl (Nat.le_of_ble_eq_true rfl) (fun _ => ⟨rfl, rfl⟩) rfl rfl rfl ?_
  refine g_aload_n (j := 0) (pc' := 13) dX10_init_12 rfl rfl ?_
  refine g_iconst (v := 0) (pc' := 14) dX10_init_13 (by decide) rfl ?_
  refine g_putI (pc' := 17) dX10_init_14 fX10_15 (at_app0 (i := 0) hp0 rfl rfl) rfl ⟨rfl, rfl⟩ rfl ?_
  refine g_aload_n (j := 0) (pc' := 18) dX10_init_17 rfl rfl ?_
  refine g_iconst (v := 0) (pc' := 19) dX10_init_18 (by decide) rfl ?_
  refine g_putI (pc' := 22) dX10_init_19 fX10_19 (at_app0 (i := 0) hp0 rfl rfl) rfl ⟨rfl, rfl⟩ rfl ?_
  exact g_vret dX10_init_22 rfl (⟨_, _, rfl, rfl, by simp (disch := omega) only [zI_ne, zI_at, um_ne, um_at, um_at2], fun a ha => by simp (disch := omega) only [zI_ne, zI_at, um_ne, um_at, um_at2]⟩)
