/-! ===== luck: the class. An event (m, l): man m may plough here, l of his furrows are left, this one among them ===== -/
def oth : List (Nat × Nat) → Nat → Nat → Nat
  | [], _, acc => acc
  | e :: E, S, acc => if S.testBit e.1 then oth E S acc else oth E (S ||| 2 ^ e.1) (acc * e.2)
def prn (nm : Option Nat) (g : Int32) : Bool := match nm with
  | none => false
  | some i => decide (¬ (g >>> (nI i &&& 31)) &&& 1 = 0)
def wF (P : Nat → Int32) (k man : Nat) (nm : Option Nat) : List (Nat × Nat) → Nat → Int32 → Nat
  | [], _, _ => 0
  | e :: E, S, g => if prn nm g then 0 else if S.testBit e.1 then wF P k man nm E S g else
    (if e.1 = man then (if wishP P e.1 g k = nm then oth E (S ||| 2 ^ e.1) 1 else 0) else wF P k man nm E (S ||| 2 ^ e.1) (addS g (wishP P e.1 g k))) + (if e.2 = 1 then 0 else wF P k man nm E S g)
/-- the class's Luck holds the events -/
def EvC (M : Nat → Nat → Int32) (n : Nat) (E : List (Nat × Nat)) : Prop := M 11 3 = nI E.length ∧ E.length ≤ 18 ∧ ∀ i m l, E[i]? = some (m, l) → M 12 i = nI m ∧ M 13 i = nI l ∧ m < n ∧ 1 ≤ l ∧ l ≤ 3
theorem or64 {S m : Nat} (h : S < 64) (hm : m < 6) : S ||| 2 ^ m < 64 := or_lt (k := 6) h hm
theorem tb_true {S m : Nat} (hS : S < 64) (hm : m < 6) (h : ¬ (nI S >>> (nI m &&& 31)) &&& 1 = 0) : S.testBit m = true := by
  cases hb : S.testBit m with
  | true => rfl
  | false => exact absurd ((bitN hS hm).mpr hb) h
set_option maxRecDepth 100000 in
set_option maxHeartbeats 1000000 in
theorem s_others {M : Nat → Nat → Int32} {N : Nat → Nat → Int64} {n : Nat} {E : List (Nat × Nat)} (hn : n ≤ 6) (hEv : EvC M n E) {k S : Nat} (hk : k ≤ E.length) (hS : S < 64) : Run mX3_waysOfOthers 0 0 0 [.ref 11, .int (nI k), .int (nI S)] (SK, M, N) (fun r h' => h' = (SK, M, N) ∧ r = some (.int (nI (oth (E.drop k) S 1)))) := by
  refine Run.of (by decide) (Nat.le_of_ble_eq_true rfl) ?_
  obtain ⟨hF, hF18, hE⟩ := hEv
  refine g_iconst (v := 1) (pc' := 1) dX3_waysOfOthers_0 (by decide) rfl ?_
  refine g_istore_n (L' := [(0, .ref 11), (1, .int (nI k)), (2, .int (nI S)), (3, .int 1)]) (pc' := 2) dX3_waysOfOthers_1 (by decide) rfl rfl ?_
  refine g_iload_n (j := 2) (pc' := 3) dX3_waysOfOthers_2 rfl rfl ?_
  refine g_istore (L' := [(0, .ref 11), (1, .int (nI k)), (2, .int (nI S)), (3, .int 1), (4, .int (nI S))]) (pc' := 5) dX3_waysOfOthers_3 (by decide) rfl rfl ?_
  refine g_iload_n (j := 1) (pc' := 6) dX3_waysOfOthers_5 rfl rfl ?_
  refine g_istore (L' := [(0, .ref 11), (1, .int (nI k)), (2, .int (nI S)), (3, .int 1), (4, .int (nI S)), (5, .int (nI k))]) (pc' := 8) dX3_waysOfOthers_6 (by decide) rfl rfl ?_
  have loop : ∀ (j i acc T : Nat), i + j = E.length → T < 64 → Go mX3_waysOfOthers 0 0 0 8 [(0, .ref 11), (1, .int (nI k)), (2, .int (nI S)), (3, .int (nI acc)), (4, .int (nI T)), (5, .int (nI i))] [] (SK, M, N) (fun r h' => h' = (SK, M, N) ∧ r = some (.int (nI (oth (E.drop i) T acc)))) := by
    intro j
    induction j with
    | zero =>
      intro i acc T hij hT
      refine g_iload (j := 5) (pc' := 10) dX3_waysOfOthers_8 rfl rfl ?_
      refine g_aload_n (j := 0) (pc' := 11) dX3_waysOfOthers_10 rfl rfl ?_
      refine g_getI (pc' := 14) dX3_waysOfOthers_11 fX3_18 rfl rfl rfl ?_
      refine g_top (y := nI E.length) (hF) ?_
      refine g_icmp_ge (tgt := 62) (pc' := 17) dX3_waysOfOthers_14 (by decide) rfl (fun hc => ?_) (fun hc => (absurd (nI_le (a := E.length) (b := i) (by omega) (by omega)) hc))
      rw [show E.drop i = [] from List.drop_eq_nil_of_le (by omega)]
      refine g_iload_n (j := 3) (pc' := 63) dX3_waysOfOthers_62 rfl rfl ?_
      exact g_iret dX3_waysOfOthers_63 rfl rfl (⟨rfl, rfl⟩)
    | succ j ih =>
      intro i acc T hij hT
      refine g_iload (j := 5) (pc' := 10) dX3_waysOfOthers_8 rfl rfl ?_
      refine g_aload_n (j := 0) (pc' := 11) dX3_waysOfOthers_10 rfl rfl ?_
      refine g_getI (pc' := 14) dX3_waysOfOthers_11 fX3_18 rfl rfl rfl ?_
      refine g_top (y := nI E.length) (hF) ?_
      refine g_icmp_ge (tgt := 62) (pc' := 17) dX3_waysOfOthers_14 (by decide) rfl (fun hc => (absurd hc (nI_ge (a := i) (b := E.length) (by omega) (by omega)))) (fun hc => ?_)
      obtain ⟨⟨m, l⟩, he⟩ : ∃ e, E[i]? = some e := ⟨_, List.getElem?_eq_getElem (show i < E.length by omega)⟩
      obtain ⟨hw, hlf, hmn, hl1, hl3⟩ := hE i m l he
      have hdr : E.drop i = (m, l) :: E.drop (i + 1) := by rw [List.drop_eq_getElem_cons (show i < E.length by omega)]; congr 1; rw [List.getElem?_eq_getElem (show i < E.length by omega)] at he; exact Option.some.inj he
      rw [hdr]
      unfold oth
      refine g_iload (j := 4) (pc' := 19) dX3_waysOfOthers_17 rfl rfl ?_
      refine g_aload_n (j := 0) (pc' := 20) dX3_waysOfOthers_19 rfl rfl ?_
      refine g_getR (pc' := 23) dX3_waysOfOthers_20 fX3_11 rfl rfl rfl ?_
      refine g_iload (j := 5) (pc' := 25) dX3_waysOfOthers_23 rfl rfl ?_
      refine g_iald (n := i) (pc' := 26) dX3_waysOfOthers_25 rfl rfl (by omega) rfl ?_
      refine g_top (y := nI m) (hw) ?_
      refine g_ishr (pc' := 27) dX3_waysOfOthers_26 rfl ?_
      refine g_iconst (v := 1) (pc' := 28) dX3_waysOfOthers_27 (by decide) rfl ?_
      refine g_iand (pc' := 29) dX3_waysOfOthers_28 rfl ?_
      refine g_if_ne (tgt := 56) (pc' := 32) dX3_waysOfOthers_29 (by decide) rfl (fun hc6 => ?_) (fun hc6 => ?_)
      · rw [if_pos (tb_true hT (by omega) hc6)]
        refine g_iinc (j := 5) (v := nI (i + 1)) (L' := [(0, .ref 11), (1, .int (nI k)), (2, .int (nI S)), (3, .int (nI acc)), (4, .int (nI T)), (5, .int (nI (i + 1)))]) (pc' := 59) dX3_waysOfOthers_56 rfl (nI_1 i) (by decide) rfl rfl ?_
        refine g_goto (tgt := 8) dX3_waysOfOthers_59 (by decide) ?_
        exact ih (i + 1) acc T (by omega) hT
      · rw [if_neg (by rw [(bitN hT (show m < 6 by omega)).mp hc6]; decide)]
        refine g_iload (j := 4) (pc' := 34) dX3_waysOfOthers_32 rfl rfl ?_
        refine g_iconst (v := 1) (pc' := 35) dX3_waysOfOthers_34 (by decide) rfl ?_
        refine g_aload_n (j := 0) (pc' := 36) dX3_waysOfOthers_35 rfl rfl ?_
        refine g_getR (pc' := 39) dX3_waysOfOthers_36 fX3_11 rfl rfl rfl ?_
        refine g_iload (j := 5) (pc' := 41) dX3_waysOfOthers_39 rfl rfl ?_
        refine g_iald (n := i) (pc' := 42) dX3_waysOfOthers_41 rfl rfl (by omega) rfl ?_
        refine g_top (y := nI m) (hw) ?_
        refine g_ishl (pc' := 43) dX3_waysOfOthers_42 rfl ?_
        refine g_ior (pc' := 44) dX3_waysOfOthers_43 rfl ?_
        refine g_top (y := nI (T ||| 2 ^ m)) (orbN hT (by omega)) ?_
        refine g_istore (L' := [(0, .ref 11), (1, .int (nI k)), (2, .int (nI S)), (3, .int (nI acc)), (4, .int (nI (T ||| 2 ^ m))), (5, .int (nI i))]) (pc' := 46) dX3_waysOfOthers_44 (by decide) rfl rfl ?_
        refine g_iload_n (j := 3) (pc' := 47) dX3_waysOfOthers_46 rfl rfl ?_
        refine g_aload_n (j := 0) (pc' := 48) dX3_waysOfOthers_47 rfl rfl ?_
        refine g_getR (pc' := 51) dX3_waysOfOthers_48 fX3_15 rfl rfl rfl ?_
        refine g_iload (j := 5) (pc' := 53) dX3_waysOfOthers_51 rfl rfl ?_
        refine g_iald (n := i) (pc' := 54) dX3_waysOfOthers_53 rfl rfl (by omega) rfl ?_
        refine g_top (y := nI l) (hlf) ?_
        refine g_imul (pc' := 55) dX3_waysOfOthers_54 rfl ?_
        refine g_top (y := nI (acc * l)) (pk_mul acc l) ?_
        refine g_istore_n (L' := [(0, .ref 11), (1, .int (nI k)), (2, .int (nI S)), (3, .int (nI (acc * l))), (4, .int (nI (T ||| 2 ^ m))), (5, .int (nI i))]) (pc' := 56) dX3_waysOfOthers_55 (by decide) rfl rfl ?_
        refine g_iinc (j := 5) (v := nI (i + 1)) (L' := [(0, .ref 11), (1, .int (nI k)), (2, .int (nI S)), (3, .int (nI (acc * l))), (4, .int (nI (T ||| 2 ^ m))), (5, .int (nI (i + 1)))]) (pc' := 59) dX3_waysOfOthers_56 rfl (nI_1 i) (by decide) rfl rfl ?_
        refine g_goto (tgt := 8) dX3_waysOfOthers_59 (by decide) ?_
        exact ih (i + 1) (acc * l) (T ||| 2 ^ m) (by omega) (or64 hT (by omega))
  exact loop (E.length - k) k 1 S (by omega) hS
