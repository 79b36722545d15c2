/-! ===== luck: the class. An event (m, l): man m may plough here, l of his furrows are left, this one among them ===== -/
def oth : List (Nat × Nat) → Nat → Nat → Nat
  | [], _, acc => acc
  | e :: E, S, acc => if S.testBit e.1 then oth E S acc else oth E (S ||| 2 ^ e.1) (acc * e.2)
def prn (nm : Option Nat) (g : Int32) : Bool := match nm with
  | none => false
  | some i => decide (¬ (g >>> (nI i &&& 31)) &&& 1 = 0)
def wF (P : Nat → Int32) (k man : Nat) (nm : Option Nat) : List (Nat × Nat) → Nat → Int32 → Nat
  | [], _, _ => 0
  | e :: E, S, g => if prn nm g then 0 else if S.testBit e.1 then wF P k man nm E S g else
    (if e.1 = man then (if wishP P e.1 g k = nm then oth E (S ||| 2 ^ e.1) 1 else 0) else wF P k man nm E (S ||| 2 ^ e.1) (addS g (wishP P e.1 g k))) + (if e.2 = 1 then 0 else wF P k man nm E S g)
/-- the class's Luck holds the events -/
def EvC (M : Nat → Nat → Int32) (n : Nat) (E : List (Nat × Nat)) : Prop := M 11 3 = nI E.length ∧ E.length ≤ 18 ∧ ∀ i m l, E[i]? = some (m, l) → M 12 i = nI m ∧ M 13 i = nI l ∧ m < n ∧ 1 ≤ l ∧ l ≤ 3
theorem or64 {S m : Nat} (h : S < 64) (hm : m < 6) : S ||| 2 ^ m < 64 := or_lt (k := 6) h hm
theorem tb_true {S m : Nat} (hS : S < 64) (hm : m < 6) (h : ¬ (nI S >>> (nI m &&& 31)) &&& 1 = 0) : S.testBit m = true := by
  cases hb : S.testBit m with
  | true => rfl
  | false => exact absurd ((bitN hS hm).mpr hb) h
set_option maxRecDepth 100000 in
set_option maxHeartbeats 1000000 in
theorem s_others {M : Nat → Nat → Int32} {N : Nat → Nat → Int64} {n : Nat} {E : List (Nat × Nat)} (hn : n ≤ 6) (hEv : EvC M n E) {k S : Nat} (hk : k ≤ E.length) (hS : S < 64) : Run mX3_waysOfOthers 0 0 0 [.ref 11, .int (nI k), .int (nI S)] (SK, M, N) (fun r h' => h' = (SK, M, N) ∧ r = some (.int (nI (oth (E.drop k) S 1)))) := by
  refine Run.of (by decide) (Nat.le_of_ble_eq_true rfl) ?_
  obtain ⟨hF, hF18, hE⟩ := hEv
  refine g_iconst (v := 1) (pc' := 1) dX3_waysOfOthers_0 (by decide) rfl ?_
  refine g_istore_n (L' := [(0, .ref 11), (1, .int (nI k)), (2, .int (nI S)), (3, .int 1)]) (pc' := 2) dX3_waysOfOthers_1 (by decide) rfl rfl ?_
  refine g_iload_n (j := 2) (pc' := 3) dX3_waysOfOthers_2 rfl rfl ?_
  refine g_istore (L' := [(0, .ref 11), (1, .int (nI k)), (2, .int (nI S)), (3, .int 1), (4, .int (nI S))]) (pc' := 5) dX3_waysOfOthers_3 (by decide) rfl rfl ?_
  refine g_iload_n (j := 1) (pc' := 6) dX3_waysOfOthers_5 rfl rfl ?_
  refine g_istore (L' := [(0, .ref 11), (1, .int (nI k)), (2, .int (nI S)), (3, .int 1), (4, .int (nI S)), (5, .int (nI k))]) (pc' := 8) dX3_waysOfOthers_6 (by decide) rfl rfl ?_
  have loop : ∀ (j i acc T : Nat), i + j = E.length → T < 64 → Go mX3_waysOfOthers 0 0 0 8 [(0, .ref 11), (1, .int (nI k)), (2, .int (nI S)), (3, .int (nI acc)), (4, .int (nI T)), (5, .int (nI i))] [] (SK, M, N) (fun r h' => h' = (SK, M, N) ∧ r = some (.int (nI (oth (E.drop i) T acc)))) := by
    intro j
    induction j with
    | zero =>
      intro i acc T hij hT
      refine g_iload (j := 5) (pc' := 10) dX3_waysOfOthers_8 rfl rfl ?_
      refine g_aload_n (j := 0) (pc' := 11) dX3_waysOfOthers_10 rfl rfl ?_
      refine g_getI (pc' := 14) dX3_waysOfOthers_11 fX3_18 rfl rfl rfl ?_
      refine g_top (y := nI E.length) (hF) ?_
      refine g_icmp_ge (tgt := 62) (pc' := 17) dX3_waysOfOthers_14 (by decide) rfl (fun hc => ?_) (fun hc => (absurd (nI_le (a := E.length) (b := i) (by omega) (by omega)) hc))
      rw [show E.drop i = [] from List.drop_eq_nil_of_le (by omega)]
      refine g_iload_n (j := 3) (pc' := 63) dX3_waysOfOthers_62 rfl rfl ?_
      exact g_iret dX3_waysOfOthers_63 rfl rfl (⟨rfl, rfl⟩)
    | succ j ih =>
      intro i acc T hij hT
      refine g_iload (j := 5) (pc' := 10) dX3_waysOfOthers_8 rfl rfl ?_
      refine g_aload_n (j := 0) (pc' := 11) dX3_waysOfOthers_10 rfl rfl ?_
      refine g_getI (pc' := 14) dX3_waysOfOthers_11 fX3_18 rfl rfl rfl ?_
      refine g_top (y := nI E.length) (hF) ?_
      refine g_icmp_ge (tgt := 62) (pc' := 17) dX3_waysOfOthers_14 (by decide) rfl (fun hc => (absurd hc (nI_ge (a := i) (b := E.length) (by omega) (by omega)))) (fun hc => ?_)
      obtain ⟨⟨m, l⟩, he⟩ : ∃ e, E[i]? = some e := ⟨_, List.getElem?_eq_getElem (show i < E.length by omega)⟩
      obtain ⟨hw, hlf, hmn, hl1, hl3⟩ := hE i m l he
      have hdr : E.drop i = (m, l) :: E.drop (i + 1) := by rw [List.drop_eq_getElem_cons (show i < E.length by omega)]; congr 1; rw [List.getElem?_eq_getElem (show i < E.length by omega)] at he; exact Option.some.inj he
      rw [hdr]
      unfold oth
      refine g_iload (j := 4) (pc' := 19) dX3_waysOfOthers_17 rfl rfl ?_
      refine g_aload_n (j := 0) (pc' := 20) dX3_waysOfOthers_19 rfl rfl ?_
      refine g_getR (pc' := 23) dX3_waysOfOthers_20 fX3_11 rfl rfl rfl ?_
      refine g_iload (j := 5) (pc' := 25) dX3_waysOfOthers_23 rfl rfl ?_
      refine g_iald (n := i) (pc' := 26) dX3_waysOfOthers_25 rfl rfl (by omega) rfl ?_
      refine g_top (y := nI m) (hw) ?_
      refine g_ishr (pc' := 27) dX3_waysOfOthers_26 rfl ?_
      refine g_iconst (v := 1) (pc' := 28) dX3_waysOfOthers_27 (by decide) rfl ?_
      refine g_iand (pc' := 29) dX3_waysOfOthers_28 rfl ?_
      refine g_if_ne (tgt := 56) (pc' := 32) dX3_waysOfOthers_29 (by decide) rfl (fun hc6 => ?_) (fun hc6 => ?_)
      · rw [if_pos (tb_true hT (by omega) hc6)]
        refine g_iinc (j := 5) (v := nI (i + 1)) (L' := [(0, .ref 11), (1, .int (nI k)), (2, .int (nI S)), (3, .int (nI acc)), (4, .int (nI T)), (5, .int (nI (i + 1)))]) (pc' := 59) dX3_waysOfOthers_56 rfl (nI_1 i) (by decide) rfl rfl ?_
        refine g_goto (tgt := 8) dX3_waysOfOthers_59 (by decide) ?_
        exact ih (i + 1) acc T (by omega) hT
      · rw [if_neg (by rw [(bitN hT (show m < 6 by omega)).mp hc6]; decide)]
        refine g_iload (j := 4) (pc' := 34) dX3_waysOfOthers_32 rfl rfl ?_
        refine g_iconst (v := 1) (pc' := 35) dX3_waysOfOthers_34 (by decide) rfl ?_
        refine g_aload_n (j := 0) (pc' := 36) dX3_waysOfOthers_35 rfl rfl ?_
        refine g_getR (pc' := 39) dX3_waysOfOthers_36 fX3_11 rfl rfl rfl ?_
        refine g_iload (j := 5) (pc' := 41) dX3_waysOfOthers_39 rfl rfl ?_
        refine g_iald (n := i) (pc' := 42) dX3_waysOfOthers_41 rfl rfl (by omega) rfl ?_
        refine g_top (y := nI m) (hw) ?_
        refine g_ishl (pc' := 43) dX3_waysOfOthers_42 rfl ?_
        refine g_ior (pc' := 44) dX3_waysOfOthers_43 rfl ?_
        refine g_top (y := nI (T ||| 2 ^ m)) (orbN hT (by omega)) ?_
        refine g_istore (L' := [(0, .ref 11), (1, .int (nI k)), (2, .int (nI S)), (3, .int (nI acc)), (4, .int (nI (T ||| 2 ^ m))), (5, .int (nI i))]) (pc' := 46) dX3_waysOfOthers_44 (by decide) rfl rfl ?_
        refine g_iload_n (j := 3) (pc' := 47) dX3_waysOfOthers_46 rfl rfl ?_
        refine g_aload_n (j := 0) (pc' := 48) dX3_waysOfOthers_47 rfl rfl ?_
        refine g_getR (pc' := 51) dX3_waysOfOthers_48 fX3_15 rfl rfl rfl ?_
        refine g_iload (j := 5) (pc' := 53) dX3_waysOfOthers_51 rfl rfl ?_
        refine g_iald (n := i) (pc' := 54) dX3_waysOfOthers_53 rfl rfl (by omega) rfl ?_
        refine g_top (y := nI l) (hlf) ?_
        refine g_imul (pc' := 55) dX3_waysOfOthers_54 rfl ?_
        refine g_top (y := nI (acc * l)) (pk_mul acc l) ?_
        refine g_istore_n (L' := [(0, .ref 11), (1, .int (nI k)), (2, .int (nI S)), (3, .int (nI (acc * l))), (4, .int (nI (T ||| 2 ^ m))), (5, .int (nI i))]) (pc' := 56) dX3_waysOfOthers_55 (by decide) rfl rfl ?_
        refine g_iinc (j := 5) (v := nI (i + 1)) (L' := [(0, .ref 11), (1, .int (nI k)), (2, .int (nI S)), (3, .int (nI (acc * l))), (4, .int (nI (T ||| 2 ^ m))), (5, .int (nI (i + 1)))]) (pc' := 59) dX3_waysOfOthers_56 rfl (nI_1 i) (by decide) rfl rfl ?_
        refine g_goto (tgt := 8) dX3_waysOfOthers_59 (by decide) ?_
        exact ih (i + 1) (acc * l) (T ||| 2 ^ m) (by omega) (or64 hT (by omega))
  exact loop (E.length - k) k 1 S (by omega) hS
theorem wF_prn {P : Nat → Int32} {k man : Nat} {nm : Option Nat} {g : Int32} (h : prn nm g = true) : ∀ {E : List (Nat × Nat)} {S : Nat}, wF P k man nm E S g = 0
  | [], _ => rfl
  | e :: E, S => by unfold wF; rw [if_pos h]
theorem optI_inj {a b : Option Nat} (ha : ∀ i, a = some i → i < 6) (hb : ∀ i, b = some i → i < 6) (h : optI (-1) a = optI (-1) b) : a = b := by
  cases a with
  | none =>
    cases b with
    | none => rfl
    | some j => have := hb j rfl; exact absurd h.symm (nI_ne_m1 (by omega))
  | some i =>
    have := ha i rfl
    cases b with
    | none => exact absurd h (nI_ne_m1 (by omega))
    | some j => have := hb j rfl; rw [(nI_eq (by omega) (by omega)).mp h]
set_option maxRecDepth 100000 in
set_option maxHeartbeats 1000000 in
theorem s_waysFrom {M : Nat → Nat → Int32} {N : Nat → Nat → Int64} {n k : Nat} {P : Nat → Int32} {E : List (Nat × Nat)} (hok : OkP n k P) (hc0 : IsC M 14 n k P) (hEv : EvC M n E) {man : Nat} (hman : man < n) {nm : Option Nat} (hnm : ∀ i, nm = some i → i < k) : ∀ (j a S : Nat) (g : Int32), a + j = E.length → S < 64 → Run mX3_waysFrom (j + 5) 0 0 [.ref 11, .ref 14, .int (nI man), .int (optI (-1) nm), .int (nI a), .int (nI S), .int g] (SK, M, N) (fun r h' => h' = (SK, M, N) ∧ r = some (.int (nI (wF P k man nm (E.drop a) S g)))) := by
  obtain ⟨hF, hF18, hE⟩ := id hEv
  have hn6 := hok.1
  have hk6 := hok.2.1
  intro j
  induction j using Nat.strongRecOn with
  | _ j ih =>
    intro a S g haj hS
    refine Run.of (by decide) (Nat.le_of_ble_eq_true rfl) ?_
    have main : prn nm g = false → Go mX3_waysFrom (j + 5) 0 0 16 [(0, .ref 11), (1, .ref 14), (2, .int (nI man)), (3, .int (optI (-1) nm)), (4, .int (nI a)), (5, .int (nI S)), (6, .int g)] [] (SK, M, N) (fun r h' => h' = (SK, M, N) ∧ r = some (.int (nI (wF P k man nm (E.drop a) S g)))) := by
      intro hpr
      have skp : ∀ (i b : Nat), b + i = E.length → a ≤ b → Go mX3_waysFrom (j + 5) 0 0 20 [(0, .ref 11), (1, .ref 14), (2, .int (nI man)), (3, .int (optI (-1) nm)), (4, .int (nI a)), (5, .int (nI S)), (6, .int g), (7, .int (nI b))] [] (SK, M, N) (fun r h' => h' = (SK, M, N) ∧ r = some (.int (nI (wF P k man nm (E.drop b) S g)))) := by
        intro i
        induction i with
        | zero =>
          intro b hb hab
          refine g_iload (j := 7) (pc' := 22) dX3_waysFrom_20 rfl rfl ?_
          refine g_aload_n (j := 0) (pc' := 23) dX3_waysFrom_22 rfl rfl ?_
          refine g_getI (pc' := 26) dX3_waysFrom_23 fX3_18 rfl rfl rfl ?_
          refine g_top (y := nI E.length) (hF) ?_
          refine g_icmp_ge (tgt := 50) (pc' := 29) dX3_waysFrom_26 (by decide) rfl (fun hc => ?_) (fun hc => (absurd (nI_le (a := E.length) (b := b) (by omega) (by omega)) hc))
          refine g_iload (j := 7) (pc' := 52) dX3_waysFrom_50 rfl rfl ?_
          refine g_aload_n (j := 0) (pc' := 53) dX3_waysFrom_52 rfl rfl ?_
          refine g_getI (pc' := 56) dX3_waysFrom_53 fX3_18 rfl rfl rfl ?_
          refine g_top (y := nI E.length) (hF) ?_
          refine g_icmp_lt (tgt := 61) (pc' := 59) dX3_waysFrom_56 (by decide) rfl (fun hc => (absurd hc (nI_nlt (a := b) (b := E.length) (by omega) (by omega)))) (fun hc => ?_)
          rw [show E.drop b = [] from List.drop_eq_nil_of_le (by omega)]
          refine g_iconst (v := 0) (pc' := 60) dX3_waysFrom_59 (by decide) rfl ?_
          exact g_iret dX3_waysFrom_60 rfl rfl (⟨rfl, rfl⟩)
        | succ i ihs =>
          intro b hb hab
          refine g_iload (j := 7) (pc' := 22) dX3_waysFrom_20 rfl rfl ?_
          refine g_aload_n (j := 0) (pc' := 23) dX3_waysFrom_22 rfl rfl ?_
          refine g_getI (pc' := 26) dX3_waysFrom_23 fX3_18 rfl rfl rfl ?_
          refine g_top (y := nI E.length) (hF) ?_
          refine g_icmp_ge (tgt := 50) (pc' := 29) dX3_waysFrom_26 (by decide) rfl (fun hc => (absurd hc (nI_ge (a := b) (b := E.length) (by omega) (by omega)))) (fun hc => ?_)
          obtain ⟨⟨m, l⟩, he⟩ : ∃ e, E[b]? = some e := ⟨_, List.getElem?_eq_getElem (show b < E.length by omega)⟩
          obtain ⟨hw, hlf, hmn, hl1, hl3⟩ := hE b m l he
          have hdr : E.drop b = (m, l) :: E.drop (b + 1) := by rw [List.drop_eq_getElem_cons (show b < E.length by omega)]; congr 1; rw [List.getElem?_eq_getElem (show b < E.length by omega)] at he; exact Option.some.inj he
          rw [hdr]
          unfold wF
          rw [if_neg (by rw [hpr]; decide)]
          refine g_iload (j := 5) (pc' := 31) dX3_waysFrom_29 rfl rfl ?_
          refine g_aload_n (j := 0) (pc' := 32) dX3_waysFrom_31 rfl rfl ?_
          refine g_getR (pc' := 35) dX3_waysFrom_32 fX3_11 rfl rfl rfl ?_
          refine g_iload (j := 7) (pc' := 37) dX3_waysFrom_35 rfl rfl ?_
          refine g_iald (n := b) (pc' := 38) dX3_waysFrom_37 rfl rfl (by omega) rfl ?_
          refine g_top (y := nI m) (hw) ?_
          refine g_ishr (pc' := 39) dX3_waysFrom_38 rfl ?_
          refine g_iconst (v := 1) (pc' := 40) dX3_waysFrom_39 (by decide) rfl ?_
          refine g_iand (pc' := 41) dX3_waysFrom_40 rfl ?_
          refine g_if_eq (tgt := 50) (pc' := 44) dX3_waysFrom_41 (by decide) rfl (fun hc6 => ?_) (fun hc6 => ?_)
          · rw [if_neg (by rw [(bitN hS (show m < 6 by omega)).mp hc6]; decide)]
            refine g_iload (j := 7) (pc' := 52) dX3_waysFrom_50 rfl rfl ?_
            refine g_aload_n (j := 0) (pc' := 53) dX3_waysFrom_52 rfl rfl ?_
            refine g_getI (pc' := 56) dX3_waysFrom_53 fX3_18 rfl rfl rfl ?_
            refine g_top (y := nI E.length) (hF) ?_
            refine g_icmp_lt (tgt := 61) (pc' := 59) dX3_waysFrom_56 (by decide) rfl (fun hc => ?_) (fun hc => (absurd (nI_lt (a := b) (b := E.length) (by omega) (by omega)) hc))
            refine g_aload_n (j := 0) (pc' := 62) dX3_waysFrom_61 rfl rfl ?_
            refine g_getR (pc' := 65) dX3_waysFrom_62 fX3_11 rfl rfl rfl ?_
            refine g_iload (j := 7) (pc' := 67) dX3_waysFrom_65 rfl rfl ?_
            refine g_iald (n := b) (pc' := 68) dX3_waysFrom_67 rfl rfl (by omega) rfl ?_
            refine g_top (y := nI m) (hw) ?_
            refine g_istore (L' := [(0, .ref 11), (1, .ref 14), (2, .int (nI man)), (3, .int (optI (-1) nm)), (4, .int (nI a)), (5, .int (nI S)), (6, .int g), (7, .int (nI b)), (8, .int (nI m))]) (pc' := 70) dX3_waysFrom_68 (by decide) rfl rfl ?_
            refine g_aload_n (j := 0) (pc' := 71) dX3_waysFrom_70 rfl rfl ?_
            refine g_getR (pc' := 74) dX3_waysFrom_71 fX3_22 rfl rfl rfl ?_
            refine g_aload_n (j := 1) (pc' := 75) dX3_waysFrom_74 rfl rfl ?_
            refine g_iload (j := 8) (pc' := 77) dX3_waysFrom_75 rfl rfl ?_
            refine g_iload (j := 6) (pc' := 79) dX3_waysFrom_77 rfl rfl ?_
            refine g_callV (my := mX0_wish) (k := 1) (st := []) (av := [.ref 14, .int (nI m), .int g]) (mcr := 0) (msr := 0) (mc := 0) (ms := 0) (pc' := 82) dX3_waysFrom_79 kX0_wish wX3_44 rfl ⟨rfl, rfl⟩ rfl (Nat.le_of_ble_eq_true rfl) (by omega) (s_wish isPar14 hok hc0 g hmn) rfl ?_
            rintro _ _ ⟨rfl, rfl⟩
            show Go mX3_waysFrom _ _ _ 82 [(0, .ref 11), (1, .ref 14), (2, .int (nI man)), (3, .int (optI (-1) nm)), (4, .int (nI a)), (5, .int (nI S)), (6, .int g), (7, .int (nI b)), (8, .int (nI m))] [.int (optI (-1) (wishP P m g k))] (SK, M, N) _
            have hol := @wishP_lt P m g k
            generalize wishP P m g k = o at hol
            refine g_istore (L' := [(0, .ref 11), (1, .ref 14), (2, .int (nI man)), (3, .int (optI (-1) nm)), (4, .int (nI a)), (5, .int (nI S)), (6, .int g), (7, .int (nI b)), (8, .int (nI m)), (9, .int (optI (-1) o))]) (pc' := 84) dX3_waysFrom_82 (by decide) rfl rfl ?_
            refine g_iload (j := 5) (pc' := 86) dX3_waysFrom_84 rfl rfl ?_
            refine g_iconst (v := 1) (pc' := 87) dX3_waysFrom_86 (by decide) rfl ?_
            refine g_iload (j := 8) (pc' := 89) dX3_waysFrom_87 rfl rfl ?_
            refine g_ishl (pc' := 90) dX3_waysFrom_89 rfl ?_
            refine g_ior (pc' := 91) dX3_waysFrom_90 rfl ?_
            refine g_top (y := nI (S ||| 2 ^ m)) (orbN hS (by omega)) ?_
            have hS2 := or64 hS (show m < 6 by omega)
            refine g_istore (L' := [(0, .ref 11), (1, .ref 14), (2, .int (nI man)), (3, .int (optI (-1) nm)), (4, .int (nI a)), (5, .int (nI S)), (6, .int g), (7, .int (nI b)), (8, .int (nI m)), (9, .int (optI (-1) o)), (10, .int (nI (S ||| 2 ^ m)))]) (pc' := 93) dX3_waysFrom_91 (by decide) rfl rfl ?_
            refine g_iconst (v := 0) (pc' := 94) dX3_waysFrom_93 (by decide) rfl ?_
            refine g_istore (L' := [(0, .ref 11), (1, .ref 14), (2, .int (nI man)), (3, .int (optI (-1) nm)), (4, .int (nI a)), (5, .int (nI S)), (6, .int g), (7, .int (nI b)), (8, .int (nI m)), (9, .int (optI (-1) o)), (10, .int (nI (S ||| 2 ^ m))), (11, .int 0)]) (pc' := 96) dX3_waysFrom_94 (by decide) rfl rfl ?_
            have join : ∀ w1 : Nat, Go mX3_waysFrom (j + 5) 0 0 156 [(0, .ref 11), (1, .ref 14), (2, .int (nI man)), (3, .int (optI (-1) nm)), (4, .int (nI a)), (5, .int (nI S)), (6, .int g), (7, .int (nI b)), (8, .int (nI m)), (9, .int (optI (-1) o)), (10, .int (nI (S ||| 2 ^ m))), (11, .int (nI w1))] [] (SK, M, N) (fun r h' => h' = (SK, M, N) ∧ r = some (.int (nI (w1 + (if l = 1 then 0 else wF P k man nm (E.drop (b + 1)) S g))))) := by
              intro w1
              refine g_aload_n (j := 0) (pc' := 157) dX3_waysFrom_156 rfl rfl ?_
              refine g_getR (pc' := 160) dX3_waysFrom_157 fX3_15 rfl rfl rfl ?_
              refine g_iload (j := 7) (pc' := 162) dX3_waysFrom_160 rfl rfl ?_
              refine g_iald (n := b) (pc' := 163) dX3_waysFrom_162 rfl rfl (by omega) rfl ?_
              refine g_top (y := nI l) (hlf) ?_
              refine g_iconst (v := 1) (pc' := 164) dX3_waysFrom_163 (by decide) rfl ?_
              refine g_icmp_ne (tgt := 172) (pc' := 167) dX3_waysFrom_164 (by decide) rfl (fun hc7 => ?_) (fun hc7 => ?_)
              · rw [if_neg (fun q => hc7 (by rw [q]; rfl))]
                refine g_iload (j := 11) (pc' := 174) dX3_waysFrom_172 rfl rfl ?_
                refine g_aload_n (j := 0) (pc' := 175) dX3_waysFrom_174 rfl rfl ?_
                refine g_aload_n (j := 1) (pc' := 176) dX3_waysFrom_175 rfl rfl ?_
                refine g_iload_n (j := 2) (pc' := 177) dX3_waysFrom_176 rfl rfl ?_
                refine g_iload_n (j := 3) (pc' := 178) dX3_waysFrom_177 rfl rfl ?_
                refine g_iload (j := 7) (pc' := 180) dX3_waysFrom_178 rfl rfl ?_
                refine g_iconst (v := 1) (pc' := 181) dX3_waysFrom_180 (by decide) rfl ?_
                refine g_iadd (pc' := 182) dX3_waysFrom_181 rfl ?_
                refine g_top (y := nI (b + 1)) (nI_1 b) ?_
                refine g_iload (j := 5) (pc' := 184) dX3_waysFrom_182 rfl rfl ?_
                refine g_iload (j := 6) (pc' := 186) dX3_waysFrom_184 rfl rfl ?_
                refine g_callV (my := mX3_waysFrom) (k := 11) (st := [.int (nI w1)]) (av := [.ref 14, .int (nI man), .int (optI (-1) nm), .int (nI (b + 1)), .int (nI S), .int g]) (mcr := 0) (msr := 0) (mc := 0) (ms := 0) (pc' := 189) dX3_waysFrom_186 kX3_waysFrom wX3_40 rfl ⟨rfl, rfl⟩ rfl (Nat.le_of_ble_eq_true rfl) (by omega) (ih (E.length - (b + 1)) (by omega) (b + 1) S g (by omega) hS) rfl ?_
                rintro _ _ ⟨rfl, rfl⟩
                show Go mX3_waysFrom _ _ _ 189 [(0, .ref 11), (1, .ref 14), (2, .int (nI man)), (3, .int (optI (-1) nm)), (4, .int (nI a)), (5, .int (nI S)), (6, .int g), (7, .int (nI b)), (8, .int (nI m)), (9, .int (optI (-1) o)), (10, .int (nI (S ||| 2 ^ m))), (11, .int (nI w1))] [.int (nI (wF P k man nm (E.drop (b + 1)) S g)), .int (nI w1)] (SK, M, N) _
                refine g_iadd (pc' := 190) dX3_waysFrom_189 rfl ?_
                refine g_top (y := nI (w1 + wF P k man nm (E.drop (b + 1)) S g)) (nI_add _ _) ?_
                exact g_iret dX3_waysFrom_190 rfl rfl (⟨rfl, rfl⟩)
              · rw [if_pos ((nI_eq (b := 1) (by omega) (by omega)).mp hc7)]
                refine g_iload (j := 11) (pc' := 169) dX3_waysFrom_167 rfl rfl ?_
                refine g_goto (tgt := 190) dX3_waysFrom_169 (by decide) ?_
                exact g_iret dX3_waysFrom_190 rfl rfl (⟨rfl, rfl⟩)
            refine g_iload (j := 8) (pc' := 98) dX3_waysFrom_96 rfl rfl ?_
            refine g_iload_n (j := 2) (pc' := 99) dX3_waysFrom_98 rfl rfl ?_
            refine g_icmp_eq (tgt := 138) (pc' := 102) dX3_waysFrom_99 (by decide) rfl (fun hc8 => ?_) (fun hc8 => ?_)
            · rw [if_pos ((nI_eq (by omega) (by omega)).mp hc8)]
              refine g_iload (j := 9) (pc' := 140) dX3_waysFrom_138 rfl rfl ?_
              refine g_iload_n (j := 3) (pc' := 141) dX3_waysFrom_140 rfl rfl ?_
              refine g_icmp_ne (tgt := 156) (pc' := 144) dX3_waysFrom_141 (by decide) rfl (fun hc9 => ?_) (fun hc9 => ?_)
              · rw [if_neg (fun q => hc9 (by rw [q]))]
                exact join 0
              · rw [if_pos (optI_inj (fun i hi => Nat.lt_of_lt_of_le (hol hi) hk6) (fun i hi => Nat.lt_of_lt_of_le (hnm i hi) hk6) hc9)]
                refine g_aload_n (j := 0) (pc' := 145) dX3_waysFrom_144 rfl rfl ?_
                refine g_iload (j := 7) (pc' := 147) dX3_waysFrom_145 rfl rfl ?_
                refine g_iconst (v := 1) (pc' := 148) dX3_waysFrom_147 (by decide) rfl ?_
                refine g_iadd (pc' := 149) dX3_waysFrom_148 rfl ?_
                refine g_top (y := nI (b + 1)) (nI_1 b) ?_
                refine g_iload (j := 10) (pc' := 151) dX3_waysFrom_149 rfl rfl ?_
                refine g_callV (my := mX3_waysOfOthers) (k := 11) (st := []) (av := [.int (nI (b + 1)), .int (nI (S ||| 2 ^ m))]) (mcr := 0) (msr := 0) (mc := 0) (ms := 0) (pc' := 154) dX3_waysFrom_151 kX3_waysOfOthers wX3_47 rfl ⟨rfl, rfl⟩ rfl (Nat.le_of_ble_eq_true rfl) (by omega) (s_others hn6 hEv (show b + 1 ≤ E.length by omega) hS2) rfl ?_
                rintro _ _ ⟨rfl, rfl⟩
                show Go mX3_waysFrom _ _ _ 154 [(0, .ref 11), (1, .ref 14), (2, .int (nI man)), (3, .int (optI (-1) nm)), (4, .int (nI a)), (5, .int (nI S)), (6, .int g), (7, .int (nI b)), (8, .int (nI m)), (9, .int (optI (-1) o)), (10, .int (nI (S ||| 2 ^ m))), (11, .int 0)] [.int (nI (oth (E.drop (b + 1)) (S ||| 2 ^ m) 1))] (SK, M, N) _
                refine g_istore (L' := [(0, .ref 11), (1, .ref 14), (2, .int (nI man)), (3, .int (optI (-1) nm)), (4, .int (nI a)), (5, .int (nI S)), (6, .int g), (7, .int (nI b)), (8, .int (nI m)), (9, .int (optI (-1) o)), (10, .int (nI (S ||| 2 ^ m))), (11, .int (nI (oth (E.drop (b + 1)) (S ||| 2 ^ m) 1)))]) (pc' := 156) dX3_waysFrom_154 (by decide) rfl rfl ?_
                exact join _
            · rw [if_neg (fun q => hc8 (congrArg nI q))]
              refine g_aload_n (j := 0) (pc' := 103) dX3_waysFrom_102 rfl rfl ?_
              refine g_aload_n (j := 1) (pc' := 104) dX3_waysFrom_103 rfl rfl ?_
              refine g_iload_n (j := 2) (pc' := 105) dX3_waysFrom_104 rfl rfl ?_
              refine g_iload_n (j := 3) (pc' := 106) dX3_waysFrom_105 rfl rfl ?_
              refine g_iload (j := 7) (pc' := 108) dX3_waysFrom_106 rfl rfl ?_
              refine g_iconst (v := 1) (pc' := 109) dX3_waysFrom_108 (by decide) rfl ?_
              refine g_iadd (pc' := 110) dX3_waysFrom_109 rfl ?_
              refine g_top (y := nI (b + 1)) (nI_1 b) ?_
              refine g_iload (j := 10) (pc' := 112) dX3_waysFrom_110 rfl rfl ?_
              refine g_iload (j := 9) (pc' := 114) dX3_waysFrom_112 rfl rfl ?_
              cases o with
              | none =>
                show Go mX3_waysFrom _ _ _ 114 [(0, .ref 11), (1, .ref 14), (2, .int (nI man)), (3, .int (optI (-1) nm)), (4, .int (nI a)), (5, .int (nI S)), (6, .int g), (7, .int (nI b)), (8, .int (nI m)), (9, .int (-1)), (10, .int (nI (S ||| 2 ^ m))), (11, .int 0)] [.int (-1), .int (nI (S ||| 2 ^ m)), .int (nI (b + 1)), .int (optI (-1) nm), .int (nI man), .ref 14, .ref 11] (SK, M, N) _
                refine g_iconst (v := (-1)) (pc' := 115) dX3_waysFrom_114 (by decide) rfl ?_
                refine g_icmp_ne (tgt := 123) (pc' := 118) dX3_waysFrom_115 (by decide) rfl (fun hc => (absurd rfl hc)) (fun hc => ?_)
                refine g_iload (j := 6) (pc' := 120) dX3_waysFrom_118 rfl rfl ?_
                refine g_goto (tgt := 130) dX3_waysFrom_120 (by decide) ?_
                refine g_callV (my := mX3_waysFrom) (k := 11) (st := []) (av := [.ref 14, .int (nI man), .int (optI (-1) nm), .int (nI (b + 1)), .int (nI (S ||| 2 ^ m)), .int g]) (mcr := 0) (msr := 0) (mc := 0) (ms := 0) (pc' := 133) dX3_waysFrom_130 kX3_waysFrom wX3_40 rfl ⟨rfl, rfl⟩ rfl (Nat.le_of_ble_eq_true rfl) (by omega) (ih (E.length - (b + 1)) (by omega) (b + 1) (S ||| 2 ^ m) g (by omega) hS2) rfl ?_
                rintro _ _ ⟨rfl, rfl⟩
                show Go mX3_waysFrom _ _ _ 133 [(0, .ref 11), (1, .ref 14), (2, .int (nI man)), (3, .int (optI (-1) nm)), (4, .int (nI a)), (5, .int (nI S)), (6, .int g), (7, .int (nI b)), (8, .int (nI m)), (9, .int (-1)), (10, .int (nI (S ||| 2 ^ m))), (11, .int 0)] [.int (nI (wF P k man nm (E.drop (b + 1)) (S ||| 2 ^ m) g))] (SK, M, N) _
                refine g_istore (L' := [(0, .ref 11), (1, .ref 14), (2, .int (nI man)), (3, .int (optI (-1) nm)), (4, .int (nI a)), (5, .int (nI S)), (6, .int g), (7, .int (nI b)), (8, .int (nI m)), (9, .int (-1)), (10, .int (nI (S ||| 2 ^ m))), (11, .int (nI (wF P k man nm (E.drop (b + 1)) (S ||| 2 ^ m) g)))]) (pc' := 135) dX3_waysFrom_133 (by decide) rfl rfl ?_
                refine g_goto (tgt := 156) dX3_waysFrom_135 (by decide) ?_
                exact join _
              | some i =>
                show Go mX3_waysFrom _ _ _ 114 [(0, .ref 11), (1, .ref 14), (2, .int (nI man)), (3, .int (optI (-1) nm)), (4, .int (nI a)), (5, .int (nI S)), (6, .int g), (7, .int (nI b)), (8, .int (nI m)), (9, .int (nI i)), (10, .int (nI (S ||| 2 ^ m))), (11, .int 0)] [.int (nI i), .int (nI (S ||| 2 ^ m)), .int (nI (b + 1)), .int (optI (-1) nm), .int (nI man), .ref 14, .ref 11] (SK, M, N) _
                have hik := hol rfl
                refine g_iconst (v := (-1)) (pc' := 115) dX3_waysFrom_114 (by decide) rfl ?_
                refine g_icmp_ne (tgt := 123) (pc' := 118) dX3_waysFrom_115 (by decide) rfl (fun hc => ?_) (fun hc => (absurd hc (nI_ne_m1 (by omega))))
                refine g_iload (j := 6) (pc' := 125) dX3_waysFrom_123 rfl rfl ?_
                refine g_iconst (v := 1) (pc' := 126) dX3_waysFrom_125 (by decide) rfl ?_
                refine g_iload (j := 9) (pc' := 128) dX3_waysFrom_126 rfl rfl ?_
                refine g_ishl (pc' := 129) dX3_waysFrom_128 rfl ?_
                refine g_ior (pc' := 130) dX3_waysFrom_129 rfl ?_
                refine g_callV (my := mX3_waysFrom) (k := 11) (st := []) (av := [.ref 14, .int (nI man), .int (optI (-1) nm), .int (nI (b + 1)), .int (nI (S ||| 2 ^ m)), .int (g ||| (1 <<< ((nI i) &&& 31)))]) (mcr := 0) (msr := 0) (mc := 0) (ms := 0) (pc' := 133) dX3_waysFrom_130 kX3_waysFrom wX3_40 rfl ⟨rfl, rfl⟩ rfl (Nat.le_of_ble_eq_true rfl) (by omega) (ih (E.length - (b + 1)) (by omega) (b + 1) (S ||| 2 ^ m) (addS g (some i)) (by omega) hS2) rfl ?_
                rintro _ _ ⟨rfl, rfl⟩
                show Go mX3_waysFrom _ _ _ 133 [(0, .ref 11), (1, .ref 14), (2, .int (nI man)), (3, .int (optI (-1) nm)), (4, .int (nI a)), (5, .int (nI S)), (6, .int g), (7, .int (nI b)), (8, .int (nI m)), (9, .int (nI i)), (10, .int (nI (S ||| 2 ^ m))), (11, .int 0)] [.int (nI (wF P k man nm (E.drop (b + 1)) (S ||| 2 ^ m) (addS g (some i))))] (SK, M, N) _
                refine g_istore (L' := [(0, .ref 11), (1, .ref 14), (2, .int (nI man)), (3, .int (optI (-1) nm)), (4, .int (nI a)), (5, .int (nI S)), (6, .int g), (7, .int (nI b)), (8, .int (nI m)), (9, .int (nI i)), (10, .int (nI (S ||| 2 ^ m))), (11, .int (nI (wF P k man nm (E.drop (b + 1)) (S ||| 2 ^ m) (addS g (some i)))))]) (pc' := 135) dX3_waysFrom_133 (by decide) rfl rfl ?_
                refine g_goto (tgt := 156) dX3_waysFrom_135 (by decide) ?_
                exact join _
          · rw [if_pos (tb_true hS (by omega) hc6)]
            refine g_iinc (j := 7) (v := nI (b + 1)) (L' := [(0, .ref 11), (1, .ref 14), (2, .int (nI man)), (3, .int (optI (-1) nm)), (4, .int (nI a)), (5, .int (nI S)), (6, .int g), (7, .int (nI (b + 1)))]) (pc' := 47) dX3_waysFrom_44 rfl (nI_1 b) (by decide) rfl rfl ?_
            refine g_goto (tgt := 20) dX3_waysFrom_47 (by decide) ?_
            exact ihs (b + 1) (by omega) (by omega)
      refine g_iload (j := 4) (pc' := 18) dX3_waysFrom_16 rfl rfl ?_
      refine g_istore (L' := [(0, .ref 11), (1, .ref 14), (2, .int (nI man)), (3, .int (optI (-1) nm)), (4, .int (nI a)), (5, .int (nI S)), (6, .int g), (7, .int (nI a))]) (pc' := 20) dX3_waysFrom_18 (by decide) rfl rfl ?_
      exact skp (E.length - a) a (by omega) (Nat.le_refl _)
    cases nm with
    | none =>
      show Go mX3_waysFrom _ _ _ 0 [(0, .ref 11), (1, .ref 14), (2, .int (nI man)), (3, .int (-1)), (4, .int (nI a)), (5, .int (nI S)), (6, .int g)] [] (SK, M, N) _
      refine g_iload_n (j := 3) (pc' := 1) dX3_waysFrom_0 rfl rfl ?_
      refine g_iconst (v := (-1)) (pc' := 2) dX3_waysFrom_1 (by decide) rfl ?_
      refine g_icmp_eq (tgt := 16) (pc' := 5) dX3_waysFrom_2 (by decide) rfl (fun hc => ?_) (fun hc => (absurd rfl hc))
      exact main rfl
    | some i =>
      show Go mX3_waysFrom _ _ _ 0 [(0, .ref 11), (1, .ref 14), (2, .int (nI man)), (3, .int (nI i)), (4, .int (nI a)), (5, .int (nI S)), (6, .int g)] [] (SK, M, N) _
      have hik := hnm i rfl
      refine g_iload_n (j := 3) (pc' := 1) dX3_waysFrom_0 rfl rfl ?_
      refine g_iconst (v := (-1)) (pc' := 2) dX3_waysFrom_1 (by decide) rfl ?_
      refine g_icmp_eq (tgt := 16) (pc' := 5) dX3_waysFrom_2 (by decide) rfl (fun hc => (absurd hc (nI_ne_m1 (by omega)))) (fun hc => ?_)
      refine g_iload (j := 6) (pc' := 7) dX3_waysFrom_5 rfl rfl ?_
      refine g_iload_n (j := 3) (pc' := 8) dX3_waysFrom_7 rfl rfl ?_
      refine g_ishr (pc' := 9) dX3_waysFrom_8 rfl ?_
      refine g_iconst (v := 1) (pc' := 10) dX3_waysFrom_9 (by decide) rfl ?_
      refine g_iand (pc' := 11) dX3_waysFrom_10 rfl ?_
      refine g_if_eq (tgt := 16) (pc' := 14) dX3_waysFrom_11 (by decide) rfl (fun hc3 => ?_) (fun hc3 => ?_)
      · exact main (by unfold prn; exact decide_eq_false (fun q => q hc3))
      · rw [wF_prn (by unfold prn; exact decide_eq_true hc3)]
        refine g_iconst (v := 0) (pc' := 15) dX3_waysFrom_14 (by decide) rfl ?_
        exact g_iret dX3_waysFrom_15 rfl rfl (⟨rfl, rfl⟩)
