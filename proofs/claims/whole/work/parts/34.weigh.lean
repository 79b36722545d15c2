/-! ===== partings ===== -/
def tB (v later : Nat → Nat) : Nat → Nat → Nat
  | 0, g => later g
  | i + 1, g => if g.testBit i then tB v later i g else max (tB v later i g) (v i + later (g ||| 2 ^ i))
/-- the most that j men from man m on may have together, when the set g of names is gone -/
def pT (v : Nat → Nat → Nat) (k : Nat) : Nat → Nat → Nat → Nat
  | 0, _, _ => 0
  | j + 1, m, g => tB (v m) (pT v k j (m + 1)) k g
/-- a value and 100 -/
def vN (P : Nat → Int32) (m i : Nat) : Nat := if (valP P m i + 100).toNatClampNeg ≤ 149 then (valP P m i + 100).toNatClampNeg else 0
theorem vN_le {P : Nat → Int32} (m i : Nat) : vN P m i ≤ 149 := by
  unfold vN
  split
  · assumption
  · omega
set_option maxRecDepth 100000 in
theorem valK_in : ∀ q : Fin 5, ∀ a : Fin 21, ∀ b : Fin 21, ∀ c : Bool, (valK (nI q) (nI a) (nI b) c + 100).toNatClampNeg ≤ 149 ∧ valK (nI q) (nI a) (nI b) c + 100 = nI (valK (nI q) (nI a) (nI b) c + 100).toNatClampNeg := by decide +kernel
theorem vN_eq {n k : Nat} {P : Nat → Int32} (h : OkP n k P) {m i : Nat} (hm : m < n) (hi : i < k) : valP P m i + 100 = nI (vN P m i) := by
  obtain ⟨q, hq, e1⟩ := (h.2.2.2.2.1 m hm).1
  obtain ⟨⟨a, ha, e2⟩, ⟨b, hb, e3⟩⟩ := h.2.2.2.2.2.2.1 i hi
  unfold vN valP
  rw [e1, e2, e3]
  have h9 := valK_in ⟨q, by omega⟩ ⟨a, by omega⟩ ⟨b, by omega⟩ (decide (m = i))
  rw [if_pos h9.1]
  exact h9.2
theorem tB_le {v later : Nat → Nat} {B : Nat} (hl : ∀ g, later g ≤ B) (hv : ∀ i, v i ≤ 149) : ∀ i g, tB v later i g ≤ B + 149
  | 0, g => by have := hl g; unfold tB; omega
  | i + 1, g => by
    have h1 := tB_le hl hv i g
    have h2 := hl (g ||| 2 ^ i)
    have h3 := hv i
    unfold tB
    split
    · exact h1
    · exact Nat.max_le.mpr ⟨h1, by omega⟩
theorem pT_le {v : Nat → Nat → Nat} {k : Nat} (hv : ∀ m i, v m i ≤ 149) : ∀ j m g, pT v k j m g ≤ 149 * j
  | 0, m, g => by unfold pT; omega
  | j + 1, m, g => by
    unfold pT
    have := tB_le (pT_le (k := k) hv j (m + 1)) (hv m) k g
    omega
theorem bitNF : ∀ g : Fin 64, ∀ i : Fin 6, ((nI g >>> (nI i &&& 31)) &&& 1 = 0) ↔ Nat.testBit g i = false := by decide +kernel
theorem bitN {g i : Nat} (hg : g < 64) (hi : i < 6) : ((nI g >>> (nI i &&& 31)) &&& 1 = 0) ↔ Nat.testBit g i = false := bitNF ⟨g, hg⟩ ⟨i, hi⟩
theorem orNF : ∀ g : Fin 64, ∀ i : Fin 6, nI g ||| ((1 : Int32) <<< (nI i &&& 31)) = nI (g.val ||| 2 ^ i.val) := by decide +kernel
theorem orbN {g i : Nat} (hg : g < 64) (hi : i < 6) : nI g ||| ((1 : Int32) <<< (nI i &&& 31)) = nI (g ||| 2 ^ i) := orNF ⟨g, hg⟩ ⟨i, hi⟩
theorem shl1F : ∀ k : Fin 7, (1 : Int32) <<< (nI k &&& 31) = nI (2 ^ k.val) := by decide +kernel
theorem shl1 {k : Nat} (hk : k ≤ 6) : (1 : Int32) <<< (nI k &&& 31) = nI (2 ^ k) := shl1F ⟨k, by omega⟩
theorem pow64 {k : Nat} (hk : k ≤ 6) : 2 ^ k ≤ 64 := Nat.pow_le_pow_right (n := 2) (by omega) hk
theorem or_lt {g i k : Nat} (hg : g < 2 ^ k) (hi : i < k) : g ||| 2 ^ i < 2 ^ k := Nat.or_lt_two_pow hg (Nat.pow_lt_pow_right (by omega) hi)
theorem maxN {a b : Nat} (ha : a < 1000000) (hb : b < 1000000) : (if nI a < nI b then nI b else nI a) = nI (max a b) := by
  by_cases h : a < b
  · rw [if_pos (nI_lt h (by omega)), Nat.max_eq_right (by omega)]
  · rw [if_neg (nI_nlt (by omega) (by omega)), Nat.max_eq_left (by omega)]
theorem togAt {m : Nat} (h : m < 7) : SK[174 + m]? = some (100, rep 64) := by
  rcases (show m = 0 ∨ m = 1 ∨ m = 2 ∨ m = 3 ∨ m = 4 ∨ m = 5 ∨ m = 6 by omega) with rfl | rfl | rfl | rfl | rfl | rfl | rfl <;> rfl
theorem togRef {m : Nat} (h : m < 7) : ([.ref 174, .ref 175, .ref 176, .ref 177, .ref 178, .ref 179, .ref 180] : List Value)[m]? = some (.ref (174 + m)) := by
  rcases (show m = 0 ∨ m = 1 ∨ m = 2 ∨ m = 3 ∨ m = 4 ∨ m = 5 ∨ m = 6 by omega) with rfl | rfl | rfl | rfl | rfl | rfl | rfl <;> rfl
/-- the class's rows from row t on -/
def TabC (M : Nat → Nat → Int32) (v : Nat → Nat → Nat) (n k t : Nat) : Prop := ∀ m, t ≤ m → m ≤ n → ∀ g, g < 2 ^ k → M (174 + m) g = nI (pT v k (n - m) m g)
set_option maxRecDepth 100000 in
set_option maxHeartbeats 1000000 in
theorem s_weigh {M : Nat → Nat → Int32} {N : Nat → Nat → Int64} {n k : Nat} {P : Nat → Int32} (hok : OkP n k P) (hc0 : IsC M 14 n k P) : Run mX11_weighPartings 20 0 0 [.ref 0] (SK, M, N) (fun r h' => ∃ M', h' = (SK, M', N) ∧ r = none ∧ TabC M' (vN P) n k 0 ∧ ∀ a, (a < 174 ∨ 181 ≤ a) → M' a = M a) := by
  refine Run.of (by decide) (Nat.le_of_ble_eq_true rfl) ?_
  have hn6 := hok.1
  have hk6 := hok.2.1
  have hS64 := pow64 hk6
  have hor : ∀ {g i : Nat}, g < 2 ^ k → i < k → g ||| 2 ^ i < 2 ^ k := fun h1 h2 => or_lt h1 h2
  have hsh : (1 : Int32) <<< (nI k &&& 31) = nI (2 ^ k) := shl1 hk6
  have hS1 : 1 ≤ 2 ^ k := Nat.one_le_two_pow
  unfold TabC
  generalize hS : 2 ^ k = S at hS64 hor hsh hS1
  have hv := @vN_le P
  generalize hvv : vN P = v at hv
  have hvq : ∀ {m i : Nat}, m < n → i < k → valP P m i + 100 = nI (v m i) := fun h1 h2 => by rw [← hvv]; exact vN_eq hok h1 h2
  refine g_iconst (v := 1) (pc' := 1) dX11_weighPartings_0 (by decide) rfl ?_
  refine g_aload_n (j := 0) (pc' := 2) dX11_weighPartings_1 rfl rfl ?_
  refine g_getR (pc' := 5) dX11_weighPartings_2 fX11_28 rfl rfl rfl ?_
  refine g_getI (pc' := 8) dX11_weighPartings_5 fX11_86 rfl rfl rfl ?_
  refine g_ishl (pc' := 9) dX11_weighPartings_8 rfl ?_
  refine g_top (y := nI S) (by rw [hc0.2.1]; exact hsh) ?_
  refine g_istore_n (L' := [(0, .ref 0), (1, .int (nI S))]) (pc' := 10) dX11_weighPartings_9 (by decide) rfl rfl ?_
  refine g_aload_n (j := 0) (pc' := 11) dX11_weighPartings_10 rfl rfl ?_
  refine g_getR (pc' := 14) dX11_weighPartings_11 fX11_67 rfl rfl rfl ?_
  refine g_aload_n (j := 0) (pc' := 15) dX11_weighPartings_14 rfl rfl ?_
  refine g_getR (pc' := 18) dX11_weighPartings_15 fX11_28 rfl rfl rfl ?_
  refine g_getI (pc' := 21) dX11_weighPartings_18 fX11_75 rfl rfl rfl ?_
  refine g_aald (n := n) (pc' := 22) dX11_weighPartings_21 rfl ⟨rfl, rfl, by decide⟩ hc0.1 (togRef (by omega)) rfl ?_
  refine g_iconst (v := 0) (pc' := 23) dX11_weighPartings_22 (by decide) rfl ?_
  refine g_callS (my := mJ7_fill_53178) (st := []) (av := [.ref (174 + n), .int 0]) (mcr := 0) (msr := 0) (mc := 0) (ms := 0) (pc' := 26) dX11_weighPartings_23 kJ7_fill_53178 wX11_266 rfl (Nat.le_of_ble_eq_true rfl) (by decide) (s_fillI 0 (togAt (by omega)) (by omega)) rfl ?_
  rintro _ _ ⟨M1, rfl, rfl, hz, hf1⟩
  show Go mX11_weighPartings _ _ _ 26 [(0, .ref 0), (1, .int (nI S))] [] (SK, M1, N) _
  have hc1 : IsC M1 14 n k P := hc0.keep (fun a a1 a2 => hf1 a (by omega))
  refine g_aload_n (j := 0) (pc' := 27) dX11_weighPartings_26 rfl rfl ?_
  refine g_getR (pc' := 30) dX11_weighPartings_27 fX11_28 rfl rfl rfl ?_
  refine g_getI (pc' := 33) dX11_weighPartings_30 fX11_75 rfl rfl rfl ?_
  refine g_top (y := nI n) (hc1.1) ?_
  refine g_iconst (v := 1) (pc' := 34) dX11_weighPartings_33 (by decide) rfl ?_
  refine g_isub (pc' := 35) dX11_weighPartings_34 rfl ?_
  refine g_istore_n (L' := [(0, .ref 0), (1, .int (nI S)), (2, .int ((nI n) - 1))]) (pc' := 36) dX11_weighPartings_35 (by decide) rfl rfl ?_
  have loop : ∀ (t : Nat) (x : Int32) (M1 : Nat → Nat → Int32), t ≤ n → x = nI t - 1 → (∀ m, t ≤ m → m ≤ n → ∀ g, g < S → M1 (174 + m) g = nI (pT v k (n - m) m g)) → (∀ a, (a < 174 ∨ 181 ≤ a) → M1 a = M a) → Go mX11_weighPartings 20 0 0 36 [(0, .ref 0), (1, .int (nI S)), (2, .int x)] [] (SK, M1, N) (fun r h' => ∃ M', h' = (SK, M', N) ∧ r = none ∧ (∀ m, 0 ≤ m → m ≤ n → ∀ g, g < S → M' (174 + m) g = nI (pT v k (n - m) m g)) ∧ ∀ a, (a < 174 ∨ 181 ≤ a) → M' a = M a) := by
    intro t
    induction t with
    | zero =>
      intro x M1 ht hx hT hf
      obtain rfl : x = -1 := hx.trans (by decide)
      refine g_iload_n (j := 2) (pc' := 37) dX11_weighPartings_36 rfl rfl ?_
      refine g_if_lt (tgt := 162) (pc' := 40) dX11_weighPartings_37 (by decide) rfl (fun hc => ?_) (fun hc => (absurd (show (-1 : Int32) < 0 by decide) hc))
      exact g_vret dX11_weighPartings_162 rfl (⟨M1, rfl, rfl, hT, hf⟩)
    | succ t ih =>
      intro x M1 ht hx hT hf
      obtain rfl : x = nI t := hx.trans (nI_pred t)
      refine g_iload_n (j := 2) (pc' := 37) dX11_weighPartings_36 rfl rfl ?_
      refine g_if_lt (tgt := 162) (pc' := 40) dX11_weighPartings_37 (by decide) rfl (fun hc => (absurd hc (nI_nlt (a := t) (b := 0) (by omega) (by omega)))) (fun hc => ?_)
      refine g_aload_n (j := 0) (pc' := 41) dX11_weighPartings_40 rfl rfl ?_
      refine g_getR (pc' := 44) dX11_weighPartings_41 fX11_67 rfl rfl rfl ?_
      refine g_iload_n (j := 2) (pc' := 45) dX11_weighPartings_44 rfl rfl ?_
      refine g_iconst (v := 1) (pc' := 46) dX11_weighPartings_45 (by decide) rfl ?_
      refine g_iadd (pc' := 47) dX11_weighPartings_46 rfl ?_
      refine g_aald (n := t + 1) (pc' := 48) dX11_weighPartings_47 rfl ⟨rfl, rfl, by decide⟩ (nI_addE rfl rfl) (togRef (by omega)) rfl ?_
      refine g_astore_n (L' := [(0, .ref 0), (1, .int (nI S)), (2, .int (nI t)), (3, .ref (174 + (t + 1)))]) (pc' := 49) dX11_weighPartings_48 (by decide) rfl rfl ?_
      refine g_aload_n (j := 0) (pc' := 50) dX11_weighPartings_49 rfl rfl ?_
      refine g_getR (pc' := 53) dX11_weighPartings_50 fX11_67 rfl rfl rfl ?_
      refine g_iload_n (j := 2) (pc' := 54) dX11_weighPartings_53 rfl rfl ?_
      refine g_aald (n := t) (pc' := 55) dX11_weighPartings_54 rfl ⟨rfl, rfl, by decide⟩ rfl (togRef (by omega)) rfl ?_
      refine g_astore (L' := [(0, .ref 0), (1, .int (nI S)), (2, .int (nI t)), (3, .ref (174 + (t + 1))), (4, .ref (174 + t))]) (pc' := 57) dX11_weighPartings_55 (by decide) rfl rfl ?_
      refine g_aload_n (j := 3) (pc' := 58) dX11_weighPartings_57 rfl rfl ?_
      refine g_iconst (v := 0) (pc' := 59) dX11_weighPartings_58 (by decide) rfl ?_
      refine g_aload (j := 4) (pc' := 61) dX11_weighPartings_59 rfl rfl ?_
      refine g_iconst (v := 0) (pc' := 62) dX11_weighPartings_61 (by decide) rfl ?_
      refine g_iload_n (j := 1) (pc' := 63) dX11_weighPartings_62 rfl rfl ?_
      refine g_acopyI (sp := 0) (dp := 0) (n := S) (st := []) (pc' := 66) dX11_weighPartings_63 wX11_260 (togAt (by omega)) (togAt (by omega)) rfl rfl rfl (by omega) (by omega) (Nat.le_of_ble_eq_true rfl) (by decide) rfl ?_
      generalize hM2 : (cpy2 M1 (174 + (t + 1)) 0 (174 + t) 0 S) = M2
      have h2a : ∀ g, g < S → M2 (174 + t) g = nI (pT v k (n - (t + 1)) (t + 1) g) := fun g hg => by rw [← hM2, cpy2_in (by omega) (by omega), Nat.zero_add, Nat.sub_zero]; exact hT (t + 1) (Nat.le_refl _) ht g hg
      have h2f : ∀ a, a ≠ 174 + t → M2 a = M1 a := fun a ha => by rw [← hM2]; exact cpy2_ne ha
      have hlate : ∀ g, pT v k (n - (t + 1)) (t + 1) g ≤ 149 * 6 := fun g => Nat.le_trans (pT_le hv _ _ g) (by omega)
      have hrow : ∀ g, pT v k (n - t) t g = tB (v t) (pT v k (n - (t + 1)) (t + 1)) k g := fun g => by rw [show n - t = (n - (t + 1)) + 1 by omega]; rfl
      generalize hlt : pT v k (n - (t + 1)) (t + 1) = later at h2a hlate hrow
      refine g_iconst (v := 0) (pc' := 67) dX11_weighPartings_66 (by decide) rfl ?_
      refine g_istore (L' := [(0, .ref 0), (1, .int (nI S)), (2, .int (nI t)), (3, .ref (174 + (t + 1))), (4, .ref (174 + t)), (5, .int 0)]) (pc' := 69) dX11_weighPartings_67 (by decide) rfl rfl ?_
      have mid : ∀ (j i : Nat) (M3 : Nat → Nat → Int32), i + j = k → (∀ g, g < S → M3 (174 + t) g = nI (tB (v t) later i g)) → (∀ a, a ≠ 174 + t → M3 a = M1 a) → Go mX11_weighPartings 20 0 0 69 [(0, .ref 0), (1, .int (nI S)), (2, .int (nI t)), (3, .ref (174 + (t + 1))), (4, .ref (174 + t)), (5, .int (nI i))] [] (SK, M3, N) (fun r h' => ∃ M', h' = (SK, M', N) ∧ r = none ∧ (∀ m, 0 ≤ m → m ≤ n → ∀ g, g < S → M' (174 + m) g = nI (pT v k (n - m) m g)) ∧ ∀ a, (a < 174 ∨ 181 ≤ a) → M' a = M a) := by
        intro j
        induction j with
        | zero =>
          intro i M3 hij h3a h3f
          have hc3 : IsC M3 14 n k P := hc0.keep (fun a a1 a2 => by rw [h3f a (by omega)]; exact hf a (by omega))
          refine g_iload (j := 5) (pc' := 71) dX11_weighPartings_69 rfl rfl ?_
          refine g_aload_n (j := 0) (pc' := 72) dX11_weighPartings_71 rfl rfl ?_
          refine g_getR (pc' := 75) dX11_weighPartings_72 fX11_28 rfl rfl rfl ?_
          refine g_getI (pc' := 78) dX11_weighPartings_75 fX11_86 rfl rfl rfl ?_
          refine g_top (y := nI k) (hc3.2.1) ?_
          refine g_icmp_ge (tgt := 156) (pc' := 81) dX11_weighPartings_78 (by decide) rfl (fun hc => ?_) (fun hc => (absurd (nI_le (a := k) (b := i) (by omega) (by omega)) hc))
          refine g_iinc (j := 2) (v := nI t + (-1)) (L' := [(0, .ref 0), (1, .int (nI S)), (2, .int (nI t + (-1))), (3, .ref (174 + (t + 1))), (4, .ref (174 + t)), (5, .int (nI i))]) (pc' := 159) dX11_weighPartings_156 rfl rfl (by decide) rfl rfl ?_
          refine g_goto (tgt := 36) dX11_weighPartings_159 (by decide) ?_
          refine g_less (L' := [(0, .ref 0), (1, .int (nI S)), (2, .int (nI t + (-1)))]) [0, 1, 2] rfl ?_
          obtain rfl : i = k := by omega
          refine ih _ M3 (by omega) (Int32.sub_eq_add_neg _ _).symm (fun m m1 m2 g hg => ?_) (fun a ha => by rw [h3f a (by omega)]; exact hf a ha)
          by_cases e : m = t
          · subst e; rw [h3a g hg, hrow]
          · rw [h3f (174 + m) (by omega)]; exact hT m (by omega) m2 g hg
        | succ j ihj =>
          intro i M3 hij h3a h3f
          have hc3 : IsC M3 14 n k P := hc0.keep (fun a a1 a2 => by rw [h3f a (by omega)]; exact hf a (by omega))
          refine g_iload (j := 5) (pc' := 71) dX11_weighPartings_69 rfl rfl ?_
          refine g_aload_n (j := 0) (pc' := 72) dX11_weighPartings_71 rfl rfl ?_
          refine g_getR (pc' := 75) dX11_weighPartings_72 fX11_28 rfl rfl rfl ?_
          refine g_getI (pc' := 78) dX11_weighPartings_75 fX11_86 rfl rfl rfl ?_
          refine g_top (y := nI k) (hc3.2.1) ?_
          refine g_icmp_ge (tgt := 156) (pc' := 81) dX11_weighPartings_78 (by decide) rfl (fun hc => (absurd hc (nI_ge (a := i) (b := k) (by omega) (by omega)))) (fun hc => ?_)
          obtain ⟨qk, hqk, eqk⟩ := (hok.2.2.2.2.1 t (by omega)).1
          refine g_aload_n (j := 0) (pc' := 82) dX11_weighPartings_81 rfl rfl ?_
          refine g_getR (pc' := 85) dX11_weighPartings_82 fX11_10 rfl rfl rfl ?_
          refine g_aload_n (j := 0) (pc' := 86) dX11_weighPartings_85 rfl rfl ?_
          refine g_getR (pc' := 89) dX11_weighPartings_86 fX11_28 rfl rfl rfl ?_
          refine g_iload_n (j := 2) (pc' := 90) dX11_weighPartings_89 rfl rfl ?_
          refine g_iload (j := 5) (pc' := 92) dX11_weighPartings_90 rfl rfl ?_
          refine g_callV (my := mX0_esteem) (k := 1) (st := []) (av := [.ref 14, .int (nI t), .int (nI i)]) (mcr := 0) (msr := 0) (mc := 0) (ms := 0) (pc' := 95) dX11_weighPartings_92 kX0_esteem wX11_140 rfl ⟨rfl, rfl⟩ rfl (Nat.le_of_ble_eq_true rfl) (by decide) (s_esteem (p := 14) par14 (m := t) (n := i) (by omega) (by omega) (by rw [(hc3.2.2.2.2.2.1 t (by omega)).1]; exact eqk) hqk) rfl ?_
          rintro _ _ ⟨rfl, rfl⟩
          show Go mX11_weighPartings _ _ _ 95 [(0, .ref 0), (1, .int (nI S)), (2, .int (nI t)), (3, .ref (174 + (t + 1))), (4, .ref (174 + t)), (5, .int (nI i))] [.int (valK (M3 (14 + 1) t) (M3 (14 + 6) i) (M3 (14 + 7) i) (decide (t = i)))] (SK, M3, N) _
          refine g_bipush (v := 100) (pc' := 97) dX11_weighPartings_95 (by decide) rfl ?_
          refine g_iadd (pc' := 98) dX11_weighPartings_97 rfl ?_
          refine g_top (y := nI (v t i)) (by rw [(hc3.2.2.2.2.2.1 t (by omega)).1, (hc3.2.2.2.2.2.2 i (by omega)).1, (hc3.2.2.2.2.2.2 i (by omega)).2]; exact hvq (by omega) (by omega)) ?_
          refine g_istore (L' := [(0, .ref 0), (1, .int (nI S)), (2, .int (nI t)), (3, .ref (174 + (t + 1))), (4, .ref (174 + t)), (5, .int (nI i)), (6, .int (nI (v t i)))]) (pc' := 100) dX11_weighPartings_98 (by decide) rfl rfl ?_
          refine g_iconst (v := 0) (pc' := 101) dX11_weighPartings_100 (by decide) rfl ?_
          refine g_istore (L' := [(0, .ref 0), (1, .int (nI S)), (2, .int (nI t)), (3, .ref (174 + (t + 1))), (4, .ref (174 + t)), (5, .int (nI i)), (6, .int (nI (v t i))), (7, .int 0)]) (pc' := 103) dX11_weighPartings_101 (by decide) rfl rfl ?_
          have inn : ∀ (l g : Nat) (M4 : Nat → Nat → Int32), g + l = S → (∀ g', g' < S → M4 (174 + t) g' = nI (if g' < g then tB (v t) later (i + 1) g' else tB (v t) later i g')) → (∀ a, a ≠ 174 + t → M4 a = M1 a) → Go mX11_weighPartings 20 0 0 103 [(0, .ref 0), (1, .int (nI S)), (2, .int (nI t)), (3, .ref (174 + (t + 1))), (4, .ref (174 + t)), (5, .int (nI i)), (6, .int (nI (v t i))), (7, .int (nI g))] [] (SK, M4, N) (fun r h' => ∃ M', h' = (SK, M', N) ∧ r = none ∧ (∀ m, 0 ≤ m → m ≤ n → ∀ g, g < S → M' (174 + m) g = nI (pT v k (n - m) m g)) ∧ ∀ a, (a < 174 ∨ 181 ≤ a) → M' a = M a) := by
            intro l
            induction l with
            | zero =>
              intro g M4 hgl h4a h4f
              refine g_iload (j := 7) (pc' := 105) dX11_weighPartings_103 rfl rfl ?_
              refine g_iload_n (j := 1) (pc' := 106) dX11_weighPartings_105 rfl rfl ?_
              refine g_icmp_ge (tgt := 150) (pc' := 109) dX11_weighPartings_106 (by decide) rfl (fun hc => ?_) (fun hc => (absurd (nI_le (a := S) (b := g) (by omega) (by omega)) hc))
              refine g_iinc (j := 5) (v := nI (i + 1)) (L' := [(0, .ref 0), (1, .int (nI S)), (2, .int (nI t)), (3, .ref (174 + (t + 1))), (4, .ref (174 + t)), (5, .int (nI (i + 1))), (6, .int (nI (v t i))), (7, .int (nI g))]) (pc' := 153) dX11_weighPartings_150 rfl (nI_1 i) (by decide) rfl rfl ?_
              refine g_goto (tgt := 69) dX11_weighPartings_153 (by decide) ?_
              refine g_less (L' := [(0, .ref 0), (1, .int (nI S)), (2, .int (nI t)), (3, .ref (174 + (t + 1))), (4, .ref (174 + t)), (5, .int (nI (i + 1)))]) [0, 1, 2, 3, 4, 5] rfl ?_
              exact ihj (i + 1) M4 (by omega) (fun g' hg' => by rw [h4a g' hg', if_pos (by omega)]) h4f
            | succ l ihl =>
              intro g M4 hgl h4a h4f
              refine g_iload (j := 7) (pc' := 105) dX11_weighPartings_103 rfl rfl ?_
              refine g_iload_n (j := 1) (pc' := 106) dX11_weighPartings_105 rfl rfl ?_
              refine g_icmp_ge (tgt := 150) (pc' := 109) dX11_weighPartings_106 (by decide) rfl (fun hc => (absurd hc (nI_ge (a := g) (b := S) (by omega) (by omega)))) (fun hc => ?_)
              have htB : ∀ g, tB (v t) later i g ≤ 149 * 6 + 149 := fun g => tB_le hlate (hv t) i g
              have hvt := hv t i
              refine g_iload (j := 7) (pc' := 111) dX11_weighPartings_109 rfl rfl ?_
              refine g_iload (j := 5) (pc' := 113) dX11_weighPartings_111 rfl rfl ?_
              refine g_ishr (pc' := 114) dX11_weighPartings_113 rfl ?_
              refine g_iconst (v := 1) (pc' := 115) dX11_weighPartings_114 (by decide) rfl ?_
              refine g_iand (pc' := 116) dX11_weighPartings_115 rfl ?_
              refine g_if_ne (tgt := 144) (pc' := 119) dX11_weighPartings_116 (by decide) rfl (fun hc6 => ?_) (fun hc6 => ?_)
              · have hbit : g.testBit i = true := by
                  cases hb : g.testBit i with
                  | true => rfl
                  | false => exact absurd ((bitN (by omega) (by omega)).mpr hb) hc6
                refine g_iinc (j := 7) (v := nI (g + 1)) (L' := [(0, .ref 0), (1, .int (nI S)), (2, .int (nI t)), (3, .ref (174 + (t + 1))), (4, .ref (174 + t)), (5, .int (nI i)), (6, .int (nI (v t i))), (7, .int (nI (g + 1)))]) (pc' := 147) dX11_weighPartings_144 rfl (nI_1 g) (by decide) rfl rfl ?_
                refine g_goto (tgt := 103) dX11_weighPartings_147 (by decide) ?_
                refine ihl (g + 1) M4 (by omega) (fun g' hg' => ?_) h4f
                rw [h4a g' hg']
                by_cases e : g' = g
                · subst e
                  rw [if_neg (by omega), if_pos (by omega)]
                  conv => rhs; unfold tB
                  rw [if_pos hbit]
                · by_cases e2 : g' < g
                  · rw [if_pos e2, if_pos (by omega)]
                  · rw [if_neg e2, if_neg (by omega)]
              · have hbit : g.testBit i = false := (bitN (by omega) (by omega)).mp hc6
                have hb0 := hor (show g < S by omega) (show i < k by omega)
                have hbo : nI g ||| ((1 : Int32) <<< (nI i &&& 31)) = nI (g ||| 2 ^ i) := orbN (by omega) (by omega)
                generalize hb : g ||| 2 ^ i = b at hb0 hbo
                have hlb := hlate b
                have htg := htB g
                refine g_aload (j := 4) (pc' := 121) dX11_weighPartings_119 rfl rfl ?_
                refine g_iload (j := 7) (pc' := 123) dX11_weighPartings_121 rfl rfl ?_
                refine g_aload (j := 4) (pc' := 125) dX11_weighPartings_123 rfl rfl ?_
                refine g_iload (j := 7) (pc' := 127) dX11_weighPartings_125 rfl rfl ?_
                refine g_iald (n := g) (pc' := 128) dX11_weighPartings_127 (togAt (by omega)) rfl (by omega) rfl ?_
                refine g_top (y := nI (tB (v t) later i g)) (by rw [h4a g (by omega), if_neg (by omega)]) ?_
                refine g_iload (j := 6) (pc' := 130) dX11_weighPartings_128 rfl rfl ?_
                refine g_aload_n (j := 3) (pc' := 131) dX11_weighPartings_130 rfl rfl ?_
                refine g_iload (j := 7) (pc' := 133) dX11_weighPartings_131 rfl rfl ?_
                refine g_iconst (v := 1) (pc' := 134) dX11_weighPartings_133 (by decide) rfl ?_
                refine g_iload (j := 5) (pc' := 136) dX11_weighPartings_134 rfl rfl ?_
                refine g_ishl (pc' := 137) dX11_weighPartings_136 rfl ?_
                refine g_ior (pc' := 138) dX11_weighPartings_137 rfl ?_
                refine g_top (y := nI b) (hbo) ?_
                refine g_iald (n := b) (pc' := 139) dX11_weighPartings_138 (togAt (by omega)) rfl (by omega) rfl ?_
                refine g_top (y := nI (later b)) (by rw [h4f _ (by omega), ← hlt]; exact hT (t + 1) (Nat.le_refl _) ht b hb0) ?_
                refine g_iadd (pc' := 140) dX11_weighPartings_139 rfl ?_
                refine g_top (y := nI (v t i + later b)) (nI_add _ _) ?_
                refine g_max (st := [.int (nI g), .ref (174 + t)]) (pc' := 143) dX11_weighPartings_140 zX11_272 (Nat.le_of_ble_eq_true rfl) (by decide) rfl ?_
                refine g_top (y := nI (max (tB (v t) later i g) (v t i + later b))) (maxN (by omega) (by omega)) ?_
                refine g_iast (n := g) (pc' := 144) dX11_weighPartings_143 (togAt (by omega)) rfl (by omega) rfl ?_
                generalize hM5 : (um M4 (174 + t) g (nI (max (tB (v t) later i g) (v t i + later b)))) = M5
                refine g_iinc (j := 7) (v := nI (g + 1)) (L' := [(0, .ref 0), (1, .int (nI S)), (2, .int (nI t)), (3, .ref (174 + (t + 1))), (4, .ref (174 + t)), (5, .int (nI i)), (6, .int (nI (v t i))), (7, .int (nI (g + 1)))]) (pc' := 147) dX11_weighPartings_144 rfl (nI_1 g) (by decide) rfl rfl ?_
                refine g_goto (tgt := 103) dX11_weighPartings_147 (by decide) ?_
                refine ihl (g + 1) M5 (by omega) (fun g' hg' => ?_) (fun a ha => by rw [← hM5, um_ne ha]; exact h4f a ha)
                rw [← hM5]
                by_cases e : g' = g
                · subst e
                  rw [um_at, if_pos (by omega)]
                  conv => rhs; unfold tB
                  rw [hbit, hb]
                  rfl
                · rw [um_at2 e, h4a g' hg']
                  by_cases e2 : g' < g
                  · rw [if_pos e2, if_pos (by omega)]
                  · rw [if_neg e2, if_neg (by omega)]
          exact inn S 0 M3 (by omega) (fun g' hg' => by rw [if_neg (by omega)]; exact h3a g' hg') h3f
      exact mid k 0 M2 (by omega) (fun g hg => h2a g hg) h2f
  refine loop n _ M1 (Nat.le_refl _) rfl (fun m m1 m2 g hg => ?_) (fun a ha => hf1 a (by omega))
  obtain rfl : m = n := by omega
  rw [hz g (by omega), Nat.sub_self]
  rfl
