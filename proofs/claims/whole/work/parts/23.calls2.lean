/-! ===== count, marches, train, hire, swap, drift, undo, image, restore ===== -/
def cnt4 (P : Nat → Int32) (n : Nat) : Int32 := setF (fun m => decide (P (28 + m) ≠ -4)) n
def cnt7 (P : Nat → Int32) (n k : Nat) : Int32 := setF (fun m => ((choP P n k (P 2)).2 m).isSome) n
def cntV (P : Nat → Int32) (n k s : Nat) : Nat → Int32
  | 0 => nI n
  | 1 => nI k
  | 2 => P 3
  | 3 => P 2
  | 4 => cnt4 P n
  | 5 => sumF (fun i => P (34 + i)) k
  | 6 => sumF (fun i => P (40 + i)) k
  | 7 => cnt7 P n k
  | _ => nI s
theorem setF_congr {f g : Nat → Bool} : ∀ {n : Nat}, (∀ m, m < n → f m = g m) → setF f n = setF g n
  | 0, _ => rfl
  | n + 1, h => by
    unfold setF
    rw [h n (by omega), setF_congr (fun m hm => h m (by omega))]
theorem sumF_congr {f g : Nat → Int32} : ∀ {n : Nat}, (∀ m, m < n → f m = g m) → sumF f n = sumF g n
  | 0, _ => rfl
  | n + 1, h => by
    unfold sumF
    rw [h n (by omega), sumF_congr (fun m hm => h m (by omega))]
theorem un_m1 {n k : Nat} {P : Nat → Int32} (h : OkP n k P) {m : Nat} (hm : m < n) : decide (unN (P (28 + m)) ≠ -1) = decide (P (28 + m) ≠ -4) := by
  have hk := h.2.1
  rcases clP_of h hm with ⟨c0, -, c2⟩ | ⟨i, hi, c0, -, c2⟩
  · rw [c2, c0]; rfl
  · rw [c2, c0]
    have e1 : ¬ nI i = -4 := by
      intro q
      have h2 := congrArg Int32.toInt q
      rw [nI_toInt (by omega)] at h2
      have h4 : (-4 : Int32).toInt = -4 := by decide
      omega
    rw [decide_eq_true (nI_ne_m1 (by omega)), decide_eq_true e1]
theorem set_called {M : Nat → Nat → Int32} {n k : Nat} {P : Nat → Int32} (h : OkP n k P) (hc : IsC M 14 n k P) : setF (fun m => decide (M 19 m ≠ -1)) n = cnt4 P n := setF_congr fun m hm => by
  rw [show M 19 m = unN (P (28 + m)) from (hc.2.2.2.2.2.1 m hm).2.2.2.2]
  exact un_m1 h hm
set_option maxRecDepth 100000 in
set_option maxHeartbeats 1000000 in
theorem c_count_b {M : Nat → Nat → Int32} {N : Nat → Nat → Int64} {n k : Nat} {P : Nat → Int32} {pa : List (Nat → Int32)} {kp : Option YS} {tp : List Int32} {sh : Nat → Option (Nat × Nat × (Nat → Int64))} (hA : AOk ((n, k, P, pa), kp, tp, sh)) (hI : CI M N ((n, k, P, pa), kp, tp, sh)) {u : Int32} (h1 : u.toInt < 0 ∨ 8 < u.toInt) : Run mX11_count 30 0 0 [.ref 0, .int u] (SK, M, N) (CQ M N (-1) ((n, k, P, pa), kp, tp, sh)) := by
  refine Run.of (by decide) (Nat.le_of_ble_eq_true rfl) ?_
  have hok : OkP n k P := hA.1.1.1
  have hc0 : IsC M 14 n k P := hI.1.1
  have hn6 := hok.1
  have hk6 := hok.2.1
  refine g_iload_n (j := 1) (pc' := 1) dX11_count_0 rfl rfl ?_
  refine g_tblOut (tgt := 159) dX11_count_1 (h1) (by decide) ?_
  refine g_iconst (v := (-1)) (pc' := 160) dX11_count_159 (by decide) rfl ?_
  exact g_iret dX11_count_160 rfl rfl (CQ.same hI)
set_option maxRecDepth 100000 in
set_option maxHeartbeats 1000000 in
theorem c_count_0 {M : Nat → Nat → Int32} {N : Nat → Nat → Int64} {n k : Nat} {P : Nat → Int32} {pa : List (Nat → Int32)} {kp : Option YS} {tp : List Int32} {sh : Nat → Option (Nat × Nat × (Nat → Int64))} (hA : AOk ((n, k, P, pa), kp, tp, sh)) (hI : CI M N ((n, k, P, pa), kp, tp, sh))  : Run mX11_count 30 0 0 [.ref 0, .int (nI 0)] (SK, M, N) (CQ M N (cntV P n k pa.length 0) ((n, k, P, pa), kp, tp, sh)) := by
  refine Run.of (by decide) (Nat.le_of_ble_eq_true rfl) ?_
  have hok : OkP n k P := hA.1.1.1
  have hc0 : IsC M 14 n k P := hI.1.1
  have hn6 := hok.1
  have hk6 := hok.2.1
  refine g_iload_n (j := 1) (pc' := 1) dX11_count_0 rfl rfl ?_
  refine g_tblIn (off := 51) (tgt := 52) dX11_count_1 (by decide) (by decide) (by decide) (by decide) ?_
  refine g_aload_n (j := 0) (pc' := 53) dX11_count_52 rfl rfl ?_
  refine g_getR (pc' := 56) dX11_count_53 fX11_28 rfl rfl rfl ?_
  refine g_getI (pc' := 59) dX11_count_56 fX11_75 rfl rfl rfl ?_
  refine g_top (y := nI n) (hc0.1) ?_
  exact g_iret dX11_count_59 rfl rfl (CQ.same hI)
set_option maxRecDepth 100000 in
set_option maxHeartbeats 1000000 in
theorem c_count_1 {M : Nat → Nat → Int32} {N : Nat → Nat → Int64} {n k : Nat} {P : Nat → Int32} {pa : List (Nat → Int32)} {kp : Option YS} {tp : List Int32} {sh : Nat → Option (Nat × Nat × (Nat → Int64))} (hA : AOk ((n, k, P, pa), kp, tp, sh)) (hI : CI M N ((n, k, P, pa), kp, tp, sh))  : Run mX11_count 30 0 0 [.ref 0, .int (nI 1)] (SK, M, N) (CQ M N (cntV P n k pa.length 1) ((n, k, P, pa), kp, tp, sh)) := by
  refine Run.of (by decide) (Nat.le_of_ble_eq_true rfl) ?_
  have hok : OkP n k P := hA.1.1.1
  have hc0 : IsC M 14 n k P := hI.1.1
  have hn6 := hok.1
  have hk6 := hok.2.1
  refine g_iload_n (j := 1) (pc' := 1) dX11_count_0 rfl rfl ?_
  refine g_tblIn (off := 59) (tgt := 60) dX11_count_1 (by decide) (by decide) (by decide) (by decide) ?_
  refine g_aload_n (j := 0) (pc' := 61) dX11_count_60 rfl rfl ?_
  refine g_getR (pc' := 64) dX11_count_61 fX11_28 rfl rfl rfl ?_
  refine g_getI (pc' := 67) dX11_count_64 fX11_86 rfl rfl rfl ?_
  refine g_top (y := nI k) (hc0.2.1) ?_
  exact g_iret dX11_count_67 rfl rfl (CQ.same hI)
set_option maxRecDepth 100000 in
set_option maxHeartbeats 1000000 in
theorem c_count_2 {M : Nat → Nat → Int32} {N : Nat → Nat → Int64} {n k : Nat} {P : Nat → Int32} {pa : List (Nat → Int32)} {kp : Option YS} {tp : List Int32} {sh : Nat → Option (Nat × Nat × (Nat → Int64))} (hA : AOk ((n, k, P, pa), kp, tp, sh)) (hI : CI M N ((n, k, P, pa), kp, tp, sh))  : Run mX11_count 30 0 0 [.ref 0, .int (nI 2)] (SK, M, N) (CQ M N (cntV P n k pa.length 2) ((n, k, P, pa), kp, tp, sh)) := by
  refine Run.of (by decide) (Nat.le_of_ble_eq_true rfl) ?_
  have hok : OkP n k P := hA.1.1.1
  have hc0 : IsC M 14 n k P := hI.1.1
  have hn6 := hok.1
  have hk6 := hok.2.1
  refine g_iload_n (j := 1) (pc' := 1) dX11_count_0 rfl rfl ?_
  refine g_tblIn (off := 67) (tgt := 68) dX11_count_1 (by decide) (by decide) (by decide) (by decide) ?_
  refine g_aload_n (j := 0) (pc' := 69) dX11_count_68 rfl rfl ?_
  refine g_getR (pc' := 72) dX11_count_69 fX11_28 rfl rfl rfl ?_
  refine g_getI (pc' := 75) dX11_count_72 fX11_164 rfl rfl rfl ?_
  refine g_top (y := P 3) (hc0.2.2.2.1) ?_
  exact g_iret dX11_count_75 rfl rfl (CQ.same hI)
set_option maxRecDepth 100000 in
set_option maxHeartbeats 1000000 in
theorem c_count_3 {M : Nat → Nat → Int32} {N : Nat → Nat → Int64} {n k : Nat} {P : Nat → Int32} {pa : List (Nat → Int32)} {kp : Option YS} {tp : List Int32} {sh : Nat → Option (Nat × Nat × (Nat → Int64))} (hA : AOk ((n, k, P, pa), kp, tp, sh)) (hI : CI M N ((n, k, P, pa), kp, tp, sh))  : Run mX11_count 30 0 0 [.ref 0, .int (nI 3)] (SK, M, N) (CQ M N (cntV P n k pa.length 3) ((n, k, P, pa), kp, tp, sh)) := by
  refine Run.of (by decide) (Nat.le_of_ble_eq_true rfl) ?_
  have hok : OkP n k P := hA.1.1.1
  have hc0 : IsC M 14 n k P := hI.1.1
  have hn6 := hok.1
  have hk6 := hok.2.1
  refine g_iload_n (j := 1) (pc' := 1) dX11_count_0 rfl rfl ?_
  refine g_tblIn (off := 75) (tgt := 76) dX11_count_1 (by decide) (by decide) (by decide) (by decide) ?_
  refine g_aload_n (j := 0) (pc' := 77) dX11_count_76 rfl rfl ?_
  refine g_getR (pc' := 80) dX11_count_77 fX11_28 rfl rfl rfl ?_
  refine g_getI (pc' := 83) dX11_count_80 fX11_117 rfl rfl rfl ?_
  refine g_top (y := P 2) (hc0.2.2.1) ?_
  exact g_iret dX11_count_83 rfl rfl (CQ.same hI)
set_option maxRecDepth 100000 in
set_option maxHeartbeats 1000000 in
theorem c_count_4 {M : Nat → Nat → Int32} {N : Nat → Nat → Int64} {n k : Nat} {P : Nat → Int32} {pa : List (Nat → Int32)} {kp : Option YS} {tp : List Int32} {sh : Nat → Option (Nat × Nat × (Nat → Int64))} (hA : AOk ((n, k, P, pa), kp, tp, sh)) (hI : CI M N ((n, k, P, pa), kp, tp, sh))  : Run mX11_count 30 0 0 [.ref 0, .int (nI 4)] (SK, M, N) (CQ M N (cntV P n k pa.length 4) ((n, k, P, pa), kp, tp, sh)) := by
  refine Run.of (by decide) (Nat.le_of_ble_eq_true rfl) ?_
  have hok : OkP n k P := hA.1.1.1
  have hc0 : IsC M 14 n k P := hI.1.1
  have hn6 := hok.1
  have hk6 := hok.2.1
  refine g_iload_n (j := 1) (pc' := 1) dX11_count_0 rfl rfl ?_
  refine g_tblIn (off := 83) (tgt := 84) dX11_count_1 (by decide) (by decide) (by decide) (by decide) ?_
  refine g_aload_n (j := 0) (pc' := 85) dX11_count_84 rfl rfl ?_
  refine g_aload_n (j := 0) (pc' := 86) dX11_count_85 rfl rfl ?_
  refine g_getR (pc' := 89) dX11_count_86 fX11_28 rfl rfl rfl ?_
  refine g_getR (pc' := 92) dX11_count_89 fX11_110 rfl rfl rfl ?_
  refine g_callV (my := mX11_setOfNamed) (k := 0) (st := []) (av := [.ref 19]) (mcr := 0) (msr := 0) (mc := 0) (ms := 0) (pc' := 95) dX11_count_92 kX11_setOfNamed wX11_167 rfl ⟨rfl, rfl⟩ rfl (Nat.le_of_ble_eq_true rfl) (by decide) (s_setOf (c := 19) rfl hc0.1 hn6) rfl ?_
  rintro _ _ ⟨rfl, rfl⟩
  show Go mX11_count _ _ _ 95 [(0, .ref 0), (1, .int (nI 4))] [.int (setF (fun m => decide (M 19 m ≠ -1)) n)] (SK, M, N) _
  refine g_top (y := cnt4 P n) (set_called hok hc0) ?_
  exact g_iret dX11_count_95 rfl rfl (CQ.same hI)
set_option maxRecDepth 100000 in
set_option maxHeartbeats 1000000 in
theorem c_count_5 {M : Nat → Nat → Int32} {N : Nat → Nat → Int64} {n k : Nat} {P : Nat → Int32} {pa : List (Nat → Int32)} {kp : Option YS} {tp : List Int32} {sh : Nat → Option (Nat × Nat × (Nat → Int64))} (hA : AOk ((n, k, P, pa), kp, tp, sh)) (hI : CI M N ((n, k, P, pa), kp, tp, sh))  : Run mX11_count 30 0 0 [.ref 0, .int (nI 5)] (SK, M, N) (CQ M N (cntV P n k pa.length 5) ((n, k, P, pa), kp, tp, sh)) := by
  refine Run.of (by decide) (Nat.le_of_ble_eq_true rfl) ?_
  have hok : OkP n k P := hA.1.1.1
  have hc0 : IsC M 14 n k P := hI.1.1
  have hn6 := hok.1
  have hk6 := hok.2.1
  refine g_iload_n (j := 1) (pc' := 1) dX11_count_0 rfl rfl ?_
  refine g_tblIn (off := 95) (tgt := 96) dX11_count_1 (by decide) (by decide) (by decide) (by decide) ?_
  refine g_aload_n (j := 0) (pc' := 97) dX11_count_96 rfl rfl ?_
  refine g_aload_n (j := 0) (pc' := 98) dX11_count_97 rfl rfl ?_
  refine g_getR (pc' := 101) dX11_count_98 fX11_28 rfl rfl rfl ?_
  refine g_getR (pc' := 104) dX11_count_101 fX11_131 rfl rfl rfl ?_
  refine g_callV (my := mX11_sum) (k := 0) (st := []) (av := [.ref 20]) (mcr := 0) (msr := 0) (mc := 0) (ms := 0) (pc' := 107) dX11_count_104 kX11_sum wX11_171 rfl ⟨rfl, rfl⟩ rfl (Nat.le_of_ble_eq_true rfl) (by decide) (s_sum (c := 20) rfl hc0.2.1 hk6) rfl ?_
  rintro _ _ ⟨rfl, rfl⟩
  show Go mX11_count _ _ _ 107 [(0, .ref 0), (1, .int (nI 5))] [.int (sumF (M 20) k)] (SK, M, N) _
  refine g_top (y := sumF (fun i => P (34 + i)) k) (sumF_congr fun i hi => (hc0.2.2.2.2.2.2 i hi).1) ?_
  exact g_iret dX11_count_107 rfl rfl (CQ.same hI)
set_option maxRecDepth 100000 in
set_option maxHeartbeats 1000000 in
theorem c_count_6 {M : Nat → Nat → Int32} {N : Nat → Nat → Int64} {n k : Nat} {P : Nat → Int32} {pa : List (Nat → Int32)} {kp : Option YS} {tp : List Int32} {sh : Nat → Option (Nat × Nat × (Nat → Int64))} (hA : AOk ((n, k, P, pa), kp, tp, sh)) (hI : CI M N ((n, k, P, pa), kp, tp, sh))  : Run mX11_count 30 0 0 [.ref 0, .int (nI 6)] (SK, M, N) (CQ M N (cntV P n k pa.length 6) ((n, k, P, pa), kp, tp, sh)) := by
  refine Run.of (by decide) (Nat.le_of_ble_eq_true rfl) ?_
  have hok : OkP n k P := hA.1.1.1
  have hc0 : IsC M 14 n k P := hI.1.1
  have hn6 := hok.1
  have hk6 := hok.2.1
  refine g_iload_n (j := 1) (pc' := 1) dX11_count_0 rfl rfl ?_
  refine g_tblIn (off := 107) (tgt := 108) dX11_count_1 (by decide) (by decide) (by decide) (by decide) ?_
  refine g_aload_n (j := 0) (pc' := 109) dX11_count_108 rfl rfl ?_
  refine g_aload_n (j := 0) (pc' := 110) dX11_count_109 rfl rfl ?_
  refine g_getR (pc' := 113) dX11_count_110 fX11_28 rfl rfl rfl ?_
  refine g_getR (pc' := 116) dX11_count_113 fX11_134 rfl rfl rfl ?_
  refine g_callV (my := mX11_sum) (k := 0) (st := []) (av := [.ref 21]) (mcr := 0) (msr := 0) (mc := 0) (ms := 0) (pc' := 119) dX11_count_116 kX11_sum wX11_171 rfl ⟨rfl, rfl⟩ rfl (Nat.le_of_ble_eq_true rfl) (by decide) (s_sum (c := 21) rfl hc0.2.1 hk6) rfl ?_
  rintro _ _ ⟨rfl, rfl⟩
  show Go mX11_count _ _ _ 119 [(0, .ref 0), (1, .int (nI 6))] [.int (sumF (M 21) k)] (SK, M, N) _
  refine g_top (y := sumF (fun i => P (40 + i)) k) (sumF_congr fun i hi => (hc0.2.2.2.2.2.2 i hi).2) ?_
  exact g_iret dX11_count_119 rfl rfl (CQ.same hI)
set_option maxRecDepth 100000 in
set_option maxHeartbeats 1000000 in
theorem c_count_7 {M : Nat → Nat → Int32} {N : Nat → Nat → Int64} {n k : Nat} {P : Nat → Int32} {pa : List (Nat → Int32)} {kp : Option YS} {tp : List Int32} {sh : Nat → Option (Nat × Nat × (Nat → Int64))} (hA : AOk ((n, k, P, pa), kp, tp, sh)) (hI : CI M N ((n, k, P, pa), kp, tp, sh))  : Run mX11_count 30 0 0 [.ref 0, .int (nI 7)] (SK, M, N) (CQ M N (cntV P n k pa.length 7) ((n, k, P, pa), kp, tp, sh)) := by
  refine Run.of (by decide) (Nat.le_of_ble_eq_true rfl) ?_
  have hok : OkP n k P := hA.1.1.1
  have hc0 : IsC M 14 n k P := hI.1.1
  have hn6 := hok.1
  have hk6 := hok.2.1
  refine g_iload_n (j := 1) (pc' := 1) dX11_count_0 rfl rfl ?_
  refine g_tblIn (off := 119) (tgt := 120) dX11_count_1 (by decide) (by decide) (by decide) (by decide) ?_
  refine g_aload_n (j := 0) (pc' := 121) dX11_count_120 rfl rfl ?_
  refine g_getR (pc' := 124) dX11_count_121 fX11_10 rfl rfl rfl ?_
  refine g_aload_n (j := 0) (pc' := 125) dX11_count_124 rfl rfl ?_
  refine g_getR (pc' := 128) dX11_count_125 fX11_28 rfl rfl rfl ?_
  refine g_aload_n (j := 0) (pc' := 129) dX11_count_128 rfl rfl ?_
  refine g_getR (pc' := 132) dX11_count_129 fX11_28 rfl rfl rfl ?_
  refine g_getI (pc' := 135) dX11_count_132 fX11_117 rfl rfl rfl ?_
  rw [hc0.2.2.1]
  refine g_callV (my := mX0_make) (k := 1) (st := []) (av := [.ref 14, .int (P 2)]) (mcr := 0) (msr := 0) (mc := 0) (ms := 0) (pc' := 138) dX11_count_135 kX0_make wX11_174 rfl ⟨rfl, rfl⟩ rfl (Nat.le_of_ble_eq_true rfl) (by decide) (s_make isPar14 hok hc0 (P 2)) rfl ?_
  rintro _ _ ⟨M1, rfl, rfl, h8, h9, h10, hf⟩
  show Go mX11_count _ _ _ 138 [(0, .ref 0), (1, .int (nI 7))] [.int ((choP P n k (P 2)).1)] (SK, M1, N) _
  have hc1 : IsC M1 14 n k P := hc0.keep (fun a a1 a2 => hf a (by omega) (by omega) (by omega))
  refine g_pop (pc' := 139) dX11_count_138 rfl rfl ?_
  refine g_aload_n (j := 0) (pc' := 140) dX11_count_139 rfl rfl ?_
  refine g_aload_n (j := 0) (pc' := 141) dX11_count_140 rfl rfl ?_
  refine g_getR (pc' := 144) dX11_count_141 fX11_10 rfl rfl rfl ?_
  refine g_getR (pc' := 147) dX11_count_144 fX11_177 rfl rfl rfl ?_
  refine g_callV (my := mX11_setOfNamed) (k := 0) (st := []) (av := [.ref 10]) (mcr := 0) (msr := 0) (mc := 0) (ms := 0) (pc' := 150) dX11_count_147 kX11_setOfNamed wX11_167 rfl ⟨rfl, rfl⟩ rfl (Nat.le_of_ble_eq_true rfl) (by decide) (s_setOf (c := 10) rfl hc1.1 hn6) rfl ?_
  rintro _ _ ⟨rfl, rfl⟩
  show Go mX11_count _ _ _ 150 [(0, .ref 0), (1, .int (nI 7))] [.int (setF (fun m => decide (M1 10 m ≠ -1)) n)] (SK, M1, N) _
  refine g_top (y := cnt7 P n k) (setF_congr fun m hm => by
      rw [h10 m hm]
      cases hc : (choP P n k (P 2)).2 m with
      | none => rfl
      | some i => have := choP_lt hc; exact decide_eq_true (nI_ne_m1 (by omega))) ?_
  exact g_iret dX11_count_150 rfl rfl (CQ.tmp hI (fun a ha => hf a (by unfold tmpC at ha; omega) (by unfold tmpC at ha; omega) (by unfold tmpC at ha; omega)))
set_option maxRecDepth 100000 in
set_option maxHeartbeats 1000000 in
theorem c_count_8 {M : Nat → Nat → Int32} {N : Nat → Nat → Int64} {n k : Nat} {P : Nat → Int32} {pa : List (Nat → Int32)} {kp : Option YS} {tp : List Int32} {sh : Nat → Option (Nat × Nat × (Nat → Int64))} (hA : AOk ((n, k, P, pa), kp, tp, sh)) (hI : CI M N ((n, k, P, pa), kp, tp, sh))  : Run mX11_count 30 0 0 [.ref 0, .int (nI 8)] (SK, M, N) (CQ M N (cntV P n k pa.length 8) ((n, k, P, pa), kp, tp, sh)) := by
  refine Run.of (by decide) (Nat.le_of_ble_eq_true rfl) ?_
  have hok : OkP n k P := hA.1.1.1
  have hc0 : IsC M 14 n k P := hI.1.1
  have hn6 := hok.1
  have hk6 := hok.2.1
  refine g_iload_n (j := 1) (pc' := 1) dX11_count_0 rfl rfl ?_
  refine g_tblIn (off := 150) (tgt := 151) dX11_count_1 (by decide) (by decide) (by decide) (by decide) ?_
  refine g_aload_n (j := 0) (pc' := 152) dX11_count_151 rfl rfl ?_
  refine g_getR (pc' := 155) dX11_count_152 fX11_35 rfl rfl rfl ?_
  refine g_getI (pc' := 158) dX11_count_155 fX11_180 rfl rfl rfl ?_
  obtain ⟨wv, hw8, hw, hs, -⟩ := hI.1.2
  refine g_top (y := nI pa.length) (hs) ?_
  exact g_iret dX11_count_158 rfl rfl (CQ.same hI)
/-- what is kept behind a deed: the latest 8 -/
def keepL (P : Nat → Int32) (pa : List (Nat → Int32)) : List (Nat → Int32) := (P :: pa).take 8
theorem keepL_len (P : Nat → Int32) (pa : List (Nat → Int32)) : (keepL P pa).length = min (pa.length + 1) 8 := by
  unfold keepL; rw [List.length_take, List.length_cons, Nat.min_comm]
theorem IsC.copied2 {M M' : Nat → Nat → Int32} {p q n k : Nat} {P : Nat → Int32} (hn : n ≤ 6) (hk : k ≤ 6) (h : IsC M q n k P) (c1 : ∀ j, j < 5 → M' p j = M q j) (c2 : ∀ i j, 1 ≤ i → i ≤ 7 → j < 6 → M' (p + i) j = M (q + i) j) : IsC M' p n k P := by
  obtain ⟨h0, h1, h2, h3, h4, h5, h6⟩ := h
  refine ⟨by rw [c1 0 (by omega)]; exact h0, by rw [c1 1 (by omega)]; exact h1, by rw [c1 2 (by omega)]; exact h2, by rw [c1 3 (by omega)]; exact h3, by rw [c1 4 (by omega)]; exact h4, fun m hm => ?_, fun i hi => ?_⟩
  · rw [c2 1 m (by omega) (by omega) (by omega), c2 2 m (by omega) (by omega) (by omega), c2 3 m (by omega) (by omega) (by omega), c2 4 m (by omega) (by omega) (by omega), c2 5 m (by omega) (by omega) (by omega)]
    exact h5 m hm
  · rw [c2 6 i (by omega) (by omega) (by omega), c2 7 i (by omega) (by omega) (by omega)]
    exact h6 i hi
/-- Past.keep(now): the past has P ahead of all; now is as it was -/
theorem YC.kept {M M' : Nat → Nat → Int32} {n k w : Nat} {P : Nat → Int32} {pa : List (Nat → Int32)} (hn : n ≤ 6) (hk : k ≤ 6) (h : IsC M 14 n k P) (hw : w < 8) (hs : pa.length ≤ 8) (g4 : ∀ i Q, pa[i]? = some Q → IsC M (22 + 2 + 8 * ((w + 8 - i) % 8)) n k Q) (hK : Kept M M' w pa.length) : YC M' 14 22 (n, k, P, keepL P pa) := by
  obtain ⟨k1, k2, k3, k4, k5⟩ := hK
  refine ⟨h.keep (fun a a1 a2 => k5 a (by omega) (by omega)), (w + 1) % 8, by omega, k1, by rw [k2, keepL_len], fun i Q hi => ?_⟩
  have hi8 : i < 8 := by
    have h9 := (List.getElem?_eq_some_iff.mp hi).1
    rw [keepL_len] at h9
    omega
  cases i with
  | zero =>
    have e : Q = P := by
      unfold keepL at hi
      simp at hi
      exact hi.symm
    subst e
    rw [show 22 + 2 + 8 * (((w + 1) % 8 + 8 - 0) % 8) = 24 + 8 * ((w + 1) % 8) by omega]
    exact h.copied2 hn hk k3 k4
  | succ i =>
    have hi2 : pa[i]? = some Q := by
      unfold keepL at hi
      rw [List.getElem?_take, if_pos hi8, List.getElem?_cons_succ] at hi
      exact hi
    have h9 := g4 i Q hi2
    rw [show (w + 8 - i) % 8 = ((w + 1) % 8 + 8 - (i + 1)) % 8 by omega] at h9
    exact h9.keep (fun a a1 a2 => k5 a (by omega) (by omega))
theorem CI.keepDone {M M' : Nat → Nat → Int32} {N : Nat → Nat → Int64} {n k w : Nat} {P : Nat → Int32} {pa : List (Nat → Int32)} {kp : Option YS} {tp : List Int32} {sh : Nat → Option (Nat × Nat × (Nat → Int64))} (hA : AOk ((n, k, P, pa), kp, tp, sh)) (hI : CI M N ((n, k, P, pa), kp, tp, sh)) (hw : w < 8) (hs : M 22 1 = nI w) (hK : Kept M M' w pa.length) : YC M' 14 22 (n, k, P, keepL P pa) := by
  obtain ⟨h1, w', hw', hs', -, g4⟩ := hI.1
  have e : w' = w := (nI_eq (by omega) (by omega)).mp (hs'.symm.trans hs)
  subst e
  exact YC.kept hA.1.1.1.1 hA.1.1.1.2.1 h1 hw hA.1.2.1 g4 hK
theorem IsC.hand {M : Nat → Nat → Int32} {n k m : Nat} {P : Nat → Int32} (h : IsC M 14 n k P) (hn : n ≤ 6) (hk : k ≤ 6) (hm : m < n) (x : Int32) : IsC (um M 16 m x) 14 n k (upP P (10 + m) x) := by
  obtain ⟨e0, e1, e2, e3, e4, e5, e6⟩ := h
  refine ⟨by rw [um_ne (by omega)]; exact e0, by rw [um_ne (by omega)]; exact e1, by rw [um_ne (by omega), upP_ne (by omega)]; exact e2, by rw [um_ne (by omega), upP_ne (by omega)]; exact e3, by rw [um_ne (by omega), upP_ne (by omega)]; exact e4, fun j hj => ?_, fun i hi => ?_⟩
  · by_cases e : j = m
    · subst e
      have h9 := e5 j hj
      simp (disch := omega) only [upP_ne, upP_at, um_ne]
      exact ⟨h9.1, um_at, h9.2.2⟩
    · have h9 := e5 j hj
      simp (disch := omega) only [upP_ne, um_ne]
      exact ⟨h9.1, (um_at2 e).trans h9.2.1, h9.2.2⟩
  · simp (disch := omega) only [upP_ne, um_ne]; exact e6 i hi
theorem IsC.oxen {M : Nat → Nat → Int32} {n k m : Nat} {P : Nat → Int32} (h : IsC M 14 n k P) (hn : n ≤ 6) (hk : k ≤ 6) (hm : m < n) (x : Int32) : IsC (um M 17 m x) 14 n k (upP P (16 + m) x) := by
  obtain ⟨e0, e1, e2, e3, e4, e5, e6⟩ := h
  refine ⟨by rw [um_ne (by omega)]; exact e0, by rw [um_ne (by omega)]; exact e1, by rw [um_ne (by omega), upP_ne (by omega)]; exact e2, by rw [um_ne (by omega), upP_ne (by omega)]; exact e3, by rw [um_ne (by omega), upP_ne (by omega)]; exact e4, fun j hj => ?_, fun i hi => ?_⟩
  · by_cases e : j = m
    · subst e
      have h9 := e5 j hj
      simp (disch := omega) only [upP_ne, upP_at, um_ne]
      exact ⟨h9.1, h9.2.1, um_at, h9.2.2.2⟩
    · have h9 := e5 j hj
      simp (disch := omega) only [upP_ne, um_ne]
      exact ⟨h9.1, h9.2.1, (um_at2 e).trans h9.2.2.1, h9.2.2.2⟩
  · simp (disch := omega) only [upP_ne, um_ne]; exact e6 i hi
theorem IsC.call {M : Nat → Nat → Int32} {n k m : Nat} {P : Nat → Int32} (h : IsC M 14 n k P) (hn : n ≤ 6) (hk : k ≤ 6) (hm : m < n) (x : Int32) : IsC (um M 19 m (unN x)) 14 n k (upP P (28 + m) x) := by
  obtain ⟨e0, e1, e2, e3, e4, e5, e6⟩ := h
  refine ⟨by rw [um_ne (by omega)]; exact e0, by rw [um_ne (by omega)]; exact e1, by rw [um_ne (by omega), upP_ne (by omega)]; exact e2, by rw [um_ne (by omega), upP_ne (by omega)]; exact e3, by rw [um_ne (by omega), upP_ne (by omega)]; exact e4, fun j hj => ?_, fun i hi => ?_⟩
  · by_cases e : j = m
    · subst e
      have h9 := e5 j hj
      simp (disch := omega) only [upP_ne, upP_at, um_ne]
      exact ⟨h9.1, h9.2.1, h9.2.2.1, h9.2.2.2.1, um_at⟩
    · have h9 := e5 j hj
      simp (disch := omega) only [upP_ne, um_ne]
      exact ⟨h9.1, h9.2.1, h9.2.2.1, h9.2.2.2.1, (um_at2 e).trans h9.2.2.2.2⟩
  · simp (disch := omega) only [upP_ne, um_ne]; exact e6 i hi
set_option maxRecDepth 100000 in
set_option maxHeartbeats 1000000 in
theorem c_train_b {M : Nat → Nat → Int32} {N : Nat → Nat → Int64} {n k : Nat} {P : Nat → Int32} {pa : List (Nat → Int32)} {kp : Option YS} {tp : List Int32} {sh : Nat → Option (Nat × Nat × (Nat → Int64))} (hA : AOk ((n, k, P, pa), kp, tp, sh)) (hI : CI M N ((n, k, P, pa), kp, tp, sh)) {v : Int32} (h1 : ∀ m, m < n → v ≠ nI m) : Run mX11_train 30 0 0 [.ref 0, .int v] (SK, M, N) (CQ M N (-1) ((n, k, P, pa), kp, tp, sh)) := by
  refine Run.of (by decide) (Nat.le_of_ble_eq_true rfl) ?_
  have hok : OkP n k P := hA.1.1.1
  have hc0 : IsC M 14 n k P := hI.1.1
  have hn6 := hok.1
  have hk6 := hok.2.1
  refine g_aload_n (j := 0) (pc' := 1) dX11_train_0 rfl rfl ?_
  refine g_iload_n (j := 1) (pc' := 2) dX11_train_1 rfl rfl ?_
  refine g_callV (my := mX11_noMan) (k := 0) (st := []) (av := [.int v]) (mcr := 0) (msr := 0) (mc := 0) (ms := 0) (pc' := 5) dX11_train_2 kX11_noMan wX11_93 rfl ⟨rfl, rfl⟩ rfl (Nat.le_of_ble_eq_true rfl) (by decide) (s_noMan1 hc0.1 hn6 (h1)) rfl ?_
  rintro _ _ ⟨rfl, rfl⟩
  show Go mX11_train _ _ _ 5 [(0, .ref 0), (1, .int v)] [.int 1] (SK, M, N) _
  refine g_if_eq (tgt := 10) (pc' := 8) dX11_train_5 (by decide) rfl (fun hc => absurd hc (by decide)) (fun _ => ?_)
  refine g_iconst (v := (-1)) (pc' := 9) dX11_train_8 (by decide) rfl ?_
  exact g_iret dX11_train_9 rfl rfl (CQ.same hI)
set_option maxRecDepth 100000 in
set_option maxHeartbeats 1000000 in
theorem c_train_n {M : Nat → Nat → Int32} {N : Nat → Nat → Int64} {n k : Nat} {P : Nat → Int32} {pa : List (Nat → Int32)} {kp : Option YS} {tp : List Int32} {sh : Nat → Option (Nat × Nat × (Nat → Int64))} (hA : AOk ((n, k, P, pa), kp, tp, sh)) (hI : CI M N ((n, k, P, pa), kp, tp, sh)) {m : Nat} (hm : m < n) (h9 : P (10 + m) = 9) : Run mX11_train 30 0 0 [.ref 0, .int (nI m)] (SK, M, N) (CQ M N (-2) ((n, k, P, pa), kp, tp, sh)) := by
  refine Run.of (by decide) (Nat.le_of_ble_eq_true rfl) ?_
  have hok : OkP n k P := hA.1.1.1
  have hc0 : IsC M 14 n k P := hI.1.1
  have hn6 := hok.1
  have hk6 := hok.2.1
  refine g_aload_n (j := 0) (pc' := 1) dX11_train_0 rfl rfl ?_
  refine g_iload_n (j := 1) (pc' := 2) dX11_train_1 rfl rfl ?_
  refine g_callV (my := mX11_noMan) (k := 0) (st := []) (av := [.int (nI m)]) (mcr := 0) (msr := 0) (mc := 0) (ms := 0) (pc' := 5) dX11_train_2 kX11_noMan wX11_93 rfl ⟨rfl, rfl⟩ rfl (Nat.le_of_ble_eq_true rfl) (by decide) (s_noMan0 hc0.1 hn6 (hm)) rfl ?_
  rintro _ _ ⟨rfl, rfl⟩
  show Go mX11_train _ _ _ 5 [(0, .ref 0), (1, .int (nI m))] [.int 0] (SK, M, N) _
  refine g_if_eq (tgt := 10) (pc' := 8) dX11_train_5 (by decide) rfl (fun _ => ?_) (fun hc => absurd rfl hc)
  refine g_aload_n (j := 0) (pc' := 11) dX11_train_10 rfl rfl ?_
  refine g_getR (pc' := 14) dX11_train_11 fX11_28 rfl rfl rfl ?_
  refine g_getR (pc' := 17) dX11_train_14 fX11_101 rfl rfl rfl ?_
  refine g_iload_n (j := 1) (pc' := 18) dX11_train_17 rfl rfl ?_
  refine g_iald (n := m) (pc' := 19) dX11_train_18 rfl rfl (by omega) rfl ?_
  refine g_top (y := P (10 + m)) ((hc0.2.2.2.2.2.1 m hm).2.1) ?_
  refine g_bipush (v := 9) (pc' := 21) dX11_train_19 (by decide) rfl ?_
  rw [h9]
  refine g_icmp_lt (tgt := 27) (pc' := 24) dX11_train_21 (by decide) rfl (fun hc => (absurd hc (by decide))) (fun hc => ?_)
  refine g_bipush (v := (-2)) (pc' := 26) dX11_train_24 (by decide) rfl ?_
  exact g_iret dX11_train_26 rfl rfl (CQ.same hI)
set_option maxRecDepth 100000 in
set_option maxHeartbeats 1000000 in
theorem c_train {M : Nat → Nat → Int32} {N : Nat → Nat → Int64} {n k : Nat} {P : Nat → Int32} {pa : List (Nat → Int32)} {kp : Option YS} {tp : List Int32} {sh : Nat → Option (Nat × Nat × (Nat → Int64))} (hA : AOk ((n, k, P, pa), kp, tp, sh)) (hI : CI M N ((n, k, P, pa), kp, tp, sh)) {m : Nat} (hm : m < n) (h9 : P (10 + m) < 9) : Run mX11_train 30 0 0 [.ref 0, .int (nI m)] (SK, M, N) (CQ M N (P (10 + m) + 1) ((n, k, upP P (10 + m) (P (10 + m) + 1), keepL P pa), kp, tp, sh)) := by
  refine Run.of (by decide) (Nat.le_of_ble_eq_true rfl) ?_
  have hok : OkP n k P := hA.1.1.1
  have hc0 : IsC M 14 n k P := hI.1.1
  have hn6 := hok.1
  have hk6 := hok.2.1
  refine g_aload_n (j := 0) (pc' := 1) dX11_train_0 rfl rfl ?_
  refine g_iload_n (j := 1) (pc' := 2) dX11_train_1 rfl rfl ?_
  refine g_callV (my := mX11_noMan) (k := 0) (st := []) (av := [.int (nI m)]) (mcr := 0) (msr := 0) (mc := 0) (ms := 0) (pc' := 5) dX11_train_2 kX11_noMan wX11_93 rfl ⟨rfl, rfl⟩ rfl (Nat.le_of_ble_eq_true rfl) (by decide) (s_noMan0 hc0.1 hn6 (hm)) rfl ?_
  rintro _ _ ⟨rfl, rfl⟩
  show Go mX11_train _ _ _ 5 [(0, .ref 0), (1, .int (nI m))] [.int 0] (SK, M, N) _
  refine g_if_eq (tgt := 10) (pc' := 8) dX11_train_5 (by decide) rfl (fun _ => ?_) (fun hc => absurd rfl hc)
  refine g_aload_n (j := 0) (pc' := 11) dX11_train_10 rfl rfl ?_
  refine g_getR (pc' := 14) dX11_train_11 fX11_28 rfl rfl rfl ?_
  refine g_getR (pc' := 17) dX11_train_14 fX11_101 rfl rfl rfl ?_
  refine g_iload_n (j := 1) (pc' := 18) dX11_train_17 rfl rfl ?_
  refine g_iald (n := m) (pc' := 19) dX11_train_18 rfl rfl (by omega) rfl ?_
  refine g_top (y := P (10 + m)) ((hc0.2.2.2.2.2.1 m hm).2.1) ?_
  refine g_bipush (v := 9) (pc' := 21) dX11_train_19 (by decide) rfl ?_
  refine g_icmp_lt (tgt := 27) (pc' := 24) dX11_train_21 (by decide) rfl (fun hc => ?_) (fun hc => (absurd h9 hc))
  obtain ⟨wv, hw8, hw, hs, -⟩ := hI.1.2
  refine g_aload_n (j := 0) (pc' := 28) dX11_train_27 rfl rfl ?_
  refine g_getR (pc' := 31) dX11_train_28 fX11_35 rfl rfl rfl ?_
  refine g_aload_n (j := 0) (pc' := 32) dX11_train_31 rfl rfl ?_
  refine g_getR (pc' := 35) dX11_train_32 fX11_28 rfl rfl rfl ?_
  refine g_callV (my := mX5_keep) (k := 22) (st := []) (av := [.ref 14]) (mcr := 0) (msr := 0) (mc := 0) (ms := 0) (pc' := 38) dX11_train_35 kX5_keep wX11_183 rfl ⟨rfl, rfl⟩ rfl (Nat.le_of_ble_eq_true rfl) (by decide) (s_keep hw hw8 hs hA.1.2.1) rfl ?_
  rintro _ _ ⟨M1, rfl, rfl, hK⟩
  show Go mX11_train _ _ _ 38 [(0, .ref 0), (1, .int (nI m))] [] (SK, M1, N) _
  have hY := CI.keepDone hA hI hw8 hw hK
  refine g_aload_n (j := 0) (pc' := 39) dX11_train_38 rfl rfl ?_
  refine g_getR (pc' := 42) dX11_train_39 fX11_28 rfl rfl rfl ?_
  refine g_getR (pc' := 45) dX11_train_42 fX11_101 rfl rfl rfl ?_
  refine g_iload_n (j := 1) (pc' := 46) dX11_train_45 rfl rfl ?_
  refine g_dup2 (pc' := 47) dX11_train_46 rfl rfl rfl ?_
  refine g_iald (n := m) (pc' := 48) dX11_train_47 rfl rfl (by omega) rfl ?_
  refine g_top (y := P (10 + m)) ((hY.1.2.2.2.2.2.1 m hm).2.1) ?_
  refine g_iconst (v := 1) (pc' := 49) dX11_train_48 (by decide) rfl ?_
  refine g_iadd (pc' := 50) dX11_train_49 rfl ?_
  refine g_iast (n := m) (pc' := 51) dX11_train_50 rfl rfl (by omega) rfl ?_
  refine g_aload_n (j := 0) (pc' := 52) dX11_train_51 rfl rfl ?_
  refine g_getR (pc' := 55) dX11_train_52 fX11_28 rfl rfl rfl ?_
  refine g_getR (pc' := 58) dX11_train_55 fX11_101 rfl rfl rfl ?_
  refine g_iload_n (j := 1) (pc' := 59) dX11_train_58 rfl rfl ?_
  refine g_iald (n := m) (pc' := 60) dX11_train_59 rfl rfl (by omega) rfl ?_
  refine g_top (y := (P (10 + m)) + 1) (by simp (disch := omega) only [um_ne, um_at, um_at2, cpy2_ne]) ?_
  exact g_iret dX11_train_60 rfl rfl (CQ.now hI (hY.now (hY.1.hand hn6 hk6 hm _) (fun a a1 a2 => um_ne (by omega))) (fun a ta ha => by rw [um_ne (by omega)]; exact hK.2.2.2.2 a (by omega) (by omega)))
set_option maxRecDepth 100000 in
set_option maxHeartbeats 1000000 in
theorem c_hire_b1 {M : Nat → Nat → Int32} {N : Nat → Nat → Int64} {n k : Nat} {P : Nat → Int32} {pa : List (Nat → Int32)} {kp : Option YS} {tp : List Int32} {sh : Nat → Option (Nat × Nat × (Nat → Int64))} (hA : AOk ((n, k, P, pa), kp, tp, sh)) (hI : CI M N ((n, k, P, pa), kp, tp, sh)) {v : Int32} (u : Int32) (h1 : ∀ m, m < n → v ≠ nI m) : Run mX11_hire 30 0 0 [.ref 0, .int v, .int u] (SK, M, N) (CQ M N (-1) ((n, k, P, pa), kp, tp, sh)) := by
  refine Run.of (by decide) (Nat.le_of_ble_eq_true rfl) ?_
  have hok : OkP n k P := hA.1.1.1
  have hc0 : IsC M 14 n k P := hI.1.1
  have hn6 := hok.1
  have hk6 := hok.2.1
  refine g_aload_n (j := 0) (pc' := 1) dX11_hire_0 rfl rfl ?_
  refine g_iload_n (j := 1) (pc' := 2) dX11_hire_1 rfl rfl ?_
  refine g_callV (my := mX11_noMan) (k := 0) (st := []) (av := [.int v]) (mcr := 0) (msr := 0) (mc := 0) (ms := 0) (pc' := 5) dX11_hire_2 kX11_noMan wX11_93 rfl ⟨rfl, rfl⟩ rfl (Nat.le_of_ble_eq_true rfl) (by decide) (s_noMan1 hc0.1 hn6 (h1)) rfl ?_
  rintro _ _ ⟨rfl, rfl⟩
  show Go mX11_hire _ _ _ 5 [(0, .ref 0), (1, .int v), (2, .int u)] [.int 1] (SK, M, N) _
  refine g_if_ne (tgt := 17) (pc' := 8) dX11_hire_5 (by decide) rfl (fun _ => ?_) (fun hc => absurd hc (by decide))
  refine g_iconst (v := (-1)) (pc' := 18) dX11_hire_17 (by decide) rfl ?_
  exact g_iret dX11_hire_18 rfl rfl (CQ.same hI)
set_option maxRecDepth 100000 in
set_option maxHeartbeats 1000000 in
theorem c_hire_b2 {M : Nat → Nat → Int32} {N : Nat → Nat → Int64} {n k : Nat} {P : Nat → Int32} {pa : List (Nat → Int32)} {kp : Option YS} {tp : List Int32} {sh : Nat → Option (Nat × Nat × (Nat → Int64))} (hA : AOk ((n, k, P, pa), kp, tp, sh)) (hI : CI M N ((n, k, P, pa), kp, tp, sh)) {m : Nat} {u : Int32} (hm : m < n) (h1 : u < 1 ∨ 4 < u) : Run mX11_hire 30 0 0 [.ref 0, .int (nI m), .int u] (SK, M, N) (CQ M N (-1) ((n, k, P, pa), kp, tp, sh)) := by
  refine Run.of (by decide) (Nat.le_of_ble_eq_true rfl) ?_
  have hok : OkP n k P := hA.1.1.1
  have hc0 : IsC M 14 n k P := hI.1.1
  have hn6 := hok.1
  have hk6 := hok.2.1
  refine g_aload_n (j := 0) (pc' := 1) dX11_hire_0 rfl rfl ?_
  refine g_iload_n (j := 1) (pc' := 2) dX11_hire_1 rfl rfl ?_
  refine g_callV (my := mX11_noMan) (k := 0) (st := []) (av := [.int (nI m)]) (mcr := 0) (msr := 0) (mc := 0) (ms := 0) (pc' := 5) dX11_hire_2 kX11_noMan wX11_93 rfl ⟨rfl, rfl⟩ rfl (Nat.le_of_ble_eq_true rfl) (by decide) (s_noMan0 hc0.1 hn6 (hm)) rfl ?_
  rintro _ _ ⟨rfl, rfl⟩
  show Go mX11_hire _ _ _ 5 [(0, .ref 0), (1, .int (nI m)), (2, .int u)] [.int 0] (SK, M, N) _
  refine g_if_ne (tgt := 17) (pc' := 8) dX11_hire_5 (by decide) rfl (fun hc => absurd rfl hc) (fun _ => ?_)
  refine g_iload_n (j := 2) (pc' := 9) dX11_hire_8 rfl rfl ?_
  refine g_iconst (v := 1) (pc' := 10) dX11_hire_9 (by decide) rfl ?_
  refine g_iconst (v := 4) (pc' := 11) dX11_hire_10 (by decide) rfl ?_
  refine g_callS (my := mX11_outside) (st := []) (av := [.int u, .int 1, .int 4]) (mcr := 0) (msr := 0) (mc := 0) (ms := 0) (pc' := 14) dX11_hire_11 kX11_outside wX11_71 rfl (Nat.le_of_ble_eq_true rfl) (by decide) (s_out1 (h1)) rfl ?_
  rintro _ _ ⟨rfl, rfl⟩
  show Go mX11_hire _ _ _ 14 [(0, .ref 0), (1, .int (nI m)), (2, .int u)] [.int 1] (SK, M, N) _
  refine g_if_eq (tgt := 19) (pc' := 17) dX11_hire_14 (by decide) rfl (fun hc => absurd hc (by decide)) (fun _ => ?_)
  refine g_iconst (v := (-1)) (pc' := 18) dX11_hire_17 (by decide) rfl ?_
  exact g_iret dX11_hire_18 rfl rfl (CQ.same hI)
set_option maxRecDepth 100000 in
set_option maxHeartbeats 1000000 in
theorem c_hire {M : Nat → Nat → Int32} {N : Nat → Nat → Int64} {n k : Nat} {P : Nat → Int32} {pa : List (Nat → Int32)} {kp : Option YS} {tp : List Int32} {sh : Nat → Option (Nat × Nat × (Nat → Int64))} (hA : AOk ((n, k, P, pa), kp, tp, sh)) (hI : CI M N ((n, k, P, pa), kp, tp, sh)) {m : Nat} {u : Int32} (hm : m < n) (h1 : ¬ (u < 1 ∨ 4 < u)) : Run mX11_hire 30 0 0 [.ref 0, .int (nI m), .int u] (SK, M, N) (CQ M N (P (16 + m)) ((n, k, upP P (16 + m) u, keepL P pa), kp, tp, sh)) := by
  refine Run.of (by decide) (Nat.le_of_ble_eq_true rfl) ?_
  have hok : OkP n k P := hA.1.1.1
  have hc0 : IsC M 14 n k P := hI.1.1
  have hn6 := hok.1
  have hk6 := hok.2.1
  refine g_aload_n (j := 0) (pc' := 1) dX11_hire_0 rfl rfl ?_
  refine g_iload_n (j := 1) (pc' := 2) dX11_hire_1 rfl rfl ?_
  refine g_callV (my := mX11_noMan) (k := 0) (st := []) (av := [.int (nI m)]) (mcr := 0) (msr := 0) (mc := 0) (ms := 0) (pc' := 5) dX11_hire_2 kX11_noMan wX11_93 rfl ⟨rfl, rfl⟩ rfl (Nat.le_of_ble_eq_true rfl) (by decide) (s_noMan0 hc0.1 hn6 (hm)) rfl ?_
  rintro _ _ ⟨rfl, rfl⟩
  show Go mX11_hire _ _ _ 5 [(0, .ref 0), (1, .int (nI m)), (2, .int u)] [.int 0] (SK, M, N) _
  refine g_if_ne (tgt := 17) (pc' := 8) dX11_hire_5 (by decide) rfl (fun hc => absurd rfl hc) (fun _ => ?_)
  refine g_iload_n (j := 2) (pc' := 9) dX11_hire_8 rfl rfl ?_
  refine g_iconst (v := 1) (pc' := 10) dX11_hire_9 (by decide) rfl ?_
  refine g_iconst (v := 4) (pc' := 11) dX11_hire_10 (by decide) rfl ?_
  refine g_callS (my := mX11_outside) (st := []) (av := [.int u, .int 1, .int 4]) (mcr := 0) (msr := 0) (mc := 0) (ms := 0) (pc' := 14) dX11_hire_11 kX11_outside wX11_71 rfl (Nat.le_of_ble_eq_true rfl) (by decide) (s_out0 (h1)) rfl ?_
  rintro _ _ ⟨rfl, rfl⟩
  show Go mX11_hire _ _ _ 14 [(0, .ref 0), (1, .int (nI m)), (2, .int u)] [.int 0] (SK, M, N) _
  refine g_if_eq (tgt := 19) (pc' := 17) dX11_hire_14 (by decide) rfl (fun _ => ?_) (fun hc => absurd rfl hc)
  obtain ⟨wv, hw8, hw, hs, -⟩ := hI.1.2
  refine g_aload_n (j := 0) (pc' := 20) dX11_hire_19 rfl rfl ?_
  refine g_getR (pc' := 23) dX11_hire_20 fX11_35 rfl rfl rfl ?_
  refine g_aload_n (j := 0) (pc' := 24) dX11_hire_23 rfl rfl ?_
  refine g_getR (pc' := 27) dX11_hire_24 fX11_28 rfl rfl rfl ?_
  refine g_callV (my := mX5_keep) (k := 22) (st := []) (av := [.ref 14]) (mcr := 0) (msr := 0) (mc := 0) (ms := 0) (pc' := 30) dX11_hire_27 kX5_keep wX11_183 rfl ⟨rfl, rfl⟩ rfl (Nat.le_of_ble_eq_true rfl) (by decide) (s_keep hw hw8 hs hA.1.2.1) rfl ?_
  rintro _ _ ⟨M1, rfl, rfl, hK⟩
  show Go mX11_hire _ _ _ 30 [(0, .ref 0), (1, .int (nI m)), (2, .int u)] [] (SK, M1, N) _
  have hY := CI.keepDone hA hI hw8 hw hK
  refine g_aload_n (j := 0) (pc' := 31) dX11_hire_30 rfl rfl ?_
  refine g_getR (pc' := 34) dX11_hire_31 fX11_28 rfl rfl rfl ?_
  refine g_getR (pc' := 37) dX11_hire_34 fX11_104 rfl rfl rfl ?_
  refine g_iload_n (j := 1) (pc' := 38) dX11_hire_37 rfl rfl ?_
  refine g_iald (n := m) (pc' := 39) dX11_hire_38 rfl rfl (by omega) rfl ?_
  refine g_top (y := P (16 + m)) ((hY.1.2.2.2.2.2.1 m hm).2.2.1) ?_
  refine g_istore_n (L' := [(0, .ref 0), (1, .int (nI m)), (2, .int u), (3, .int (P (16 + m)))]) (pc' := 40) dX11_hire_39 (by decide) rfl rfl ?_
  refine g_aload_n (j := 0) (pc' := 41) dX11_hire_40 rfl rfl ?_
  refine g_getR (pc' := 44) dX11_hire_41 fX11_28 rfl rfl rfl ?_
  refine g_getR (pc' := 47) dX11_hire_44 fX11_104 rfl rfl rfl ?_
  refine g_iload_n (j := 1) (pc' := 48) dX11_hire_47 rfl rfl ?_
  refine g_iload_n (j := 2) (pc' := 49) dX11_hire_48 rfl rfl ?_
  refine g_iast (n := m) (pc' := 50) dX11_hire_49 rfl rfl (by omega) rfl ?_
  refine g_iload_n (j := 3) (pc' := 51) dX11_hire_50 rfl rfl ?_
  exact g_iret dX11_hire_51 rfl rfl (CQ.now hI (hY.now (hY.1.oxen hn6 hk6 hm _) (fun a a1 a2 => um_ne (by omega))) (fun a ta ha => by rw [um_ne (by omega)]; exact hK.2.2.2.2 a (by omega) (by omega)))
set_option maxRecDepth 100000 in
set_option maxHeartbeats 1000000 in
theorem c_swap_b1 {M : Nat → Nat → Int32} {N : Nat → Nat → Int64} {n k : Nat} {P : Nat → Int32} {pa : List (Nat → Int32)} {kp : Option YS} {tp : List Int32} {sh : Nat → Option (Nat × Nat × (Nat → Int64))} (hA : AOk ((n, k, P, pa), kp, tp, sh)) (hI : CI M N ((n, k, P, pa), kp, tp, sh)) {v : Int32} (u : Int32) (h1 : ∀ m, m < n → v ≠ nI m) : Run mX11_swap 30 0 0 [.ref 0, .int v, .int u] (SK, M, N) (CQ M N (-1) ((n, k, P, pa), kp, tp, sh)) := by
  refine Run.of (by decide) (Nat.le_of_ble_eq_true rfl) ?_
  have hok : OkP n k P := hA.1.1.1
  have hc0 : IsC M 14 n k P := hI.1.1
  have hn6 := hok.1
  have hk6 := hok.2.1
  refine g_aload_n (j := 0) (pc' := 1) dX11_swap_0 rfl rfl ?_
  refine g_iload_n (j := 1) (pc' := 2) dX11_swap_1 rfl rfl ?_
  refine g_callV (my := mX11_noMan) (k := 0) (st := []) (av := [.int v]) (mcr := 0) (msr := 0) (mc := 0) (ms := 0) (pc' := 5) dX11_swap_2 kX11_noMan wX11_93 rfl ⟨rfl, rfl⟩ rfl (Nat.le_of_ble_eq_true rfl) (by decide) (s_noMan1 hc0.1 hn6 (h1)) rfl ?_
  rintro _ _ ⟨rfl, rfl⟩
  show Go mX11_swap _ _ _ 5 [(0, .ref 0), (1, .int v), (2, .int u)] [.int 1] (SK, M, N) _
  refine g_if_ne (tgt := 21) (pc' := 8) dX11_swap_5 (by decide) rfl (fun _ => ?_) (fun hc => absurd hc (by decide))
  refine g_iconst (v := (-1)) (pc' := 22) dX11_swap_21 (by decide) rfl ?_
  exact g_iret dX11_swap_22 rfl rfl (CQ.same hI)
set_option maxRecDepth 100000 in
set_option maxHeartbeats 1000000 in
theorem c_swap_b2 {M : Nat → Nat → Int32} {N : Nat → Nat → Int64} {n k : Nat} {P : Nat → Int32} {pa : List (Nat → Int32)} {kp : Option YS} {tp : List Int32} {sh : Nat → Option (Nat × Nat × (Nat → Int64))} (hA : AOk ((n, k, P, pa), kp, tp, sh)) (hI : CI M N ((n, k, P, pa), kp, tp, sh)) {m : Nat} {u : Int32} (hm : m < n) (h1 : ∀ m, m < n → u ≠ nI m) : Run mX11_swap 30 0 0 [.ref 0, .int (nI m), .int u] (SK, M, N) (CQ M N (-1) ((n, k, P, pa), kp, tp, sh)) := by
  refine Run.of (by decide) (Nat.le_of_ble_eq_true rfl) ?_
  have hok : OkP n k P := hA.1.1.1
  have hc0 : IsC M 14 n k P := hI.1.1
  have hn6 := hok.1
  have hk6 := hok.2.1
  refine g_aload_n (j := 0) (pc' := 1) dX11_swap_0 rfl rfl ?_
  refine g_iload_n (j := 1) (pc' := 2) dX11_swap_1 rfl rfl ?_
  refine g_callV (my := mX11_noMan) (k := 0) (st := []) (av := [.int (nI m)]) (mcr := 0) (msr := 0) (mc := 0) (ms := 0) (pc' := 5) dX11_swap_2 kX11_noMan wX11_93 rfl ⟨rfl, rfl⟩ rfl (Nat.le_of_ble_eq_true rfl) (by decide) (s_noMan0 hc0.1 hn6 (hm)) rfl ?_
  rintro _ _ ⟨rfl, rfl⟩
  show Go mX11_swap _ _ _ 5 [(0, .ref 0), (1, .int (nI m)), (2, .int u)] [.int 0] (SK, M, N) _
  refine g_if_ne (tgt := 21) (pc' := 8) dX11_swap_5 (by decide) rfl (fun hc => absurd rfl hc) (fun _ => ?_)
  refine g_aload_n (j := 0) (pc' := 9) dX11_swap_8 rfl rfl ?_
  refine g_iload_n (j := 2) (pc' := 10) dX11_swap_9 rfl rfl ?_
  refine g_callV (my := mX11_noMan) (k := 0) (st := []) (av := [.int u]) (mcr := 0) (msr := 0) (mc := 0) (ms := 0) (pc' := 13) dX11_swap_10 kX11_noMan wX11_93 rfl ⟨rfl, rfl⟩ rfl (Nat.le_of_ble_eq_true rfl) (by decide) (s_noMan1 hc0.1 hn6 (h1)) rfl ?_
  rintro _ _ ⟨rfl, rfl⟩
  show Go mX11_swap _ _ _ 13 [(0, .ref 0), (1, .int (nI m)), (2, .int u)] [.int 1] (SK, M, N) _
  refine g_if_ne (tgt := 21) (pc' := 16) dX11_swap_13 (by decide) rfl (fun _ => ?_) (fun hc => absurd hc (by decide))
  refine g_iconst (v := (-1)) (pc' := 22) dX11_swap_21 (by decide) rfl ?_
  exact g_iret dX11_swap_22 rfl rfl (CQ.same hI)
set_option maxRecDepth 100000 in
set_option maxHeartbeats 1000000 in
theorem c_swap_b3 {M : Nat → Nat → Int32} {N : Nat → Nat → Int64} {n k : Nat} {P : Nat → Int32} {pa : List (Nat → Int32)} {kp : Option YS} {tp : List Int32} {sh : Nat → Option (Nat × Nat × (Nat → Int64))} (hA : AOk ((n, k, P, pa), kp, tp, sh)) (hI : CI M N ((n, k, P, pa), kp, tp, sh)) {m : Nat} (hm : m < n) : Run mX11_swap 30 0 0 [.ref 0, .int (nI m), .int (nI m)] (SK, M, N) (CQ M N (-1) ((n, k, P, pa), kp, tp, sh)) := by
  refine Run.of (by decide) (Nat.le_of_ble_eq_true rfl) ?_
  have hok : OkP n k P := hA.1.1.1
  have hc0 : IsC M 14 n k P := hI.1.1
  have hn6 := hok.1
  have hk6 := hok.2.1
  refine g_aload_n (j := 0) (pc' := 1) dX11_swap_0 rfl rfl ?_
  refine g_iload_n (j := 1) (pc' := 2) dX11_swap_1 rfl rfl ?_
  refine g_callV (my := mX11_noMan) (k := 0) (st := []) (av := [.int (nI m)]) (mcr := 0) (msr := 0) (mc := 0) (ms := 0) (pc' := 5) dX11_swap_2 kX11_noMan wX11_93 rfl ⟨rfl, rfl⟩ rfl (Nat.le_of_ble_eq_true rfl) (by decide) (s_noMan0 hc0.1 hn6 (hm)) rfl ?_
  rintro _ _ ⟨rfl, rfl⟩
  show Go mX11_swap _ _ _ 5 [(0, .ref 0), (1, .int (nI m)), (2, .int (nI m))] [.int 0] (SK, M, N) _
  refine g_if_ne (tgt := 21) (pc' := 8) dX11_swap_5 (by decide) rfl (fun hc => absurd rfl hc) (fun _ => ?_)
  refine g_aload_n (j := 0) (pc' := 9) dX11_swap_8 rfl rfl ?_
  refine g_iload_n (j := 2) (pc' := 10) dX11_swap_9 rfl rfl ?_
  refine g_callV (my := mX11_noMan) (k := 0) (st := []) (av := [.int (nI m)]) (mcr := 0) (msr := 0) (mc := 0) (ms := 0) (pc' := 13) dX11_swap_10 kX11_noMan wX11_93 rfl ⟨rfl, rfl⟩ rfl (Nat.le_of_ble_eq_true rfl) (by decide) (s_noMan0 hc0.1 hn6 (hm)) rfl ?_
  rintro _ _ ⟨rfl, rfl⟩
  show Go mX11_swap _ _ _ 13 [(0, .ref 0), (1, .int (nI m)), (2, .int (nI m))] [.int 0] (SK, M, N) _
  refine g_if_ne (tgt := 21) (pc' := 16) dX11_swap_13 (by decide) rfl (fun hc => absurd rfl hc) (fun _ => ?_)
  refine g_iload_n (j := 1) (pc' := 17) dX11_swap_16 rfl rfl ?_
  refine g_iload_n (j := 2) (pc' := 18) dX11_swap_17 rfl rfl ?_
  refine g_icmp_ne (tgt := 23) (pc' := 21) dX11_swap_18 (by decide) rfl (fun hc => (absurd rfl hc)) (fun hc => ?_)
  refine g_iconst (v := (-1)) (pc' := 22) dX11_swap_21 (by decide) rfl ?_
  exact g_iret dX11_swap_22 rfl rfl (CQ.same hI)
set_option maxRecDepth 100000 in
set_option maxHeartbeats 1000000 in
theorem c_swap_n1 {M : Nat → Nat → Int32} {N : Nat → Nat → Int64} {n k : Nat} {P : Nat → Int32} {pa : List (Nat → Int32)} {kp : Option YS} {tp : List Int32} {sh : Nat → Option (Nat × Nat × (Nat → Int64))} (hA : AOk ((n, k, P, pa), kp, tp, sh)) (hI : CI M N ((n, k, P, pa), kp, tp, sh)) {m o : Nat} (hm : m < n) (ho : o < n) (hmo : m ≠ o) (h1 : P (28 + m) = -4) : Run mX11_swap 30 0 0 [.ref 0, .int (nI m), .int (nI o)] (SK, M, N) (CQ M N (-2) ((n, k, P, pa), kp, tp, sh)) := by
  refine Run.of (by decide) (Nat.le_of_ble_eq_true rfl) ?_
  have hok : OkP n k P := hA.1.1.1
  have hc0 : IsC M 14 n k P := hI.1.1
  have hn6 := hok.1
  have hk6 := hok.2.1
  refine g_aload_n (j := 0) (pc' := 1) dX11_swap_0 rfl rfl ?_
  refine g_iload_n (j := 1) (pc' := 2) dX11_swap_1 rfl rfl ?_
  refine g_callV (my := mX11_noMan) (k := 0) (st := []) (av := [.int (nI m)]) (mcr := 0) (msr := 0) (mc := 0) (ms := 0) (pc' := 5) dX11_swap_2 kX11_noMan wX11_93 rfl ⟨rfl, rfl⟩ rfl (Nat.le_of_ble_eq_true rfl) (by decide) (s_noMan0 hc0.1 hn6 (hm)) rfl ?_
  rintro _ _ ⟨rfl, rfl⟩
  show Go mX11_swap _ _ _ 5 [(0, .ref 0), (1, .int (nI m)), (2, .int (nI o))] [.int 0] (SK, M, N) _
  refine g_if_ne (tgt := 21) (pc' := 8) dX11_swap_5 (by decide) rfl (fun hc => absurd rfl hc) (fun _ => ?_)
  refine g_aload_n (j := 0) (pc' := 9) dX11_swap_8 rfl rfl ?_
  refine g_iload_n (j := 2) (pc' := 10) dX11_swap_9 rfl rfl ?_
  refine g_callV (my := mX11_noMan) (k := 0) (st := []) (av := [.int (nI o)]) (mcr := 0) (msr := 0) (mc := 0) (ms := 0) (pc' := 13) dX11_swap_10 kX11_noMan wX11_93 rfl ⟨rfl, rfl⟩ rfl (Nat.le_of_ble_eq_true rfl) (by decide) (s_noMan0 hc0.1 hn6 (ho)) rfl ?_
  rintro _ _ ⟨rfl, rfl⟩
  show Go mX11_swap _ _ _ 13 [(0, .ref 0), (1, .int (nI m)), (2, .int (nI o))] [.int 0] (SK, M, N) _
  refine g_if_ne (tgt := 21) (pc' := 16) dX11_swap_13 (by decide) rfl (fun hc => absurd rfl hc) (fun _ => ?_)
  refine g_iload_n (j := 1) (pc' := 17) dX11_swap_16 rfl rfl ?_
  refine g_iload_n (j := 2) (pc' := 18) dX11_swap_17 rfl rfl ?_
  refine g_icmp_ne (tgt := 23) (pc' := 21) dX11_swap_18 (by decide) rfl (fun hc => ?_) (fun hc => (absurd ((nI_eq (by omega) (by omega)).mp hc) hmo))
  refine g_aload_n (j := 0) (pc' := 24) dX11_swap_23 rfl rfl ?_
  refine g_getR (pc' := 27) dX11_swap_24 fX11_28 rfl rfl rfl ?_
  refine g_getR (pc' := 30) dX11_swap_27 fX11_110 rfl rfl rfl ?_
  refine g_iload_n (j := 1) (pc' := 31) dX11_swap_30 rfl rfl ?_
  refine g_iald (n := m) (pc' := 32) dX11_swap_31 rfl rfl (by omega) rfl ?_
  refine g_top (y := unN (P (28 + m))) ((hc0.2.2.2.2.2.1 m hm).2.2.2.2) ?_
  refine g_istore_n (L' := [(0, .ref 0), (1, .int (nI m)), (2, .int (nI o)), (3, .int (unN (P (28 + m))))]) (pc' := 33) dX11_swap_32 (by decide) rfl rfl ?_
  refine g_aload_n (j := 0) (pc' := 34) dX11_swap_33 rfl rfl ?_
  refine g_getR (pc' := 37) dX11_swap_34 fX11_28 rfl rfl rfl ?_
  refine g_getR (pc' := 40) dX11_swap_37 fX11_110 rfl rfl rfl ?_
  refine g_iload_n (j := 2) (pc' := 41) dX11_swap_40 rfl rfl ?_
  refine g_iald (n := o) (pc' := 42) dX11_swap_41 rfl rfl (by omega) rfl ?_
  refine g_top (y := unN (P (28 + o))) ((hc0.2.2.2.2.2.1 o ho).2.2.2.2) ?_
  refine g_istore (L' := [(0, .ref 0), (1, .int (nI m)), (2, .int (nI o)), (3, .int (unN (P (28 + m)))), (4, .int (unN (P (28 + o))))]) (pc' := 44) dX11_swap_42 (by decide) rfl rfl ?_
  have e1 : unN (P (28 + m)) = -1 := by rw [h1]; rfl
  rw [e1]
  refine g_iload_n (j := 3) (pc' := 45) dX11_swap_44 rfl rfl ?_
  refine g_iconst (v := (-1)) (pc' := 46) dX11_swap_45 (by decide) rfl ?_
  refine g_icmp_eq (tgt := 55) (pc' := 49) dX11_swap_46 (by decide) rfl (fun hc => ?_) (fun hc => (absurd rfl hc))
  refine g_bipush (v := (-2)) (pc' := 57) dX11_swap_55 (by decide) rfl ?_
  exact g_iret dX11_swap_57 rfl rfl (CQ.same hI)
set_option maxRecDepth 100000 in
set_option maxHeartbeats 1000000 in
theorem c_swap_n2 {M : Nat → Nat → Int32} {N : Nat → Nat → Int64} {n k : Nat} {P : Nat → Int32} {pa : List (Nat → Int32)} {kp : Option YS} {tp : List Int32} {sh : Nat → Option (Nat × Nat × (Nat → Int64))} (hA : AOk ((n, k, P, pa), kp, tp, sh)) (hI : CI M N ((n, k, P, pa), kp, tp, sh)) {m o : Nat} (hm : m < n) (ho : o < n) (hmo : m ≠ o) (h1 : ¬ P (28 + m) = -4) (h2 : P (28 + o) = -4) : Run mX11_swap 30 0 0 [.ref 0, .int (nI m), .int (nI o)] (SK, M, N) (CQ M N (-2) ((n, k, P, pa), kp, tp, sh)) := by
  refine Run.of (by decide) (Nat.le_of_ble_eq_true rfl) ?_
  have hok : OkP n k P := hA.1.1.1
  have hc0 : IsC M 14 n k P := hI.1.1
  have hn6 := hok.1
  have hk6 := hok.2.1
  refine g_aload_n (j := 0) (pc' := 1) dX11_swap_0 rfl rfl ?_
  refine g_iload_n (j := 1) (pc' := 2) dX11_swap_1 rfl rfl ?_
  refine g_callV (my := mX11_noMan) (k := 0) (st := []) (av := [.int (nI m)]) (mcr := 0) (msr := 0) (mc := 0) (ms := 0) (pc' := 5) dX11_swap_2 kX11_noMan wX11_93 rfl ⟨rfl, rfl⟩ rfl (Nat.le_of_ble_eq_true rfl) (by decide) (s_noMan0 hc0.1 hn6 (hm)) rfl ?_
  rintro _ _ ⟨rfl, rfl⟩
  show Go mX11_swap _ _ _ 5 [(0, .ref 0), (1, .int (nI m)), (2, .int (nI o))] [.int 0] (SK, M, N) _
  refine g_if_ne (tgt := 21) (pc' := 8) dX11_swap_5 (by decide) rfl (fun hc => absurd rfl hc) (fun _ => ?_)
  refine g_aload_n (j := 0) (pc' := 9) dX11_swap_8 rfl rfl ?_
  refine g_iload_n (j := 2) (pc' := 10) dX11_swap_9 rfl rfl ?_
  refine g_callV (my := mX11_noMan) (k := 0) (st := []) (av := [.int (nI o)]) (mcr := 0) (msr := 0) (mc := 0) (ms := 0) (pc' := 13) dX11_swap_10 kX11_noMan wX11_93 rfl ⟨rfl, rfl⟩ rfl (Nat.le_of_ble_eq_true rfl) (by decide) (s_noMan0 hc0.1 hn6 (ho)) rfl ?_
  rintro _ _ ⟨rfl, rfl⟩
  show Go mX11_swap _ _ _ 13 [(0, .ref 0), (1, .int (nI m)), (2, .int (nI o))] [.int 0] (SK, M, N) _
  refine g_if_ne (tgt := 21) (pc' := 16) dX11_swap_13 (by decide) rfl (fun hc => absurd rfl hc) (fun _ => ?_)
  refine g_iload_n (j := 1) (pc' := 17) dX11_swap_16 rfl rfl ?_
  refine g_iload_n (j := 2) (pc' := 18) dX11_swap_17 rfl rfl ?_
  refine g_icmp_ne (tgt := 23) (pc' := 21) dX11_swap_18 (by decide) rfl (fun hc => ?_) (fun hc => (absurd ((nI_eq (by omega) (by omega)).mp hc) hmo))
  refine g_aload_n (j := 0) (pc' := 24) dX11_swap_23 rfl rfl ?_
  refine g_getR (pc' := 27) dX11_swap_24 fX11_28 rfl rfl rfl ?_
  refine g_getR (pc' := 30) dX11_swap_27 fX11_110 rfl rfl rfl ?_
  refine g_iload_n (j := 1) (pc' := 31) dX11_swap_30 rfl rfl ?_
  refine g_iald (n := m) (pc' := 32) dX11_swap_31 rfl rfl (by omega) rfl ?_
  refine g_top (y := unN (P (28 + m))) ((hc0.2.2.2.2.2.1 m hm).2.2.2.2) ?_
  refine g_istore_n (L' := [(0, .ref 0), (1, .int (nI m)), (2, .int (nI o)), (3, .int (unN (P (28 + m))))]) (pc' := 33) dX11_swap_32 (by decide) rfl rfl ?_
  refine g_aload_n (j := 0) (pc' := 34) dX11_swap_33 rfl rfl ?_
  refine g_getR (pc' := 37) dX11_swap_34 fX11_28 rfl rfl rfl ?_
  refine g_getR (pc' := 40) dX11_swap_37 fX11_110 rfl rfl rfl ?_
  refine g_iload_n (j := 2) (pc' := 41) dX11_swap_40 rfl rfl ?_
  refine g_iald (n := o) (pc' := 42) dX11_swap_41 rfl rfl (by omega) rfl ?_
  refine g_top (y := unN (P (28 + o))) ((hc0.2.2.2.2.2.1 o ho).2.2.2.2) ?_
  refine g_istore (L' := [(0, .ref 0), (1, .int (nI m)), (2, .int (nI o)), (3, .int (unN (P (28 + m)))), (4, .int (unN (P (28 + o))))]) (pc' := 44) dX11_swap_42 (by decide) rfl rfl ?_
  have e1 : ¬ unN (P (28 + m)) = -1 := by
    rcases clP_of hok (m := m) (by omega) with ⟨c0, -, c2⟩ | ⟨i, hi, c0, -, c2⟩
    · exact absurd c0 h1
    · rw [c2]; exact nI_ne_m1 (by omega)
  refine g_iload_n (j := 3) (pc' := 45) dX11_swap_44 rfl rfl ?_
  refine g_iconst (v := (-1)) (pc' := 46) dX11_swap_45 (by decide) rfl ?_
  refine g_icmp_eq (tgt := 55) (pc' := 49) dX11_swap_46 (by decide) rfl (fun hc => (absurd hc e1)) (fun hc => ?_)
  have e2 : unN (P (28 + o)) = -1 := by rw [h2]; rfl
  rw [e2]
  refine g_iload (j := 4) (pc' := 51) dX11_swap_49 rfl rfl ?_
  refine g_iconst (v := (-1)) (pc' := 52) dX11_swap_51 (by decide) rfl ?_
  refine g_icmp_ne (tgt := 58) (pc' := 55) dX11_swap_52 (by decide) rfl (fun hc => (absurd rfl hc)) (fun hc => ?_)
  refine g_bipush (v := (-2)) (pc' := 57) dX11_swap_55 (by decide) rfl ?_
  exact g_iret dX11_swap_57 rfl rfl (CQ.same hI)
set_option maxRecDepth 100000 in
set_option maxHeartbeats 1000000 in
theorem c_swap {M : Nat → Nat → Int32} {N : Nat → Nat → Int64} {n k : Nat} {P : Nat → Int32} {pa : List (Nat → Int32)} {kp : Option YS} {tp : List Int32} {sh : Nat → Option (Nat × Nat × (Nat → Int64))} (hA : AOk ((n, k, P, pa), kp, tp, sh)) (hI : CI M N ((n, k, P, pa), kp, tp, sh)) {m o : Nat} (hm : m < n) (ho : o < n) (hmo : m ≠ o) (h1 : ¬ P (28 + m) = -4) (h2 : ¬ P (28 + o) = -4) : Run mX11_swap 30 0 0 [.ref 0, .int (nI m), .int (nI o)] (SK, M, N) (CQ M N (P (28 + o)) ((n, k, upP (upP P (28 + m) (P (28 + o))) (28 + o) (P (28 + m)), keepL P pa), kp, tp, sh)) := by
  refine Run.of (by decide) (Nat.le_of_ble_eq_true rfl) ?_
  have hok : OkP n k P := hA.1.1.1
  have hc0 : IsC M 14 n k P := hI.1.1
  have hn6 := hok.1
  have hk6 := hok.2.1
  refine g_aload_n (j := 0) (pc' := 1) dX11_swap_0 rfl rfl ?_
  refine g_iload_n (j := 1) (pc' := 2) dX11_swap_1 rfl rfl ?_
  refine g_callV (my := mX11_noMan) (k := 0) (st := []) (av := [.int (nI m)]) (mcr := 0) (msr := 0) (mc := 0) (ms := 0) (pc' := 5) dX11_swap_2 kX11_noMan wX11_93 rfl ⟨rfl, rfl⟩ rfl (Nat.le_of_ble_eq_true rfl) (by decide) (s_noMan0 hc0.1 hn6 (hm)) rfl ?_
  rintro _ _ ⟨rfl, rfl⟩
  show Go mX11_swap _ _ _ 5 [(0, .ref 0), (1, .int (nI m)), (2, .int (nI o))] [.int 0] (SK, M, N) _
  refine g_if_ne (tgt := 21) (pc' := 8) dX11_swap_5 (by decide) rfl (fun hc => absurd rfl hc) (fun _ => ?_)
  refine g_aload_n (j := 0) (pc' := 9) dX11_swap_8 rfl rfl ?_
  refine g_iload_n (j := 2) (pc' := 10) dX11_swap_9 rfl rfl ?_
  refine g_callV (my := mX11_noMan) (k := 0) (st := []) (av := [.int (nI o)]) (mcr := 0) (msr := 0) (mc := 0) (ms := 0) (pc' := 13) dX11_swap_10 kX11_noMan wX11_93 rfl ⟨rfl, rfl⟩ rfl (Nat.le_of_ble_eq_true rfl) (by decide) (s_noMan0 hc0.1 hn6 (ho)) rfl ?_
  rintro _ _ ⟨rfl, rfl⟩
  show Go mX11_swap _ _ _ 13 [(0, .ref 0), (1, .int (nI m)), (2, .int (nI o))] [.int 0] (SK, M, N) _
  refine g_if_ne (tgt := 21) (pc' := 16) dX11_swap_13 (by decide) rfl (fun hc => absurd rfl hc) (fun _ => ?_)
  refine g_iload_n (j := 1) (pc' := 17) dX11_swap_16 rfl rfl ?_
  refine g_iload_n (j := 2) (pc' := 18) dX11_swap_17 rfl rfl ?_
  refine g_icmp_ne (tgt := 23) (pc' := 21) dX11_swap_18 (by decide) rfl (fun hc => ?_) (fun hc => (absurd ((nI_eq (by omega) (by omega)).mp hc) hmo))
  refine g_aload_n (j := 0) (pc' := 24) dX11_swap_23 rfl rfl ?_
  refine g_getR (pc' := 27) dX11_swap_24 fX11_28 rfl rfl rfl ?_
  refine g_getR (pc' := 30) dX11_swap_27 fX11_110 rfl rfl rfl ?_
  refine g_iload_n (j := 1) (pc' := 31) dX11_swap_30 rfl rfl ?_
  refine g_iald (n := m) (pc' := 32) dX11_swap_31 rfl rfl (by omega) rfl ?_
  refine g_top (y := unN (P (28 + m))) ((hc0.2.2.2.2.2.1 m hm).2.2.2.2) ?_
  refine g_istore_n (L' := [(0, .ref 0), (1, .int (nI m)), (2, .int (nI o)), (3, .int (unN (P (28 + m))))]) (pc' := 33) dX11_swap_32 (by decide) rfl rfl ?_
  refine g_aload_n (j := 0) (pc' := 34) dX11_swap_33 rfl rfl ?_
  refine g_getR (pc' := 37) dX11_swap_34 fX11_28 rfl rfl rfl ?_
  refine g_getR (pc' := 40) dX11_swap_37 fX11_110 rfl rfl rfl ?_
  refine g_iload_n (j := 2) (pc' := 41) dX11_swap_40 rfl rfl ?_
  refine g_iald (n := o) (pc' := 42) dX11_swap_41 rfl rfl (by omega) rfl ?_
  refine g_top (y := unN (P (28 + o))) ((hc0.2.2.2.2.2.1 o ho).2.2.2.2) ?_
  refine g_istore (L' := [(0, .ref 0), (1, .int (nI m)), (2, .int (nI o)), (3, .int (unN (P (28 + m)))), (4, .int (unN (P (28 + o))))]) (pc' := 44) dX11_swap_42 (by decide) rfl rfl ?_
  have e1 : ¬ unN (P (28 + m)) = -1 := by
    rcases clP_of hok (m := m) (by omega) with ⟨c0, -, c2⟩ | ⟨i, hi, c0, -, c2⟩
    · exact absurd c0 h1
    · rw [c2]; exact nI_ne_m1 (by omega)
  have e2 : ¬ unN (P (28 + o)) = -1 := by
    rcases clP_of hok (m := o) (by omega) with ⟨c0, -, c2⟩ | ⟨i, hi, c0, -, c2⟩
    · exact absurd c0 h2
    · rw [c2]; exact nI_ne_m1 (by omega)
  refine g_iload_n (j := 3) (pc' := 45) dX11_swap_44 rfl rfl ?_
  refine g_iconst (v := (-1)) (pc' := 46) dX11_swap_45 (by decide) rfl ?_
  refine g_icmp_eq (tgt := 55) (pc' := 49) dX11_swap_46 (by decide) rfl (fun hc => (absurd hc e1)) (fun hc => ?_)
  refine g_iload (j := 4) (pc' := 51) dX11_swap_49 rfl rfl ?_
  refine g_iconst (v := (-1)) (pc' := 52) dX11_swap_51 (by decide) rfl ?_
  refine g_icmp_ne (tgt := 58) (pc' := 55) dX11_swap_52 (by decide) rfl (fun hc => ?_) (fun hc => (absurd hc e2))
  obtain ⟨wv, hw8, hw, hs, -⟩ := hI.1.2
  refine g_aload_n (j := 0) (pc' := 59) dX11_swap_58 rfl rfl ?_
  refine g_getR (pc' := 62) dX11_swap_59 fX11_35 rfl rfl rfl ?_
  refine g_aload_n (j := 0) (pc' := 63) dX11_swap_62 rfl rfl ?_
  refine g_getR (pc' := 66) dX11_swap_63 fX11_28 rfl rfl rfl ?_
  refine g_callV (my := mX5_keep) (k := 22) (st := []) (av := [.ref 14]) (mcr := 0) (msr := 0) (mc := 0) (ms := 0) (pc' := 69) dX11_swap_66 kX5_keep wX11_183 rfl ⟨rfl, rfl⟩ rfl (Nat.le_of_ble_eq_true rfl) (by decide) (s_keep hw hw8 hs hA.1.2.1) rfl ?_
  rintro _ _ ⟨M1, rfl, rfl, hK⟩
  show Go mX11_swap _ _ _ 69 [(0, .ref 0), (1, .int (nI m)), (2, .int (nI o)), (3, .int (unN (P (28 + m)))), (4, .int (unN (P (28 + o))))] [] (SK, M1, N) _
  have hY := CI.keepDone hA hI hw8 hw hK
  refine g_aload_n (j := 0) (pc' := 70) dX11_swap_69 rfl rfl ?_
  refine g_getR (pc' := 73) dX11_swap_70 fX11_28 rfl rfl rfl ?_
  refine g_getR (pc' := 76) dX11_swap_73 fX11_110 rfl rfl rfl ?_
  refine g_iload_n (j := 1) (pc' := 77) dX11_swap_76 rfl rfl ?_
  refine g_iload (j := 4) (pc' := 79) dX11_swap_77 rfl rfl ?_
  refine g_iast (n := m) (pc' := 80) dX11_swap_79 rfl rfl (by omega) rfl ?_
  refine g_aload_n (j := 0) (pc' := 81) dX11_swap_80 rfl rfl ?_
  refine g_getR (pc' := 84) dX11_swap_81 fX11_28 rfl rfl rfl ?_
  refine g_getR (pc' := 87) dX11_swap_84 fX11_110 rfl rfl rfl ?_
  refine g_iload_n (j := 2) (pc' := 88) dX11_swap_87 rfl rfl ?_
  refine g_iload_n (j := 3) (pc' := 89) dX11_swap_88 rfl rfl ?_
  refine g_iast (n := o) (pc' := 90) dX11_swap_89 rfl rfl (by omega) rfl ?_
  refine g_iload (j := 4) (pc' := 92) dX11_swap_90 rfl rfl ?_
  refine g_top (y := P (28 + o)) (by unfold unN; rw [if_neg h2]) ?_
  exact g_iret dX11_swap_92 rfl rfl (CQ.now hI (hY.now ((hY.1.call hn6 hk6 hm (P (28 + o))).call hn6 hk6 ho (P (28 + m))) (fun a a1 a2 => by rw [um_ne (by omega), um_ne (by omega)])) (fun a ta ha => by rw [um_ne (by omega), um_ne (by omega)]; exact hK.2.2.2.2 a (by omega) (by omega)))
def undoP (P Q : Nat → Int32) : Nat → Int32 := fun j => if (10 ≤ j ∧ j < 47) ∨ j = 3 then Q j else P j
theorem undoP_in {P Q : Nat → Int32} {j : Nat} (h : (10 ≤ j ∧ j < 47) ∨ j = 3) : undoP P Q j = Q j := if_pos h
theorem undoP_out {P Q : Nat → Int32} {j : Nat} (h : ¬ ((10 ≤ j ∧ j < 47) ∨ j = 3)) : undoP P Q j = P j := if_neg h
set_option maxRecDepth 100000 in
set_option maxHeartbeats 1000000 in
theorem c_undo_n {M : Nat → Nat → Int32} {N : Nat → Nat → Int64} {n k : Nat} {P : Nat → Int32} {pa : List (Nat → Int32)} {kp : Option YS} {tp : List Int32} {sh : Nat → Option (Nat × Nat × (Nat → Int64))} (hA : AOk ((n, k, P, pa), kp, tp, sh)) (hI : CI M N ((n, k, P, pa), kp, tp, sh)) (h0 : pa = []) : Run mX11_undo 30 0 0 [.ref 0] (SK, M, N) (CQ M N (-4) ((n, k, P, pa), kp, tp, sh)) := by
  refine Run.of (by decide) (Nat.le_of_ble_eq_true rfl) ?_
  have hok : OkP n k P := hA.1.1.1
  have hc0 : IsC M 14 n k P := hI.1.1
  have hn6 := hok.1
  have hk6 := hok.2.1
  obtain ⟨wv, hw8, hw, hs, hg⟩ := hI.1.2
  have hs : M 22 2 = nI 0 := by rw [hs, h0]; rfl
  refine g_aload_n (j := 0) (pc' := 1) dX11_undo_0 rfl rfl ?_
  refine g_getR (pc' := 4) dX11_undo_1 fX11_35 rfl rfl rfl ?_
  refine g_callV (my := mX5_latest) (k := 22) (st := []) (av := []) (mcr := 0) (msr := 0) (mc := 0) (ms := 0) (pc' := 7) dX11_undo_4 kX5_latest wX11_199 rfl ⟨rfl, rfl⟩ rfl (Nat.le_of_ble_eq_true rfl) (by decide) (s_latest hw hw8 hs (by omega)) rfl ?_
  rintro _ _ ⟨rfl, rfl⟩
  show Go mX11_undo _ _ _ 7 [(0, .ref 0)] [.null] (SK, M, N) _
  refine g_astore_nN (L' := [(0, .ref 0), (1, .null)]) (pc' := 8) dX11_undo_7 (by decide) rfl rfl ?_
  refine g_aload_nN (j := 1) (pc' := 9) dX11_undo_8 rfl rfl ?_
  refine g_ifnonnullN (pc' := 12) dX11_undo_9 rfl ?_
  refine g_bipush (v := (-4)) (pc' := 14) dX11_undo_12 (by decide) rfl ?_
  exact g_iret dX11_undo_14 rfl rfl (CQ.same hI)
set_option maxRecDepth 100000 in
set_option maxHeartbeats 1000000 in
theorem c_undo {M : Nat → Nat → Int32} {N : Nat → Nat → Int64} {n k : Nat} {P : Nat → Int32} {pa : List (Nat → Int32)} {kp : Option YS} {tp : List Int32} {sh : Nat → Option (Nat × Nat × (Nat → Int64))} (hA : AOk ((n, k, P, pa), kp, tp, sh)) (hI : CI M N ((n, k, P, pa), kp, tp, sh)) {Q : Nat → Int32} {pb : List (Nat → Int32)} (h0 : pa = Q :: pb) : Run mX11_undo 30 0 0 [.ref 0] (SK, M, N) (CQ M N (nI pb.length) ((n, k, undoP P Q, pb), kp, tp, sh)) := by
  refine Run.of (by decide) (Nat.le_of_ble_eq_true rfl) ?_
  have hok : OkP n k P := hA.1.1.1
  have hc0 : IsC M 14 n k P := hI.1.1
  have hn6 := hok.1
  have hk6 := hok.2.1
  subst h0
  obtain ⟨wv, hw8, hw, hs, hg⟩ := hI.1.2
  have hs1 : M 22 2 = nI (pb.length + 1) := hs
  have hl8 : pb.length + 1 ≤ 8 := hA.1.2.1
  have hQ := hA.1.2.2 Q List.mem_cons_self
  have g0 := hg 0 Q rfl
  rw [show 22 + 2 + 8 * ((wv + 8 - 0) % 8) = 24 + 8 * wv by omega] at g0
  refine g_aload_n (j := 0) (pc' := 1) dX11_undo_0 rfl rfl ?_
  refine g_getR (pc' := 4) dX11_undo_1 fX11_35 rfl rfl rfl ?_
  refine g_callV (my := mX5_latest) (k := 22) (st := []) (av := []) (mcr := 0) (msr := 0) (mc := 0) (ms := 0) (pc' := 7) dX11_undo_4 kX5_latest wX11_199 rfl ⟨rfl, rfl⟩ rfl (Nat.le_of_ble_eq_true rfl) (by decide) (s_latest hw hw8 hs1 hl8) rfl ?_
  rintro _ _ ⟨rfl, rfl⟩
  show Go mX11_undo _ _ _ 7 [(0, .ref 0)] [.ref (24 + 8 * wv)] (SK, M, N) _
  refine g_astore_n (L' := [(0, .ref 0), (1, .ref (24 + 8 * wv))]) (pc' := 8) dX11_undo_7 (by decide) rfl rfl ?_
  refine g_aload_n (j := 1) (pc' := 9) dX11_undo_8 rfl rfl ?_
  refine g_ifnonnull (tgt := 15) dX11_undo_9 (by decide) ?_
  refine g_aload_n (j := 0) (pc' := 16) dX11_undo_15 rfl rfl ?_
  refine g_getR (pc' := 19) dX11_undo_16 fX11_28 rfl rfl rfl ?_
  refine g_getI (pc' := 22) dX11_undo_19 fX11_117 rfl rfl rfl ?_
  refine g_top (y := P 2) (hc0.2.2.1) ?_
  refine g_istore_n (L' := [(0, .ref 0), (1, .ref (24 + 8 * wv)), (2, .int (P 2))]) (pc' := 23) dX11_undo_22 (by decide) rfl rfl ?_
  refine g_aload_n (j := 0) (pc' := 24) dX11_undo_23 rfl rfl ?_
  refine g_getR (pc' := 27) dX11_undo_24 fX11_28 rfl rfl rfl ?_
  refine g_aload_n (j := 1) (pc' := 28) dX11_undo_27 rfl rfl ?_
  refine g_callV (my := mX4_become) (k := 14) (st := []) (av := [.ref (24 + 8 * wv)]) (mcr := 0) (msr := 0) (mc := 0) (ms := 0) (pc' := 31) dX11_undo_28 kX4_become wX11_160 rfl ⟨rfl, rfl⟩ rfl (Nat.le_of_ble_eq_true rfl) (by decide) (s_become par14 (pp22 hw8) (by omega)) rfl ?_
  rintro _ _ ⟨M1, rfl, rfl, hc1, hc2, hc3⟩
  show Go mX11_undo _ _ _ 31 [(0, .ref 0), (1, .ref (24 + 8 * wv)), (2, .int (P 2))] [] (SK, M1, N) _
  have hIq : IsC M1 14 n k Q := g0.copied2 hn6 hk6 hc1 hc2
  refine g_aload_n (j := 0) (pc' := 32) dX11_undo_31 rfl rfl ?_
  refine g_getR (pc' := 35) dX11_undo_32 fX11_28 rfl rfl rfl ?_
  refine g_iload_n (j := 2) (pc' := 36) dX11_undo_35 rfl rfl ?_
  refine g_putI (pc' := 39) dX11_undo_36 fX11_117 rfl rfl ⟨rfl, rfl⟩ rfl ?_
  refine g_aload_n (j := 0) (pc' := 40) dX11_undo_39 rfl rfl ?_
  refine g_getR (pc' := 43) dX11_undo_40 fX11_35 rfl rfl rfl ?_
  generalize hM2 : (um M1 14 2 (P 2)) = M2
  have f1 : ∀ a, a ≠ 14 → M2 a = M1 a := fun a ha => by rw [← hM2, um_ne ha]
  have hIu : IsC M2 14 n k (undoP P Q) := by
    obtain ⟨e0, e1, e2, e3, e4, e5, e6⟩ := hIq
    have hkd : ∀ m, m < n → Q (4 + m) = P (4 + m) := fun m hm => hQ.2 (4 + m) (by omega) (by omega) (by omega)
    refine ⟨by rw [← hM2, um_at2 (by omega)]; exact e0, by rw [← hM2, um_at2 (by omega)]; exact e1, by rw [← hM2, um_at, undoP_out (by omega)], by rw [← hM2, um_at2 (by omega), undoP_in (by omega)]; exact e3, by rw [← hM2, um_at2 (by omega), undoP_in (by omega)]; exact e4, fun m hm => ?_, fun i hi => ?_⟩
    · rw [f1 (14 + 1) (by omega), f1 (14 + 2) (by omega), f1 (14 + 3) (by omega), f1 (14 + 4) (by omega), f1 (14 + 5) (by omega), undoP_out (j := 4 + m) (by omega), undoP_in (j := 10 + m) (by omega), undoP_in (j := 16 + m) (by omega), undoP_in (j := 22 + m) (by omega), undoP_in (j := 28 + m) (by omega), ← hkd m hm]
      exact e5 m hm
    · rw [f1 (14 + 6) (by omega), f1 (14 + 7) (by omega), undoP_in (by omega), undoP_in (by omega)]
      exact e6 i hi
  refine g_callV (my := mX5_dropLatest) (k := 22) (st := []) (av := []) (mcr := 0) (msr := 0) (mc := 0) (ms := 0) (pc' := 46) dX11_undo_43 kX5_dropLatest wX11_203 rfl ⟨rfl, rfl⟩ rfl (Nat.le_of_ble_eq_true rfl) (by decide) (s_dropLatest (w := wv) (s := pb.length + 1) (by rw [f1 22 (by omega), hc3 22 (by omega)]; exact hw) hw8 (by rw [f1 22 (by omega), hc3 22 (by omega)]; exact hs1) hl8 (by omega)) rfl ?_
  rintro _ _ ⟨M3, rfl, rfl, d1, d2, d3⟩
  show Go mX11_undo _ _ _ 46 [(0, .ref 0), (1, .ref (24 + 8 * wv)), (2, .int (P 2))] [] (SK, M3, N) _
  refine g_aload_n (j := 0) (pc' := 47) dX11_undo_46 rfl rfl ?_
  refine g_getR (pc' := 50) dX11_undo_47 fX11_35 rfl rfl rfl ?_
  refine g_getI (pc' := 53) dX11_undo_50 fX11_180 rfl rfl rfl ?_
  refine g_top (y := nI pb.length) (d2) ?_
  have hY : YC M3 14 22 (n, k, undoP P Q, pb) := by
    refine ⟨hIu.keep (fun a a1 a2 => d3 a (by omega)), (wv + 7) % 8, by omega, d1, d2, fun i Q' hi => ?_⟩
    have hl : i < pb.length := (List.getElem?_eq_some_iff.mp hi).1
    have h9 := hg (i + 1) Q' hi
    rw [show (wv + 8 - (i + 1)) % 8 = ((wv + 7) % 8 + 8 - i) % 8 by omega] at h9
    exact h9.keep (fun a a1 a2 => by rw [d3 a (by omega), f1 a (by omega), hc3 a (by omega)])
  exact g_iret dX11_undo_53 rfl rfl (CQ.now hI hY (fun a ta ha => by rw [d3 a (by omega), f1 a (by omega), hc3 a (by omega)]))
