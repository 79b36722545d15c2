/-! ===== the class's calls, by cases of their arguments ===== -/
theorem s_noMan0 {M : Nat → Nat → Int32} {N : Nat → Nat → Int64} {n m : Nat} (hn : M 14 0 = nI n) (h6 : n ≤ 6) (hm : m < n) : Run mX11_noMan 1 0 0 [.ref 0, .int (nI m)] (SK, M, N) (fun r h' => h' = (SK, M, N) ∧ r = some (.int 0)) :=
  (s_noMan (nI m) hn h6).post (fun r h' q => ⟨q.1, by
    rcases q.2 with ⟨j, _, _, q⟩ | ⟨q, _⟩
    · exact q
    · exact absurd rfl (q m hm)⟩)
theorem s_noMan1 {M : Nat → Nat → Int32} {N : Nat → Nat → Int64} {n : Nat} {v : Int32} (hn : M 14 0 = nI n) (h6 : n ≤ 6) (hv : ∀ m, m < n → v ≠ nI m) : Run mX11_noMan 1 0 0 [.ref 0, .int v] (SK, M, N) (fun r h' => h' = (SK, M, N) ∧ r = some (.int 1)) :=
  (s_noMan v hn h6).post (fun r h' q => ⟨q.1, by
    rcases q.2 with ⟨j, hj, e, q⟩ | ⟨_, q⟩
    · exact absurd e (hv j hj)
    · exact q⟩)
theorem s_noName0 {M : Nat → Nat → Int32} {N : Nat → Nat → Int64} {n m : Nat} (hn : M 14 1 = nI n) (h6 : n ≤ 6) (hm : m < n) : Run mX11_noName 1 0 0 [.ref 0, .int (nI m)] (SK, M, N) (fun r h' => h' = (SK, M, N) ∧ r = some (.int 0)) :=
  (s_noName (nI m) hn h6).post (fun r h' q => ⟨q.1, by
    rcases q.2 with ⟨j, _, _, q⟩ | ⟨q, _⟩
    · exact q
    · exact absurd rfl (q m hm)⟩)
theorem s_noName1 {M : Nat → Nat → Int32} {N : Nat → Nat → Int64} {n : Nat} {v : Int32} (hn : M 14 1 = nI n) (h6 : n ≤ 6) (hv : ∀ m, m < n → v ≠ nI m) : Run mX11_noName 1 0 0 [.ref 0, .int v] (SK, M, N) (fun r h' => h' = (SK, M, N) ∧ r = some (.int 1)) :=
  (s_noName v hn h6).post (fun r h' q => ⟨q.1, by
    rcases q.2 with ⟨j, hj, e, q⟩ | ⟨_, q⟩
    · exact absurd e (hv j hj)
    · exact q⟩)
theorem s_out0 {v lo hi : Int32} {h : AH} (hv : ¬ (v < lo ∨ hi < v)) : Run mX11_outside 0 0 0 [.int v, .int lo, .int hi] h (fun r h' => h' = h ∧ r = some (.int 0)) :=
  (s_outside v lo hi h).post (fun r h' q => ⟨q.1, by rw [q.2, if_neg hv]⟩)
theorem s_out1 {v lo hi : Int32} {h : AH} (hv : v < lo ∨ hi < v) : Run mX11_outside 0 0 0 [.int v, .int lo, .int hi] h (fun r h' => h' = h ∧ r = some (.int 1)) :=
  (s_outside v lo hi h).post (fun r h' q => ⟨q.1, by rw [q.2, if_pos hv]⟩)
theorem CI.now {M M' : Nat → Nat → Int32} {N : Nat → Nat → Int64} {y y' : YS} {B : Option YS × List Int32 × (Nat → Option (Nat × Nat × (Nat → Int64)))} (h : CI M N (y, B)) (hy : YC M' 14 22 y') (he : ∀ a, ¬ tmpC a → (a < 14 ∨ 88 ≤ a) → M' a = M a) : CI M' N (y', B) := by
  have e : ∀ a, (a < 8 ∨ (87 < a ∧ a < 162) ∨ (170 ≤ a ∧ a < 173) ∨ 181 ≤ a) → M' a = M a := fun a ha => he a (by unfold tmpC; omega) (by omega)
  exact ⟨hy, h.2.1.keep (e 0 (by omega)) (fun a a1 a2 => e a (by omega)), h.2.2.1.keep (e 170 (by omega)) (e 171 (by omega)), fun i hi => (h.2.2.2 i hi).keep (e _ (by omega)) rfl⟩
theorem CQ.now {M M' : Nat → Nat → Int32} {N : Nat → Nat → Int64} {r : Int32} {y y' : YS} {B : Option YS × List Int32 × (Nat → Option (Nat × Nat × (Nat → Int64)))} (h : CI M N (y, B)) (hy : YC M' 14 22 y') (he : ∀ a, ¬ tmpC a → (a < 14 ∨ 88 ≤ a) → M' a = M a) : CQ M N r (y', B) (some (.int r)) (SK, M', N) := ⟨M', N, rfl, rfl, h.now hy he, fun a ha => ⟨he a (by unfold tmpC; omega) (by omega), rfl⟩⟩
set_option maxRecDepth 100000 in
set_option maxHeartbeats 1000000 in
theorem c_man_b1 {M : Nat → Nat → Int32} {N : Nat → Nat → Int64} {n k : Nat} {P : Nat → Int32} {pa : List (Nat → Int32)} {kp : Option YS} {tp : List Int32} {sh : Nat → Option (Nat × Nat × (Nat → Int64))} (hA : AOk ((n, k, P, pa), kp, tp, sh)) (hI : CI M N ((n, k, P, pa), kp, tp, sh)) {ki : Int32} (ha ox : Int32) (h1 : ki < 0 ∨ 4 < ki) : Run mX11_man 30 0 0 [.ref 0, .int ki, .int ha, .int ox] (SK, M, N) (CQ M N (-1) ((n, k, P, pa), kp, tp, sh)) := by
  refine Run.of (by decide) (Nat.le_of_ble_eq_true rfl) ?_
  have hok : OkP n k P := hA.1.1.1
  have hc0 : IsC M 14 n k P := hI.1.1
  have hn6 := hok.1
  have hk6 := hok.2.1
  refine g_iload_n (j := 1) (pc' := 1) dX11_man_0 rfl rfl ?_
  refine g_iconst (v := 0) (pc' := 2) dX11_man_1 (by decide) rfl ?_
  refine g_iconst (v := 4) (pc' := 3) dX11_man_2 (by decide) rfl ?_
  refine g_callS (my := mX11_outside) (st := []) (av := [.int ki, .int 0, .int 4]) (mcr := 0) (msr := 0) (mc := 0) (ms := 0) (pc' := 6) dX11_man_3 kX11_outside wX11_71 rfl (Nat.le_of_ble_eq_true rfl) (by decide) (s_out1 (h1)) rfl ?_
  rintro _ _ ⟨rfl, rfl⟩
  show Go mX11_man _ _ _ 6 [(0, .ref 0), (1, .int ki), (2, .int ha), (3, .int ox)] [.int 1] (SK, M, N) _
  refine g_if_ne (tgt := 28) (pc' := 9) dX11_man_6 (by decide) rfl (fun _ => ?_) (fun hc => absurd hc (by decide))
  refine g_iconst (v := (-1)) (pc' := 29) dX11_man_28 (by decide) rfl ?_
  exact g_iret dX11_man_29 rfl rfl (CQ.same hI)
set_option maxRecDepth 100000 in
set_option maxHeartbeats 1000000 in
theorem c_man_b2 {M : Nat → Nat → Int32} {N : Nat → Nat → Int64} {n k : Nat} {P : Nat → Int32} {pa : List (Nat → Int32)} {kp : Option YS} {tp : List Int32} {sh : Nat → Option (Nat × Nat × (Nat → Int64))} (hA : AOk ((n, k, P, pa), kp, tp, sh)) (hI : CI M N ((n, k, P, pa), kp, tp, sh)) {ki ha : Int32} (ox : Int32) (h1 : ¬ (ki < 0 ∨ 4 < ki)) (h2 : ha < 0 ∨ 9 < ha) : Run mX11_man 30 0 0 [.ref 0, .int ki, .int ha, .int ox] (SK, M, N) (CQ M N (-1) ((n, k, P, pa), kp, tp, sh)) := by
  refine Run.of (by decide) (Nat.le_of_ble_eq_true rfl) ?_
  have hok : OkP n k P := hA.1.1.1
  have hc0 : IsC M 14 n k P := hI.1.1
  have hn6 := hok.1
  have hk6 := hok.2.1
  refine g_iload_n (j := 1) (pc' := 1) dX11_man_0 rfl rfl ?_
  refine g_iconst (v := 0) (pc' := 2) dX11_man_1 (by decide) rfl ?_
  refine g_iconst (v := 4) (pc' := 3) dX11_man_2 (by decide) rfl ?_
  refine g_callS (my := mX11_outside) (st := []) (av := [.int ki, .int 0, .int 4]) (mcr := 0) (msr := 0) (mc := 0) (ms := 0) (pc' := 6) dX11_man_3 kX11_outside wX11_71 rfl (Nat.le_of_ble_eq_true rfl) (by decide) (s_out0 (h1)) rfl ?_
  rintro _ _ ⟨rfl, rfl⟩
  show Go mX11_man _ _ _ 6 [(0, .ref 0), (1, .int ki), (2, .int ha), (3, .int ox)] [.int 0] (SK, M, N) _
  refine g_if_ne (tgt := 28) (pc' := 9) dX11_man_6 (by decide) rfl (fun hc => absurd rfl hc) (fun _ => ?_)
  refine g_iload_n (j := 2) (pc' := 10) dX11_man_9 rfl rfl ?_
  refine g_iconst (v := 0) (pc' := 11) dX11_man_10 (by decide) rfl ?_
  refine g_bipush (v := 9) (pc' := 13) dX11_man_11 (by decide) rfl ?_
  refine g_callS (my := mX11_outside) (st := []) (av := [.int ha, .int 0, .int 9]) (mcr := 0) (msr := 0) (mc := 0) (ms := 0) (pc' := 16) dX11_man_13 kX11_outside wX11_71 rfl (Nat.le_of_ble_eq_true rfl) (by decide) (s_out1 (h2)) rfl ?_
  rintro _ _ ⟨rfl, rfl⟩
  show Go mX11_man _ _ _ 16 [(0, .ref 0), (1, .int ki), (2, .int ha), (3, .int ox)] [.int 1] (SK, M, N) _
  refine g_if_ne (tgt := 28) (pc' := 19) dX11_man_16 (by decide) rfl (fun _ => ?_) (fun hc => absurd hc (by decide))
  refine g_iconst (v := (-1)) (pc' := 29) dX11_man_28 (by decide) rfl ?_
  exact g_iret dX11_man_29 rfl rfl (CQ.same hI)
set_option maxRecDepth 100000 in
set_option maxHeartbeats 1000000 in
theorem c_man_b3 {M : Nat → Nat → Int32} {N : Nat → Nat → Int64} {n k : Nat} {P : Nat → Int32} {pa : List (Nat → Int32)} {kp : Option YS} {tp : List Int32} {sh : Nat → Option (Nat × Nat × (Nat → Int64))} (hA : AOk ((n, k, P, pa), kp, tp, sh)) (hI : CI M N ((n, k, P, pa), kp, tp, sh)) {ki ha ox : Int32} (h1 : ¬ (ki < 0 ∨ 4 < ki)) (h2 : ¬ (ha < 0 ∨ 9 < ha)) (h3 : ox < 1 ∨ 4 < ox) : Run mX11_man 30 0 0 [.ref 0, .int ki, .int ha, .int ox] (SK, M, N) (CQ M N (-1) ((n, k, P, pa), kp, tp, sh)) := by
  refine Run.of (by decide) (Nat.le_of_ble_eq_true rfl) ?_
  have hok : OkP n k P := hA.1.1.1
  have hc0 : IsC M 14 n k P := hI.1.1
  have hn6 := hok.1
  have hk6 := hok.2.1
  refine g_iload_n (j := 1) (pc' := 1) dX11_man_0 rfl rfl ?_
  refine g_iconst (v := 0) (pc' := 2) dX11_man_1 (by decide) rfl ?_
  refine g_iconst (v := 4) (pc' := 3) dX11_man_2 (by decide) rfl ?_
  refine g_callS (my := mX11_outside) (st := []) (av := [.int ki, .int 0, .int 4]) (mcr := 0) (msr := 0) (mc := 0) (ms := 0) (pc' := 6) dX11_man_3 kX11_outside wX11_71 rfl (Nat.le_of_ble_eq_true rfl) (by decide) (s_out0 (h1)) rfl ?_
  rintro _ _ ⟨rfl, rfl⟩
  show Go mX11_man _ _ _ 6 [(0, .ref 0), (1, .int ki), (2, .int ha), (3, .int ox)] [.int 0] (SK, M, N) _
  refine g_if_ne (tgt := 28) (pc' := 9) dX11_man_6 (by decide) rfl (fun hc => absurd rfl hc) (fun _ => ?_)
  refine g_iload_n (j := 2) (pc' := 10) dX11_man_9 rfl rfl ?_
  refine g_iconst (v := 0) (pc' := 11) dX11_man_10 (by decide) rfl ?_
  refine g_bipush (v := 9) (pc' := 13) dX11_man_11 (by decide) rfl ?_
  refine g_callS (my := mX11_outside) (st := []) (av := [.int ha, .int 0, .int 9]) (mcr := 0) (msr := 0) (mc := 0) (ms := 0) (pc' := 16) dX11_man_13 kX11_outside wX11_71 rfl (Nat.le_of_ble_eq_true rfl) (by decide) (s_out0 (h2)) rfl ?_
  rintro _ _ ⟨rfl, rfl⟩
  show Go mX11_man _ _ _ 16 [(0, .ref 0), (1, .int ki), (2, .int ha), (3, .int ox)] [.int 0] (SK, M, N) _
  refine g_if_ne (tgt := 28) (pc' := 19) dX11_man_16 (by decide) rfl (fun hc => absurd rfl hc) (fun _ => ?_)
  refine g_iload_n (j := 3) (pc' := 20) dX11_man_19 rfl rfl ?_
  refine g_iconst (v := 1) (pc' := 21) dX11_man_20 (by decide) rfl ?_
  refine g_iconst (v := 4) (pc' := 22) dX11_man_21 (by decide) rfl ?_
  refine g_callS (my := mX11_outside) (st := []) (av := [.int ox, .int 1, .int 4]) (mcr := 0) (msr := 0) (mc := 0) (ms := 0) (pc' := 25) dX11_man_22 kX11_outside wX11_71 rfl (Nat.le_of_ble_eq_true rfl) (by decide) (s_out1 (h3)) rfl ?_
  rintro _ _ ⟨rfl, rfl⟩
  show Go mX11_man _ _ _ 25 [(0, .ref 0), (1, .int ki), (2, .int ha), (3, .int ox)] [.int 1] (SK, M, N) _
  refine g_if_eq (tgt := 30) (pc' := 28) dX11_man_25 (by decide) rfl (fun hc => absurd hc (by decide)) (fun _ => ?_)
  refine g_iconst (v := (-1)) (pc' := 29) dX11_man_28 (by decide) rfl ?_
  exact g_iret dX11_man_29 rfl rfl (CQ.same hI)
set_option maxRecDepth 100000 in
set_option maxHeartbeats 1000000 in
theorem c_man_f {M : Nat → Nat → Int32} {N : Nat → Nat → Int64} {n k : Nat} {P : Nat → Int32} {pa : List (Nat → Int32)} {kp : Option YS} {tp : List Int32} {sh : Nat → Option (Nat × Nat × (Nat → Int64))} (hA : AOk ((n, k, P, pa), kp, tp, sh)) (hI : CI M N ((n, k, P, pa), kp, tp, sh)) {ki ha ox : Int32} (h1 : ¬ (ki < 0 ∨ 4 < ki)) (h2 : ¬ (ha < 0 ∨ 9 < ha)) (h3 : ¬ (ox < 1 ∨ 4 < ox)) (h6 : n = 6) : Run mX11_man 30 0 0 [.ref 0, .int ki, .int ha, .int ox] (SK, M, N) (CQ M N (-3) ((n, k, P, pa), kp, tp, sh)) := by
  refine Run.of (by decide) (Nat.le_of_ble_eq_true rfl) ?_
  have hok : OkP n k P := hA.1.1.1
  have hc0 : IsC M 14 n k P := hI.1.1
  have hn6 := hok.1
  have hk6 := hok.2.1
  refine g_iload_n (j := 1) (pc' := 1) dX11_man_0 rfl rfl ?_
  refine g_iconst (v := 0) (pc' := 2) dX11_man_1 (by decide) rfl ?_
  refine g_iconst (v := 4) (pc' := 3) dX11_man_2 (by decide) rfl ?_
  refine g_callS (my := mX11_outside) (st := []) (av := [.int ki, .int 0, .int 4]) (mcr := 0) (msr := 0) (mc := 0) (ms := 0) (pc' := 6) dX11_man_3 kX11_outside wX11_71 rfl (Nat.le_of_ble_eq_true rfl) (by decide) (s_out0 (h1)) rfl ?_
  rintro _ _ ⟨rfl, rfl⟩
  show Go mX11_man _ _ _ 6 [(0, .ref 0), (1, .int ki), (2, .int ha), (3, .int ox)] [.int 0] (SK, M, N) _
  refine g_if_ne (tgt := 28) (pc' := 9) dX11_man_6 (by decide) rfl (fun hc => absurd rfl hc) (fun _ => ?_)
  refine g_iload_n (j := 2) (pc' := 10) dX11_man_9 rfl rfl ?_
  refine g_iconst (v := 0) (pc' := 11) dX11_man_10 (by decide) rfl ?_
  refine g_bipush (v := 9) (pc' := 13) dX11_man_11 (by decide) rfl ?_
  refine g_callS (my := mX11_outside) (st := []) (av := [.int ha, .int 0, .int 9]) (mcr := 0) (msr := 0) (mc := 0) (ms := 0) (pc' := 16) dX11_man_13 kX11_outside wX11_71 rfl (Nat.le_of_ble_eq_true rfl) (by decide) (s_out0 (h2)) rfl ?_
  rintro _ _ ⟨rfl, rfl⟩
  show Go mX11_man _ _ _ 16 [(0, .ref 0), (1, .int ki), (2, .int ha), (3, .int ox)] [.int 0] (SK, M, N) _
  refine g_if_ne (tgt := 28) (pc' := 19) dX11_man_16 (by decide) rfl (fun hc => absurd rfl hc) (fun _ => ?_)
  refine g_iload_n (j := 3) (pc' := 20) dX11_man_19 rfl rfl ?_
  refine g_iconst (v := 1) (pc' := 21) dX11_man_20 (by decide) rfl ?_
  refine g_iconst (v := 4) (pc' := 22) dX11_man_21 (by decide) rfl ?_
  refine g_callS (my := mX11_outside) (st := []) (av := [.int ox, .int 1, .int 4]) (mcr := 0) (msr := 0) (mc := 0) (ms := 0) (pc' := 25) dX11_man_22 kX11_outside wX11_71 rfl (Nat.le_of_ble_eq_true rfl) (by decide) (s_out0 (h3)) rfl ?_
  rintro _ _ ⟨rfl, rfl⟩
  show Go mX11_man _ _ _ 25 [(0, .ref 0), (1, .int ki), (2, .int ha), (3, .int ox)] [.int 0] (SK, M, N) _
  refine g_if_eq (tgt := 30) (pc' := 28) dX11_man_25 (by decide) rfl (fun _ => ?_) (fun hc => absurd rfl hc)
  refine g_aload_n (j := 0) (pc' := 31) dX11_man_30 rfl rfl ?_
  refine g_getR (pc' := 34) dX11_man_31 fX11_28 rfl rfl rfl ?_
  refine g_getI (pc' := 37) dX11_man_34 fX11_75 rfl rfl rfl ?_
  refine g_bipush (v := 6) (pc' := 39) dX11_man_37 (by decide) rfl ?_
  rw [hc0.1]
  refine g_icmp_lt (tgt := 45) (pc' := 42) dX11_man_39 (by decide) rfl (fun hc => (absurd hc (by rw [h6]; decide))) (fun hc => ?_)
  refine g_bipush (v := (-3)) (pc' := 44) dX11_man_42 (by decide) rfl ?_
  exact g_iret dX11_man_44 rfl rfl (CQ.same hI)
def manP (P : Nat → Int32) (n : Nat) (ki ha ox : Int32) : Nat → Int32 := upP (upP (upP (upP P 0 (nI (n + 1))) (4 + n) ki) (10 + n) ha) (16 + n) ox
def nameP (P : Nat → Int32) (k : Nat) (wo de : Int32) : Nat → Int32 := upP (upP (upP P 1 (nI (k + 1))) (34 + k) wo) (40 + k) de
set_option maxRecDepth 100000 in
set_option maxHeartbeats 1000000 in
theorem c_man {M : Nat → Nat → Int32} {N : Nat → Nat → Int64} {n k : Nat} {P : Nat → Int32} {pa : List (Nat → Int32)} {kp : Option YS} {tp : List Int32} {sh : Nat → Option (Nat × Nat × (Nat → Int64))} (hA : AOk ((n, k, P, pa), kp, tp, sh)) (hI : CI M N ((n, k, P, pa), kp, tp, sh)) {ki ha ox : Int32} (h1 : ¬ (ki < 0 ∨ 4 < ki)) (h2 : ¬ (ha < 0 ∨ 9 < ha)) (h3 : ¬ (ox < 1 ∨ 4 < ox)) (h6 : n < 6) : Run mX11_man 30 0 0 [.ref 0, .int ki, .int ha, .int ox] (SK, M, N) (CQ M N (nI n) ((n + 1, k, manP P n ki ha ox, []), kp, tp, sh)) := by
  refine Run.of (by decide) (Nat.le_of_ble_eq_true rfl) ?_
  have hok : OkP n k P := hA.1.1.1
  have hc0 : IsC M 14 n k P := hI.1.1
  have hn6 := hok.1
  have hk6 := hok.2.1
  refine g_iload_n (j := 1) (pc' := 1) dX11_man_0 rfl rfl ?_
  refine g_iconst (v := 0) (pc' := 2) dX11_man_1 (by decide) rfl ?_
  refine g_iconst (v := 4) (pc' := 3) dX11_man_2 (by decide) rfl ?_
  refine g_callS (my := mX11_outside) (st := []) (av := [.int ki, .int 0, .int 4]) (mcr := 0) (msr := 0) (mc := 0) (ms := 0) (pc' := 6) dX11_man_3 kX11_outside wX11_71 rfl (Nat.le_of_ble_eq_true rfl) (by decide) (s_out0 (h1)) rfl ?_
  rintro _ _ ⟨rfl, rfl⟩
  show Go mX11_man _ _ _ 6 [(0, .ref 0), (1, .int ki), (2, .int ha), (3, .int ox)] [.int 0] (SK, M, N) _
  refine g_if_ne (tgt := 28) (pc' := 9) dX11_man_6 (by decide) rfl (fun hc => absurd rfl hc) (fun _ => ?_)
  refine g_iload_n (j := 2) (pc' := 10) dX11_man_9 rfl rfl ?_
  refine g_iconst (v := 0) (pc' := 11) dX11_man_10 (by decide) rfl ?_
  refine g_bipush (v := 9) (pc' := 13) dX11_man_11 (by decide) rfl ?_
  refine g_callS (my := mX11_outside) (st := []) (av := [.int ha, .int 0, .int 9]) (mcr := 0) (msr := 0) (mc := 0) (ms := 0) (pc' := 16) dX11_man_13 kX11_outside wX11_71 rfl (Nat.le_of_ble_eq_true rfl) (by decide) (s_out0 (h2)) rfl ?_
  rintro _ _ ⟨rfl, rfl⟩
  show Go mX11_man _ _ _ 16 [(0, .ref 0), (1, .int ki), (2, .int ha), (3, .int ox)] [.int 0] (SK, M, N) _
  refine g_if_ne (tgt := 28) (pc' := 19) dX11_man_16 (by decide) rfl (fun hc => absurd rfl hc) (fun _ => ?_)
  refine g_iload_n (j := 3) (pc' := 20) dX11_man_19 rfl rfl ?_
  refine g_iconst (v := 1) (pc' := 21) dX11_man_20 (by decide) rfl ?_
  refine g_iconst (v := 4) (pc' := 22) dX11_man_21 (by decide) rfl ?_
  refine g_callS (my := mX11_outside) (st := []) (av := [.int ox, .int 1, .int 4]) (mcr := 0) (msr := 0) (mc := 0) (ms := 0) (pc' := 25) dX11_man_22 kX11_outside wX11_71 rfl (Nat.le_of_ble_eq_true rfl) (by decide) (s_out0 (h3)) rfl ?_
  rintro _ _ ⟨rfl, rfl⟩
  show Go mX11_man _ _ _ 25 [(0, .ref 0), (1, .int ki), (2, .int ha), (3, .int ox)] [.int 0] (SK, M, N) _
  refine g_if_eq (tgt := 30) (pc' := 28) dX11_man_25 (by decide) rfl (fun _ => ?_) (fun hc => absurd rfl hc)
  refine g_aload_n (j := 0) (pc' := 31) dX11_man_30 rfl rfl ?_
  refine g_getR (pc' := 34) dX11_man_31 fX11_28 rfl rfl rfl ?_
  refine g_getI (pc' := 37) dX11_man_34 fX11_75 rfl rfl rfl ?_
  refine g_bipush (v := 6) (pc' := 39) dX11_man_37 (by decide) rfl ?_
  rw [hc0.1]
  refine g_icmp_lt (tgt := 45) (pc' := 42) dX11_man_39 (by decide) rfl (fun hc => ?_) (fun hc => (absurd (nI_lt (a := n) (b := 6) h6 (by omega)) hc))
  refine g_aload_n (j := 0) (pc' := 46) dX11_man_45 rfl rfl ?_
  refine g_getR (pc' := 49) dX11_man_46 fX11_35 rfl rfl rfl ?_
  refine g_callV (my := mX5_forget) (k := 22) (st := []) (av := []) (mcr := 0) (msr := 0) (mc := 0) (ms := 0) (pc' := 52) dX11_man_49 kX5_forget wX11_79 rfl ⟨rfl, rfl⟩ rfl (Nat.le_of_ble_eq_true rfl) (by decide) (s_forget) rfl ?_
  rintro _ _ ⟨M1, rfl, rfl, f2, f1, ff⟩
  show Go mX11_man _ _ _ 52 [(0, .ref 0), (1, .int ki), (2, .int ha), (3, .int ox)] [] (SK, M1, N) _
  have hc1 : IsC M1 14 n k P := hc0.keep (fun a a1 a2 => ff a (by omega))
  refine g_aload_n (j := 0) (pc' := 53) dX11_man_52 rfl rfl ?_
  refine g_getR (pc' := 56) dX11_man_53 fX11_28 rfl rfl rfl ?_
  refine g_iload_n (j := 1) (pc' := 57) dX11_man_56 rfl rfl ?_
  refine g_iload_n (j := 2) (pc' := 58) dX11_man_57 rfl rfl ?_
  refine g_iload_n (j := 3) (pc' := 59) dX11_man_58 rfl rfl ?_
  refine g_callV (my := mX4_addMan) (k := 14) (st := []) (av := [.int ki, .int ha, .int ox]) (mcr := 0) (msr := 0) (mc := 0) (ms := 0) (pc' := 62) dX11_man_59 kX4_addMan wX11_82 rfl ⟨rfl, rfl⟩ rfl (Nat.le_of_ble_eq_true rfl) (by decide) (s_addMan ki ha ox par14 hc1.1 h6) rfl ?_
  rintro _ _ ⟨M2, rfl, rfl, g0, g1, g2, g3⟩
  show Go mX11_man _ _ _ 62 [(0, .ref 0), (1, .int ki), (2, .int ha), (3, .int ox)] [] (SK, M2, N) _
  refine g_aload_n (j := 0) (pc' := 63) dX11_man_62 rfl rfl ?_
  refine g_getR (pc' := 66) dX11_man_63 fX11_28 rfl rfl rfl ?_
  refine g_getI (pc' := 69) dX11_man_66 fX11_75 rfl rfl rfl ?_
  refine g_iconst (v := 1) (pc' := 70) dX11_man_69 (by decide) rfl ?_
  rw [g0.1]
  refine g_isub (pc' := 71) dX11_man_70 rfl ?_
  refine g_top (y := nI n) (nI_pred n) ?_
  obtain ⟨-, wv, hw8, hw, -, -⟩ := hI.1
  have hIs : IsC M2 14 (n + 1) k (manP P n ki ha ox) := by
    obtain ⟨e0, e1, e2, e3, e4, e5, e6⟩ := hc1
    unfold manP
    refine ⟨g0.1, ?_, ?_, ?_, ?_, fun m hm => ?_, fun i hi => ?_⟩
    · rw [g0.2.1]; exact e1
    · rw [g0.2.2.1, e2]; simp (disch := omega) only [upP_ne]
    · rw [g0.2.2.2.1, e3]; simp (disch := omega) only [upP_ne]
    · rw [g0.2.2.2.2, e4]; simp (disch := omega) only [upP_ne]
    · by_cases e : m = n
      · subst e
        simp (disch := omega) only [upP_ne, upP_at]
        refine ⟨g1.1, g1.2.1, g1.2.2.1, ?_, ?_⟩
        · rw [(hok.2.2.2.2.2.1 m (Nat.le_refl _) h6).1]; exact g1.2.2.2.1
        · rw [(hok.2.2.2.2.2.1 m (Nat.le_refl _) h6).2]; exact g1.2.2.2.2
      · have h9 := e5 m (by omega)
        simp (disch := omega) only [upP_ne]
        rw [g2 1 m (by omega) (by omega) e, g2 2 m (by omega) (by omega) e, g2 3 m (by omega) (by omega) e, g2 4 m (by omega) (by omega) e, g2 5 m (by omega) (by omega) e]
        exact h9
    · simp (disch := omega) only [upP_ne]
      rw [g3 (14 + 6) (by omega), g3 (14 + 7) (by omega)]
      exact e6 i hi
  exact g_iret dX11_man_71 rfl rfl (CQ.now hI ⟨hIs, wv, hw8, by rw [g3 22 (by omega), f1]; exact hw, by rw [g3 22 (by omega), f2]; rfl, fun i Q q => by simp at q⟩ (fun a _ ha => (g3 a (by omega)).trans (ff a (by omega))))
set_option maxRecDepth 100000 in
set_option maxHeartbeats 1000000 in
theorem c_name_b1 {M : Nat → Nat → Int32} {N : Nat → Nat → Int64} {n k : Nat} {P : Nat → Int32} {pa : List (Nat → Int32)} {kp : Option YS} {tp : List Int32} {sh : Nat → Option (Nat × Nat × (Nat → Int64))} (hA : AOk ((n, k, P, pa), kp, tp, sh)) (hI : CI M N ((n, k, P, pa), kp, tp, sh)) {wo : Int32} (de : Int32) (h1 : wo < 0 ∨ 20 < wo) : Run mX11_name 30 0 0 [.ref 0, .int wo, .int de] (SK, M, N) (CQ M N (-1) ((n, k, P, pa), kp, tp, sh)) := by
  refine Run.of (by decide) (Nat.le_of_ble_eq_true rfl) ?_
  have hok : OkP n k P := hA.1.1.1
  have hc0 : IsC M 14 n k P := hI.1.1
  have hn6 := hok.1
  have hk6 := hok.2.1
  refine g_iload_n (j := 1) (pc' := 1) dX11_name_0 rfl rfl ?_
  refine g_iconst (v := 0) (pc' := 2) dX11_name_1 (by decide) rfl ?_
  refine g_bipush (v := 20) (pc' := 4) dX11_name_2 (by decide) rfl ?_
  refine g_callS (my := mX11_outside) (st := []) (av := [.int wo, .int 0, .int 20]) (mcr := 0) (msr := 0) (mc := 0) (ms := 0) (pc' := 7) dX11_name_4 kX11_outside wX11_71 rfl (Nat.le_of_ble_eq_true rfl) (by decide) (s_out1 (h1)) rfl ?_
  rintro _ _ ⟨rfl, rfl⟩
  show Go mX11_name _ _ _ 7 [(0, .ref 0), (1, .int wo), (2, .int de)] [.int 1] (SK, M, N) _
  refine g_if_ne (tgt := 20) (pc' := 10) dX11_name_7 (by decide) rfl (fun _ => ?_) (fun hc => absurd hc (by decide))
  refine g_iconst (v := (-1)) (pc' := 21) dX11_name_20 (by decide) rfl ?_
  exact g_iret dX11_name_21 rfl rfl (CQ.same hI)
set_option maxRecDepth 100000 in
set_option maxHeartbeats 1000000 in
theorem c_name_b2 {M : Nat → Nat → Int32} {N : Nat → Nat → Int64} {n k : Nat} {P : Nat → Int32} {pa : List (Nat → Int32)} {kp : Option YS} {tp : List Int32} {sh : Nat → Option (Nat × Nat × (Nat → Int64))} (hA : AOk ((n, k, P, pa), kp, tp, sh)) (hI : CI M N ((n, k, P, pa), kp, tp, sh)) {wo de : Int32} (h1 : ¬ (wo < 0 ∨ 20 < wo)) (h2 : de < 0 ∨ 20 < de) : Run mX11_name 30 0 0 [.ref 0, .int wo, .int de] (SK, M, N) (CQ M N (-1) ((n, k, P, pa), kp, tp, sh)) := by
  refine Run.of (by decide) (Nat.le_of_ble_eq_true rfl) ?_
  have hok : OkP n k P := hA.1.1.1
  have hc0 : IsC M 14 n k P := hI.1.1
  have hn6 := hok.1
  have hk6 := hok.2.1
  refine g_iload_n (j := 1) (pc' := 1) dX11_name_0 rfl rfl ?_
  refine g_iconst (v := 0) (pc' := 2) dX11_name_1 (by decide) rfl ?_
  refine g_bipush (v := 20) (pc' := 4) dX11_name_2 (by decide) rfl ?_
  refine g_callS (my := mX11_outside) (st := []) (av := [.int wo, .int 0, .int 20]) (mcr := 0) (msr := 0) (mc := 0) (ms := 0) (pc' := 7) dX11_name_4 kX11_outside wX11_71 rfl (Nat.le_of_ble_eq_true rfl) (by decide) (s_out0 (h1)) rfl ?_
  rintro _ _ ⟨rfl, rfl⟩
  show Go mX11_name _ _ _ 7 [(0, .ref 0), (1, .int wo), (2, .int de)] [.int 0] (SK, M, N) _
  refine g_if_ne (tgt := 20) (pc' := 10) dX11_name_7 (by decide) rfl (fun hc => absurd rfl hc) (fun _ => ?_)
  refine g_iload_n (j := 2) (pc' := 11) dX11_name_10 rfl rfl ?_
  refine g_iconst (v := 0) (pc' := 12) dX11_name_11 (by decide) rfl ?_
  refine g_bipush (v := 20) (pc' := 14) dX11_name_12 (by decide) rfl ?_
  refine g_callS (my := mX11_outside) (st := []) (av := [.int de, .int 0, .int 20]) (mcr := 0) (msr := 0) (mc := 0) (ms := 0) (pc' := 17) dX11_name_14 kX11_outside wX11_71 rfl (Nat.le_of_ble_eq_true rfl) (by decide) (s_out1 (h2)) rfl ?_
  rintro _ _ ⟨rfl, rfl⟩
  show Go mX11_name _ _ _ 17 [(0, .ref 0), (1, .int wo), (2, .int de)] [.int 1] (SK, M, N) _
  refine g_if_eq (tgt := 22) (pc' := 20) dX11_name_17 (by decide) rfl (fun hc => absurd hc (by decide)) (fun _ => ?_)
  refine g_iconst (v := (-1)) (pc' := 21) dX11_name_20 (by decide) rfl ?_
  exact g_iret dX11_name_21 rfl rfl (CQ.same hI)
set_option maxRecDepth 100000 in
set_option maxHeartbeats 1000000 in
theorem c_name_f {M : Nat → Nat → Int32} {N : Nat → Nat → Int64} {n k : Nat} {P : Nat → Int32} {pa : List (Nat → Int32)} {kp : Option YS} {tp : List Int32} {sh : Nat → Option (Nat × Nat × (Nat → Int64))} (hA : AOk ((n, k, P, pa), kp, tp, sh)) (hI : CI M N ((n, k, P, pa), kp, tp, sh)) {wo de : Int32} (h1 : ¬ (wo < 0 ∨ 20 < wo)) (h2 : ¬ (de < 0 ∨ 20 < de)) (h6 : k = 6) : Run mX11_name 30 0 0 [.ref 0, .int wo, .int de] (SK, M, N) (CQ M N (-3) ((n, k, P, pa), kp, tp, sh)) := by
  refine Run.of (by decide) (Nat.le_of_ble_eq_true rfl) ?_
  have hok : OkP n k P := hA.1.1.1
  have hc0 : IsC M 14 n k P := hI.1.1
  have hn6 := hok.1
  have hk6 := hok.2.1
  refine g_iload_n (j := 1) (pc' := 1) dX11_name_0 rfl rfl ?_
  refine g_iconst (v := 0) (pc' := 2) dX11_name_1 (by decide) rfl ?_
  refine g_bipush (v := 20) (pc' := 4) dX11_name_2 (by decide) rfl ?_
  refine g_callS (my := mX11_outside) (st := []) (av := [.int wo, .int 0, .int 20]) (mcr := 0) (msr := 0) (mc := 0) (ms := 0) (pc' := 7) dX11_name_4 kX11_outside wX11_71 rfl (Nat.le_of_ble_eq_true rfl) (by decide) (s_out0 (h1)) rfl ?_
  rintro _ _ ⟨rfl, rfl⟩
  show Go mX11_name _ _ _ 7 [(0, .ref 0), (1, .int wo), (2, .int de)] [.int 0] (SK, M, N) _
  refine g_if_ne (tgt := 20) (pc' := 10) dX11_name_7 (by decide) rfl (fun hc => absurd rfl hc) (fun _ => ?_)
  refine g_iload_n (j := 2) (pc' := 11) dX11_name_10 rfl rfl ?_
  refine g_iconst (v := 0) (pc' := 12) dX11_name_11 (by decide) rfl ?_
  refine g_bipush (v := 20) (pc' := 14) dX11_name_12 (by decide) rfl ?_
  refine g_callS (my := mX11_outside) (st := []) (av := [.int de, .int 0, .int 20]) (mcr := 0) (msr := 0) (mc := 0) (ms := 0) (pc' := 17) dX11_name_14 kX11_outside wX11_71 rfl (Nat.le_of_ble_eq_true rfl) (by decide) (s_out0 (h2)) rfl ?_
  rintro _ _ ⟨rfl, rfl⟩
  show Go mX11_name _ _ _ 17 [(0, .ref 0), (1, .int wo), (2, .int de)] [.int 0] (SK, M, N) _
  refine g_if_eq (tgt := 22) (pc' := 20) dX11_name_17 (by decide) rfl (fun _ => ?_) (fun hc => absurd rfl hc)
  refine g_aload_n (j := 0) (pc' := 23) dX11_name_22 rfl rfl ?_
  refine g_getR (pc' := 26) dX11_name_23 fX11_28 rfl rfl rfl ?_
  refine g_getI (pc' := 29) dX11_name_26 fX11_86 rfl rfl rfl ?_
  refine g_bipush (v := 6) (pc' := 31) dX11_name_29 (by decide) rfl ?_
  rw [hc0.2.1]
  refine g_icmp_lt (tgt := 37) (pc' := 34) dX11_name_31 (by decide) rfl (fun hc => (absurd hc (by rw [h6]; decide))) (fun hc => ?_)
  refine g_bipush (v := (-3)) (pc' := 36) dX11_name_34 (by decide) rfl ?_
  exact g_iret dX11_name_36 rfl rfl (CQ.same hI)
set_option maxRecDepth 100000 in
set_option maxHeartbeats 1000000 in
theorem c_name {M : Nat → Nat → Int32} {N : Nat → Nat → Int64} {n k : Nat} {P : Nat → Int32} {pa : List (Nat → Int32)} {kp : Option YS} {tp : List Int32} {sh : Nat → Option (Nat × Nat × (Nat → Int64))} (hA : AOk ((n, k, P, pa), kp, tp, sh)) (hI : CI M N ((n, k, P, pa), kp, tp, sh)) {wo de : Int32} (h1 : ¬ (wo < 0 ∨ 20 < wo)) (h2 : ¬ (de < 0 ∨ 20 < de)) (h6 : k < 6) : Run mX11_name 30 0 0 [.ref 0, .int wo, .int de] (SK, M, N) (CQ M N (nI k) ((n, k + 1, nameP P k wo de, []), kp, tp, sh)) := by
  refine Run.of (by decide) (Nat.le_of_ble_eq_true rfl) ?_
  have hok : OkP n k P := hA.1.1.1
  have hc0 : IsC M 14 n k P := hI.1.1
  have hn6 := hok.1
  have hk6 := hok.2.1
  refine g_iload_n (j := 1) (pc' := 1) dX11_name_0 rfl rfl ?_
  refine g_iconst (v := 0) (pc' := 2) dX11_name_1 (by decide) rfl ?_
  refine g_bipush (v := 20) (pc' := 4) dX11_name_2 (by decide) rfl ?_
  refine g_callS (my := mX11_outside) (st := []) (av := [.int wo, .int 0, .int 20]) (mcr := 0) (msr := 0) (mc := 0) (ms := 0) (pc' := 7) dX11_name_4 kX11_outside wX11_71 rfl (Nat.le_of_ble_eq_true rfl) (by decide) (s_out0 (h1)) rfl ?_
  rintro _ _ ⟨rfl, rfl⟩
  show Go mX11_name _ _ _ 7 [(0, .ref 0), (1, .int wo), (2, .int de)] [.int 0] (SK, M, N) _
  refine g_if_ne (tgt := 20) (pc' := 10) dX11_name_7 (by decide) rfl (fun hc => absurd rfl hc) (fun _ => ?_)
  refine g_iload_n (j := 2) (pc' := 11) dX11_name_10 rfl rfl ?_
  refine g_iconst (v := 0) (pc' := 12) dX11_name_11 (by decide) rfl ?_
  refine g_bipush (v := 20) (pc' := 14) dX11_name_12 (by decide) rfl ?_
  refine g_callS (my := mX11_outside) (st := []) (av := [.int de, .int 0, .int 20]) (mcr := 0) (msr := 0) (mc := 0) (ms := 0) (pc' := 17) dX11_name_14 kX11_outside wX11_71 rfl (Nat.le_of_ble_eq_true rfl) (by decide) (s_out0 (h2)) rfl ?_
  rintro _ _ ⟨rfl, rfl⟩
  show Go mX11_name _ _ _ 17 [(0, .ref 0), (1, .int wo), (2, .int de)] [.int 0] (SK, M, N) _
  refine g_if_eq (tgt := 22) (pc' := 20) dX11_name_17 (by decide) rfl (fun _ => ?_) (fun hc => absurd rfl hc)
  refine g_aload_n (j := 0) (pc' := 23) dX11_name_22 rfl rfl ?_
  refine g_getR (pc' := 26) dX11_name_23 fX11_28 rfl rfl rfl ?_
  refine g_getI (pc' := 29) dX11_name_26 fX11_86 rfl rfl rfl ?_
  refine g_bipush (v := 6) (pc' := 31) dX11_name_29 (by decide) rfl ?_
  rw [hc0.2.1]
  refine g_icmp_lt (tgt := 37) (pc' := 34) dX11_name_31 (by decide) rfl (fun hc => ?_) (fun hc => (absurd (nI_lt (a := k) (b := 6) h6 (by omega)) hc))
  refine g_aload_n (j := 0) (pc' := 38) dX11_name_37 rfl rfl ?_
  refine g_getR (pc' := 41) dX11_name_38 fX11_35 rfl rfl rfl ?_
  refine g_callV (my := mX5_forget) (k := 22) (st := []) (av := []) (mcr := 0) (msr := 0) (mc := 0) (ms := 0) (pc' := 44) dX11_name_41 kX5_forget wX11_79 rfl ⟨rfl, rfl⟩ rfl (Nat.le_of_ble_eq_true rfl) (by decide) (s_forget) rfl ?_
  rintro _ _ ⟨M1, rfl, rfl, f2, f1, ff⟩
  show Go mX11_name _ _ _ 44 [(0, .ref 0), (1, .int wo), (2, .int de)] [] (SK, M1, N) _
  have hc1 : IsC M1 14 n k P := hc0.keep (fun a a1 a2 => ff a (by omega))
  refine g_aload_n (j := 0) (pc' := 45) dX11_name_44 rfl rfl ?_
  refine g_getR (pc' := 48) dX11_name_45 fX11_28 rfl rfl rfl ?_
  refine g_iload_n (j := 1) (pc' := 49) dX11_name_48 rfl rfl ?_
  refine g_iload_n (j := 2) (pc' := 50) dX11_name_49 rfl rfl ?_
  refine g_callV (my := mX4_addName) (k := 14) (st := []) (av := [.int wo, .int de]) (mcr := 0) (msr := 0) (mc := 0) (ms := 0) (pc' := 53) dX11_name_50 kX4_addName wX11_89 rfl ⟨rfl, rfl⟩ rfl (Nat.le_of_ble_eq_true rfl) (by decide) (s_addName wo de par14 hc1.2.1 h6) rfl ?_
  rintro _ _ ⟨M2, rfl, rfl, g0, g1, g2, g3⟩
  show Go mX11_name _ _ _ 53 [(0, .ref 0), (1, .int wo), (2, .int de)] [] (SK, M2, N) _
  refine g_aload_n (j := 0) (pc' := 54) dX11_name_53 rfl rfl ?_
  refine g_getR (pc' := 57) dX11_name_54 fX11_28 rfl rfl rfl ?_
  refine g_getI (pc' := 60) dX11_name_57 fX11_86 rfl rfl rfl ?_
  refine g_iconst (v := 1) (pc' := 61) dX11_name_60 (by decide) rfl ?_
  rw [g0.2.1]
  refine g_isub (pc' := 62) dX11_name_61 rfl ?_
  refine g_top (y := nI k) (nI_pred k) ?_
  obtain ⟨-, wv, hw8, hw, -, -⟩ := hI.1
  have hIs : IsC M2 14 n (k + 1) (nameP P k wo de) := by
    obtain ⟨e0, e1, e2, e3, e4, e5, e6⟩ := hc1
    unfold nameP
    refine ⟨?_, g0.2.1, ?_, ?_, ?_, fun m hm => ?_, fun i hi => ?_⟩
    · rw [g0.1]; exact e0
    · rw [g0.2.2.1, e2]; simp (disch := omega) only [upP_ne]
    · rw [g0.2.2.2.1, e3]; simp (disch := omega) only [upP_ne]
    · rw [g0.2.2.2.2, e4]; simp (disch := omega) only [upP_ne]
    · have h9 := e5 m hm
      simp (disch := omega) only [upP_ne]
      rw [g3 (14 + 1) (by omega) (by omega) (by omega), g3 (14 + 2) (by omega) (by omega) (by omega), g3 (14 + 3) (by omega) (by omega) (by omega), g3 (14 + 4) (by omega) (by omega) (by omega), g3 (14 + 5) (by omega) (by omega) (by omega)]
      exact h9
    · by_cases e : i = k
      · subst e
        simp (disch := omega) only [upP_ne, upP_at]
        exact g1
      · simp (disch := omega) only [upP_ne]
        rw [g2 6 i (by omega) (by omega) e, g2 7 i (by omega) (by omega) e]
        exact e6 i (by omega)
  exact g_iret dX11_name_62 rfl rfl (CQ.now hI ⟨hIs, wv, hw8, by rw [g3 22 (by omega) (by omega) (by omega), f1]; exact hw, by rw [g3 22 (by omega) (by omega) (by omega), f2]; rfl, fun i Q q => by simp at q⟩ (fun a _ ha => (g3 a (by omega) (by omega) (by omega)).trans (ff a (by omega))))
set_option maxRecDepth 100000 in
set_option maxHeartbeats 1000000 in
theorem c_stones_b {M : Nat → Nat → Int32} {N : Nat → Nat → Int64} {n k : Nat} {P : Nat → Int32} {pa : List (Nat → Int32)} {kp : Option YS} {tp : List Int32} {sh : Nat → Option (Nat × Nat × (Nat → Int64))} (hA : AOk ((n, k, P, pa), kp, tp, sh)) (hI : CI M N ((n, k, P, pa), kp, tp, sh)) {v : Int32} (h1 : v < 0 ∨ 20 < v) : Run mX11_stones 30 0 0 [.ref 0, .int v] (SK, M, N) (CQ M N (-1) ((n, k, P, pa), kp, tp, sh)) := by
  refine Run.of (by decide) (Nat.le_of_ble_eq_true rfl) ?_
  have hok : OkP n k P := hA.1.1.1
  have hc0 : IsC M 14 n k P := hI.1.1
  have hn6 := hok.1
  have hk6 := hok.2.1
  refine g_iload_n (j := 1) (pc' := 1) dX11_stones_0 rfl rfl ?_
  refine g_iconst (v := 0) (pc' := 2) dX11_stones_1 (by decide) rfl ?_
  refine g_bipush (v := 20) (pc' := 4) dX11_stones_2 (by decide) rfl ?_
  refine g_callS (my := mX11_outside) (st := []) (av := [.int v, .int 0, .int 20]) (mcr := 0) (msr := 0) (mc := 0) (ms := 0) (pc' := 7) dX11_stones_4 kX11_outside wX11_71 rfl (Nat.le_of_ble_eq_true rfl) (by decide) (s_out1 (h1)) rfl ?_
  rintro _ _ ⟨rfl, rfl⟩
  show Go mX11_stones _ _ _ 7 [(0, .ref 0), (1, .int v)] [.int 1] (SK, M, N) _
  refine g_if_eq (tgt := 12) (pc' := 10) dX11_stones_7 (by decide) rfl (fun hc => absurd hc (by decide)) (fun _ => ?_)
  refine g_iconst (v := (-1)) (pc' := 11) dX11_stones_10 (by decide) rfl ?_
  exact g_iret dX11_stones_11 rfl rfl (CQ.same hI)
/-- one place of now's own numbers is changed -/
theorem IsC.set {M : Nat → Nat → Int32} {n k : Nat} {P : Nat → Int32} (h : IsC M 14 n k P) (hn : n ≤ 6) (hk : k ≤ 6) (v : Int32) : IsC (um M 14 2 v) 14 n k (upP P 2 v) ∧ IsC (um M 14 4 v) 14 n k (upP P 46 v) := by
  obtain ⟨e0, e1, e2, e3, e4, e5, e6⟩ := h
  refine ⟨⟨by rw [um_at2 (by omega)]; exact e0, by rw [um_at2 (by omega)]; exact e1, by rw [um_at, upP_at], by rw [um_at2 (by omega), upP_ne (by omega)]; exact e3, by rw [um_at2 (by omega), upP_ne (by omega)]; exact e4, fun m hm => ?_, fun i hi => ?_⟩, ⟨by rw [um_at2 (by omega)]; exact e0, by rw [um_at2 (by omega)]; exact e1, by rw [um_at2 (by omega), upP_ne (by omega)]; exact e2, by rw [um_at2 (by omega), upP_ne (by omega)]; exact e3, by rw [um_at, upP_at], fun m hm => ?_, fun i hi => ?_⟩⟩
  · simp (disch := omega) only [upP_ne, um_ne]; exact e5 m hm
  · simp (disch := omega) only [upP_ne, um_ne]; exact e6 i hi
  · simp (disch := omega) only [upP_ne, um_ne]; exact e5 m hm
  · simp (disch := omega) only [upP_ne, um_ne]; exact e6 i hi
theorem YC.now {M M' : Nat → Nat → Int32} {n k : Nat} {P P' : Nat → Int32} {pa : List (Nat → Int32)} (h : YC M 14 22 (n, k, P, pa)) (h1 : IsC M' 14 n k P') (h2 : ∀ a, 22 ≤ a → a < 88 → M' a = M a) : YC M' 14 22 (n, k, P', pa) := by
  obtain ⟨-, w, hw, g2, g3, g4⟩ := h
  exact ⟨h1, w, hw, by rw [h2 22 (by omega) (by omega)]; exact g2, by rw [h2 22 (by omega) (by omega)]; exact g3, fun i Q hi => (g4 i Q hi).keep (fun a a1 a2 => h2 a (by omega) (by omega))⟩
set_option maxRecDepth 100000 in
set_option maxHeartbeats 1000000 in
theorem c_stones {M : Nat → Nat → Int32} {N : Nat → Nat → Int64} {n k : Nat} {P : Nat → Int32} {pa : List (Nat → Int32)} {kp : Option YS} {tp : List Int32} {sh : Nat → Option (Nat × Nat × (Nat → Int64))} (hA : AOk ((n, k, P, pa), kp, tp, sh)) (hI : CI M N ((n, k, P, pa), kp, tp, sh)) {v : Int32} (h1 : ¬ (v < 0 ∨ 20 < v)) : Run mX11_stones 30 0 0 [.ref 0, .int v] (SK, M, N) (CQ M N (P 2) ((n, k, upP P 2 v, pa), kp, tp, sh)) := by
  refine Run.of (by decide) (Nat.le_of_ble_eq_true rfl) ?_
  have hok : OkP n k P := hA.1.1.1
  have hc0 : IsC M 14 n k P := hI.1.1
  have hn6 := hok.1
  have hk6 := hok.2.1
  refine g_iload_n (j := 1) (pc' := 1) dX11_stones_0 rfl rfl ?_
  refine g_iconst (v := 0) (pc' := 2) dX11_stones_1 (by decide) rfl ?_
  refine g_bipush (v := 20) (pc' := 4) dX11_stones_2 (by decide) rfl ?_
  refine g_callS (my := mX11_outside) (st := []) (av := [.int v, .int 0, .int 20]) (mcr := 0) (msr := 0) (mc := 0) (ms := 0) (pc' := 7) dX11_stones_4 kX11_outside wX11_71 rfl (Nat.le_of_ble_eq_true rfl) (by decide) (s_out0 (h1)) rfl ?_
  rintro _ _ ⟨rfl, rfl⟩
  show Go mX11_stones _ _ _ 7 [(0, .ref 0), (1, .int v)] [.int 0] (SK, M, N) _
  refine g_if_eq (tgt := 12) (pc' := 10) dX11_stones_7 (by decide) rfl (fun _ => ?_) (fun hc => absurd rfl hc)
  refine g_aload_n (j := 0) (pc' := 13) dX11_stones_12 rfl rfl ?_
  refine g_getR (pc' := 16) dX11_stones_13 fX11_28 rfl rfl rfl ?_
  refine g_getI (pc' := 19) dX11_stones_16 fX11_117 rfl rfl rfl ?_
  refine g_top (y := P 2) (hc0.2.2.1) ?_
  refine g_istore_n (L' := [(0, .ref 0), (1, .int v), (2, .int (P 2))]) (pc' := 20) dX11_stones_19 (by decide) rfl rfl ?_
  refine g_aload_n (j := 0) (pc' := 21) dX11_stones_20 rfl rfl ?_
  refine g_getR (pc' := 24) dX11_stones_21 fX11_28 rfl rfl rfl ?_
  refine g_iload_n (j := 1) (pc' := 25) dX11_stones_24 rfl rfl ?_
  refine g_putI (pc' := 28) dX11_stones_25 fX11_117 rfl rfl ⟨rfl, rfl⟩ rfl ?_
  refine g_iload_n (j := 2) (pc' := 29) dX11_stones_28 rfl rfl ?_
  exact g_iret dX11_stones_29 rfl rfl (CQ.now hI (hI.1.now (hc0.set hn6 hk6 v).1 (fun a a1 a2 => um_ne (by omega))) (fun a _ ha => um_ne (by omega)))
set_option maxRecDepth 100000 in
set_option maxHeartbeats 1000000 in
theorem c_seed_b {M : Nat → Nat → Int32} {N : Nat → Nat → Int64} {n k : Nat} {P : Nat → Int32} {pa : List (Nat → Int32)} {kp : Option YS} {tp : List Int32} {sh : Nat → Option (Nat × Nat × (Nat → Int64))} (hA : AOk ((n, k, P, pa), kp, tp, sh)) (hI : CI M N ((n, k, P, pa), kp, tp, sh)) {v : Int32} (h1 : v < 0) : Run mX11_seed 30 0 0 [.ref 0, .int v] (SK, M, N) (CQ M N (-1) ((n, k, P, pa), kp, tp, sh)) := by
  refine Run.of (by decide) (Nat.le_of_ble_eq_true rfl) ?_
  have hok : OkP n k P := hA.1.1.1
  have hc0 : IsC M 14 n k P := hI.1.1
  have hn6 := hok.1
  have hk6 := hok.2.1
  refine g_iload_n (j := 1) (pc' := 1) dX11_seed_0 rfl rfl ?_
  refine g_if_ge (tgt := 6) (pc' := 4) dX11_seed_1 (by decide) rfl (fun hc => (absurd h1 (Int32.not_lt.mpr hc))) (fun hc => ?_)
  refine g_iconst (v := (-1)) (pc' := 5) dX11_seed_4 (by decide) rfl ?_
  exact g_iret dX11_seed_5 rfl rfl (CQ.same hI)
set_option maxRecDepth 100000 in
set_option maxHeartbeats 1000000 in
theorem c_seed {M : Nat → Nat → Int32} {N : Nat → Nat → Int64} {n k : Nat} {P : Nat → Int32} {pa : List (Nat → Int32)} {kp : Option YS} {tp : List Int32} {sh : Nat → Option (Nat × Nat × (Nat → Int64))} (hA : AOk ((n, k, P, pa), kp, tp, sh)) (hI : CI M N ((n, k, P, pa), kp, tp, sh)) {v : Int32} (h1 : ¬ v < 0) : Run mX11_seed 30 0 0 [.ref 0, .int v] (SK, M, N) (CQ M N (P 46) ((n, k, upP P 46 v, pa), kp, tp, sh)) := by
  refine Run.of (by decide) (Nat.le_of_ble_eq_true rfl) ?_
  have hok : OkP n k P := hA.1.1.1
  have hc0 : IsC M 14 n k P := hI.1.1
  have hn6 := hok.1
  have hk6 := hok.2.1
  refine g_iload_n (j := 1) (pc' := 1) dX11_seed_0 rfl rfl ?_
  refine g_if_ge (tgt := 6) (pc' := 4) dX11_seed_1 (by decide) rfl (fun hc => ?_) (fun hc => (absurd (Int32.not_lt.mp h1) hc))
  refine g_aload_n (j := 0) (pc' := 7) dX11_seed_6 rfl rfl ?_
  refine g_getR (pc' := 10) dX11_seed_7 fX11_28 rfl rfl rfl ?_
  refine g_getI (pc' := 13) dX11_seed_10 fX11_157 rfl rfl rfl ?_
  refine g_top (y := P 46) (hc0.2.2.2.2.1) ?_
  refine g_istore_n (L' := [(0, .ref 0), (1, .int v), (2, .int (P 46))]) (pc' := 14) dX11_seed_13 (by decide) rfl rfl ?_
  refine g_aload_n (j := 0) (pc' := 15) dX11_seed_14 rfl rfl ?_
  refine g_getR (pc' := 18) dX11_seed_15 fX11_28 rfl rfl rfl ?_
  refine g_iload_n (j := 1) (pc' := 19) dX11_seed_18 rfl rfl ?_
  refine g_putI (pc' := 22) dX11_seed_19 fX11_157 rfl rfl ⟨rfl, rfl⟩ rfl ?_
  refine g_iload_n (j := 2) (pc' := 23) dX11_seed_22 rfl rfl ?_
  exact g_iret dX11_seed_23 rfl rfl (CQ.now hI (hI.1.now (hc0.set hn6 hk6 v).2 (fun a a1 a2 => um_ne (by omega))) (fun a _ ha => um_ne (by omega)))
set_option maxRecDepth 100000 in
set_option maxHeartbeats 1000000 in
theorem c_values_b1 {M : Nat → Nat → Int32} {N : Nat → Nat → Int64} {n k : Nat} {P : Nat → Int32} {pa : List (Nat → Int32)} {kp : Option YS} {tp : List Int32} {sh : Nat → Option (Nat × Nat × (Nat → Int64))} (hA : AOk ((n, k, P, pa), kp, tp, sh)) (hI : CI M N ((n, k, P, pa), kp, tp, sh)) {v : Int32} (u : Int32) (h1 : ∀ m, m < n → v ≠ nI m) : Run mX11_values 30 0 0 [.ref 0, .int v, .int u] (SK, M, N) (CQ M N (-1) ((n, k, P, pa), kp, tp, sh)) := by
  refine Run.of (by decide) (Nat.le_of_ble_eq_true rfl) ?_
  have hok : OkP n k P := hA.1.1.1
  have hc0 : IsC M 14 n k P := hI.1.1
  have hn6 := hok.1
  have hk6 := hok.2.1
  refine g_aload_n (j := 0) (pc' := 1) dX11_values_0 rfl rfl ?_
  refine g_iload_n (j := 1) (pc' := 2) dX11_values_1 rfl rfl ?_
  refine g_callV (my := mX11_noMan) (k := 0) (st := []) (av := [.int v]) (mcr := 0) (msr := 0) (mc := 0) (ms := 0) (pc' := 5) dX11_values_2 kX11_noMan wX11_93 rfl ⟨rfl, rfl⟩ rfl (Nat.le_of_ble_eq_true rfl) (by decide) (s_noMan1 hc0.1 hn6 (h1)) rfl ?_
  rintro _ _ ⟨rfl, rfl⟩
  show Go mX11_values _ _ _ 5 [(0, .ref 0), (1, .int v), (2, .int u)] [.int 1] (SK, M, N) _
  refine g_if_ne (tgt := 16) (pc' := 8) dX11_values_5 (by decide) rfl (fun _ => ?_) (fun hc => absurd hc (by decide))
  refine g_iconst (v := (-1)) (pc' := 17) dX11_values_16 (by decide) rfl ?_
  exact g_iret dX11_values_17 rfl rfl (CQ.same hI)
set_option maxRecDepth 100000 in
set_option maxHeartbeats 1000000 in
theorem c_values_b2 {M : Nat → Nat → Int32} {N : Nat → Nat → Int64} {n k : Nat} {P : Nat → Int32} {pa : List (Nat → Int32)} {kp : Option YS} {tp : List Int32} {sh : Nat → Option (Nat × Nat × (Nat → Int64))} (hA : AOk ((n, k, P, pa), kp, tp, sh)) (hI : CI M N ((n, k, P, pa), kp, tp, sh)) {m : Nat} {u : Int32} (hm : m < n) (h1 : ∀ i, i < k → u ≠ nI i) : Run mX11_values 30 0 0 [.ref 0, .int (nI m), .int u] (SK, M, N) (CQ M N (-1) ((n, k, P, pa), kp, tp, sh)) := by
  refine Run.of (by decide) (Nat.le_of_ble_eq_true rfl) ?_
  have hok : OkP n k P := hA.1.1.1
  have hc0 : IsC M 14 n k P := hI.1.1
  have hn6 := hok.1
  have hk6 := hok.2.1
  refine g_aload_n (j := 0) (pc' := 1) dX11_values_0 rfl rfl ?_
  refine g_iload_n (j := 1) (pc' := 2) dX11_values_1 rfl rfl ?_
  refine g_callV (my := mX11_noMan) (k := 0) (st := []) (av := [.int (nI m)]) (mcr := 0) (msr := 0) (mc := 0) (ms := 0) (pc' := 5) dX11_values_2 kX11_noMan wX11_93 rfl ⟨rfl, rfl⟩ rfl (Nat.le_of_ble_eq_true rfl) (by decide) (s_noMan0 hc0.1 hn6 (hm)) rfl ?_
  rintro _ _ ⟨rfl, rfl⟩
  show Go mX11_values _ _ _ 5 [(0, .ref 0), (1, .int (nI m)), (2, .int u)] [.int 0] (SK, M, N) _
  refine g_if_ne (tgt := 16) (pc' := 8) dX11_values_5 (by decide) rfl (fun hc => absurd rfl hc) (fun _ => ?_)
  refine g_aload_n (j := 0) (pc' := 9) dX11_values_8 rfl rfl ?_
  refine g_iload_n (j := 2) (pc' := 10) dX11_values_9 rfl rfl ?_
  refine g_callV (my := mX11_noName) (k := 0) (st := []) (av := [.int u]) (mcr := 0) (msr := 0) (mc := 0) (ms := 0) (pc' := 13) dX11_values_10 kX11_noName wX11_128 rfl ⟨rfl, rfl⟩ rfl (Nat.le_of_ble_eq_true rfl) (by decide) (s_noName1 hc0.2.1 hk6 (h1)) rfl ?_
  rintro _ _ ⟨rfl, rfl⟩
  show Go mX11_values _ _ _ 13 [(0, .ref 0), (1, .int (nI m)), (2, .int u)] [.int 1] (SK, M, N) _
  refine g_if_eq (tgt := 18) (pc' := 16) dX11_values_13 (by decide) rfl (fun hc => absurd hc (by decide)) (fun _ => ?_)
  refine g_iconst (v := (-1)) (pc' := 17) dX11_values_16 (by decide) rfl ?_
  exact g_iret dX11_values_17 rfl rfl (CQ.same hI)
set_option maxRecDepth 100000 in
set_option maxHeartbeats 1000000 in
theorem c_values {M : Nat → Nat → Int32} {N : Nat → Nat → Int64} {n k : Nat} {P : Nat → Int32} {pa : List (Nat → Int32)} {kp : Option YS} {tp : List Int32} {sh : Nat → Option (Nat × Nat × (Nat → Int64))} (hA : AOk ((n, k, P, pa), kp, tp, sh)) (hI : CI M N ((n, k, P, pa), kp, tp, sh)) {m i : Nat} (hm : m < n) (hi : i < k) : Run mX11_values 30 0 0 [.ref 0, .int (nI m), .int (nI i)] (SK, M, N) (CQ M N (valP P m i + 100) ((n, k, P, pa), kp, tp, sh)) := by
  refine Run.of (by decide) (Nat.le_of_ble_eq_true rfl) ?_
  have hok : OkP n k P := hA.1.1.1
  have hc0 : IsC M 14 n k P := hI.1.1
  have hn6 := hok.1
  have hk6 := hok.2.1
  refine g_aload_n (j := 0) (pc' := 1) dX11_values_0 rfl rfl ?_
  refine g_iload_n (j := 1) (pc' := 2) dX11_values_1 rfl rfl ?_
  refine g_callV (my := mX11_noMan) (k := 0) (st := []) (av := [.int (nI m)]) (mcr := 0) (msr := 0) (mc := 0) (ms := 0) (pc' := 5) dX11_values_2 kX11_noMan wX11_93 rfl ⟨rfl, rfl⟩ rfl (Nat.le_of_ble_eq_true rfl) (by decide) (s_noMan0 hc0.1 hn6 (hm)) rfl ?_
  rintro _ _ ⟨rfl, rfl⟩
  show Go mX11_values _ _ _ 5 [(0, .ref 0), (1, .int (nI m)), (2, .int (nI i))] [.int 0] (SK, M, N) _
  refine g_if_ne (tgt := 16) (pc' := 8) dX11_values_5 (by decide) rfl (fun hc => absurd rfl hc) (fun _ => ?_)
  refine g_aload_n (j := 0) (pc' := 9) dX11_values_8 rfl rfl ?_
  refine g_iload_n (j := 2) (pc' := 10) dX11_values_9 rfl rfl ?_
  refine g_callV (my := mX11_noName) (k := 0) (st := []) (av := [.int (nI i)]) (mcr := 0) (msr := 0) (mc := 0) (ms := 0) (pc' := 13) dX11_values_10 kX11_noName wX11_128 rfl ⟨rfl, rfl⟩ rfl (Nat.le_of_ble_eq_true rfl) (by decide) (s_noName0 hc0.2.1 hk6 (hi)) rfl ?_
  rintro _ _ ⟨rfl, rfl⟩
  show Go mX11_values _ _ _ 13 [(0, .ref 0), (1, .int (nI m)), (2, .int (nI i))] [.int 0] (SK, M, N) _
  refine g_if_eq (tgt := 18) (pc' := 16) dX11_values_13 (by decide) rfl (fun _ => ?_) (fun hc => absurd rfl hc)
  refine g_aload_n (j := 0) (pc' := 19) dX11_values_18 rfl rfl ?_
  refine g_getR (pc' := 22) dX11_values_19 fX11_10 rfl rfl rfl ?_
  refine g_aload_n (j := 0) (pc' := 23) dX11_values_22 rfl rfl ?_
  refine g_getR (pc' := 26) dX11_values_23 fX11_28 rfl rfl rfl ?_
  refine g_iload_n (j := 1) (pc' := 27) dX11_values_26 rfl rfl ?_
  refine g_iload_n (j := 2) (pc' := 28) dX11_values_27 rfl rfl ?_
  refine g_callV (my := mX0_esteem) (k := 1) (st := []) (av := [.ref 14, .int (nI m), .int (nI i)]) (mcr := 0) (msr := 0) (mc := 0) (ms := 0) (pc' := 31) dX11_values_28 kX0_esteem wX11_140 rfl ⟨rfl, rfl⟩ rfl (Nat.le_of_ble_eq_true rfl) (by decide) (s_valP isPar14 hok hc0 hm hi) rfl ?_
  rintro _ _ ⟨rfl, rfl⟩
  show Go mX11_values _ _ _ 31 [(0, .ref 0), (1, .int (nI m)), (2, .int (nI i))] [.int (valP P m i)] (SK, M, N) _
  refine g_bipush (v := 100) (pc' := 33) dX11_values_31 (by decide) rfl ?_
  refine g_iadd (pc' := 34) dX11_values_33 rfl ?_
  exact g_iret dX11_values_34 rfl rfl (CQ.same hI)
def ofV (P : Nat → Int32) (n m : Nat) : Nat → Int32
  | 0 => P (4 + m)
  | 1 => P (10 + m)
  | 2 => P (16 + m)
  | 3 => P (22 + m) + 10000
  | 4 => P (28 + m)
  | 5 => offP P (P 2) m
  | _ => nI (placF (offP P (P 2)) n m)
set_option maxRecDepth 100000 in
set_option maxHeartbeats 1000000 in
theorem c_of_b1 {M : Nat → Nat → Int32} {N : Nat → Nat → Int64} {n k : Nat} {P : Nat → Int32} {pa : List (Nat → Int32)} {kp : Option YS} {tp : List Int32} {sh : Nat → Option (Nat × Nat × (Nat → Int64))} (hA : AOk ((n, k, P, pa), kp, tp, sh)) (hI : CI M N ((n, k, P, pa), kp, tp, sh)) {v : Int32} (u : Int32) (h1 : ∀ m, m < n → v ≠ nI m) : Run mX11_of 30 0 0 [.ref 0, .int v, .int u] (SK, M, N) (CQ M N (-1) ((n, k, P, pa), kp, tp, sh)) := by
  refine Run.of (by decide) (Nat.le_of_ble_eq_true rfl) ?_
  have hok : OkP n k P := hA.1.1.1
  have hc0 : IsC M 14 n k P := hI.1.1
  have hn6 := hok.1
  have hk6 := hok.2.1
  refine g_aload_n (j := 0) (pc' := 1) dX11_of_0 rfl rfl ?_
  refine g_iload_n (j := 1) (pc' := 2) dX11_of_1 rfl rfl ?_
  refine g_callV (my := mX11_noMan) (k := 0) (st := []) (av := [.int v]) (mcr := 0) (msr := 0) (mc := 0) (ms := 0) (pc' := 5) dX11_of_2 kX11_noMan wX11_93 rfl ⟨rfl, rfl⟩ rfl (Nat.le_of_ble_eq_true rfl) (by decide) (s_noMan1 hc0.1 hn6 (h1)) rfl ?_
  rintro _ _ ⟨rfl, rfl⟩
  show Go mX11_of _ _ _ 5 [(0, .ref 0), (1, .int v), (2, .int u)] [.int 1] (SK, M, N) _
  refine g_if_eq (tgt := 10) (pc' := 8) dX11_of_5 (by decide) rfl (fun hc => absurd hc (by decide)) (fun _ => ?_)
  refine g_iconst (v := (-1)) (pc' := 9) dX11_of_8 (by decide) rfl ?_
  exact g_iret dX11_of_9 rfl rfl (CQ.same hI)
set_option maxRecDepth 100000 in
set_option maxHeartbeats 1000000 in
theorem c_of_b2 {M : Nat → Nat → Int32} {N : Nat → Nat → Int64} {n k : Nat} {P : Nat → Int32} {pa : List (Nat → Int32)} {kp : Option YS} {tp : List Int32} {sh : Nat → Option (Nat × Nat × (Nat → Int64))} (hA : AOk ((n, k, P, pa), kp, tp, sh)) (hI : CI M N ((n, k, P, pa), kp, tp, sh)) {m : Nat} {u : Int32} (hm : m < n) (h1 : u.toInt < 0 ∨ 6 < u.toInt) : Run mX11_of 30 0 0 [.ref 0, .int (nI m), .int u] (SK, M, N) (CQ M N (-1) ((n, k, P, pa), kp, tp, sh)) := by
  refine Run.of (by decide) (Nat.le_of_ble_eq_true rfl) ?_
  have hok : OkP n k P := hA.1.1.1
  have hc0 : IsC M 14 n k P := hI.1.1
  have hn6 := hok.1
  have hk6 := hok.2.1
  refine g_aload_n (j := 0) (pc' := 1) dX11_of_0 rfl rfl ?_
  refine g_iload_n (j := 1) (pc' := 2) dX11_of_1 rfl rfl ?_
  refine g_callV (my := mX11_noMan) (k := 0) (st := []) (av := [.int (nI m)]) (mcr := 0) (msr := 0) (mc := 0) (ms := 0) (pc' := 5) dX11_of_2 kX11_noMan wX11_93 rfl ⟨rfl, rfl⟩ rfl (Nat.le_of_ble_eq_true rfl) (by decide) (s_noMan0 hc0.1 hn6 (hm)) rfl ?_
  rintro _ _ ⟨rfl, rfl⟩
  show Go mX11_of _ _ _ 5 [(0, .ref 0), (1, .int (nI m)), (2, .int u)] [.int 0] (SK, M, N) _
  refine g_if_eq (tgt := 10) (pc' := 8) dX11_of_5 (by decide) rfl (fun _ => ?_) (fun hc => absurd rfl hc)
  refine g_iload_n (j := 2) (pc' := 11) dX11_of_10 rfl rfl ?_
  refine g_tblOut (tgt := 142) dX11_of_11 (h1) (by decide) ?_
  refine g_iconst (v := (-1)) (pc' := 143) dX11_of_142 (by decide) rfl ?_
  exact g_iret dX11_of_143 rfl rfl (CQ.same hI)
set_option maxRecDepth 100000 in
set_option maxHeartbeats 1000000 in
theorem c_of_0 {M : Nat → Nat → Int32} {N : Nat → Nat → Int64} {n k : Nat} {P : Nat → Int32} {pa : List (Nat → Int32)} {kp : Option YS} {tp : List Int32} {sh : Nat → Option (Nat × Nat × (Nat → Int64))} (hA : AOk ((n, k, P, pa), kp, tp, sh)) (hI : CI M N ((n, k, P, pa), kp, tp, sh)) {m : Nat} (hm : m < n) : Run mX11_of 30 0 0 [.ref 0, .int (nI m), .int (nI 0)] (SK, M, N) (CQ M N (ofV P n m 0) ((n, k, P, pa), kp, tp, sh)) := by
  refine Run.of (by decide) (Nat.le_of_ble_eq_true rfl) ?_
  have hok : OkP n k P := hA.1.1.1
  have hc0 : IsC M 14 n k P := hI.1.1
  have hn6 := hok.1
  have hk6 := hok.2.1
  refine g_aload_n (j := 0) (pc' := 1) dX11_of_0 rfl rfl ?_
  refine g_iload_n (j := 1) (pc' := 2) dX11_of_1 rfl rfl ?_
  refine g_callV (my := mX11_noMan) (k := 0) (st := []) (av := [.int (nI m)]) (mcr := 0) (msr := 0) (mc := 0) (ms := 0) (pc' := 5) dX11_of_2 kX11_noMan wX11_93 rfl ⟨rfl, rfl⟩ rfl (Nat.le_of_ble_eq_true rfl) (by decide) (s_noMan0 hc0.1 hn6 (hm)) rfl ?_
  rintro _ _ ⟨rfl, rfl⟩
  show Go mX11_of _ _ _ 5 [(0, .ref 0), (1, .int (nI m)), (2, .int (nI 0))] [.int 0] (SK, M, N) _
  refine g_if_eq (tgt := 10) (pc' := 8) dX11_of_5 (by decide) rfl (fun _ => ?_) (fun hc => absurd rfl hc)
  refine g_iload_n (j := 2) (pc' := 11) dX11_of_10 rfl rfl ?_
  refine g_tblIn (off := 41) (tgt := 52) dX11_of_11 (by decide) (by decide) (by decide) (by decide) ?_
  refine g_aload_n (j := 0) (pc' := 53) dX11_of_52 rfl rfl ?_
  refine g_getR (pc' := 56) dX11_of_53 fX11_28 rfl rfl rfl ?_
  refine g_getR (pc' := 59) dX11_of_56 fX11_97 rfl rfl rfl ?_
  refine g_iload_n (j := 1) (pc' := 60) dX11_of_59 rfl rfl ?_
  refine g_iald (n := m) (pc' := 61) dX11_of_60 rfl rfl (by omega) rfl ?_
  refine g_top (y := P (4 + m)) ((hc0.2.2.2.2.2.1 m hm).1) ?_
  exact g_iret dX11_of_61 rfl rfl (CQ.same hI)
set_option maxRecDepth 100000 in
set_option maxHeartbeats 1000000 in
theorem c_of_1 {M : Nat → Nat → Int32} {N : Nat → Nat → Int64} {n k : Nat} {P : Nat → Int32} {pa : List (Nat → Int32)} {kp : Option YS} {tp : List Int32} {sh : Nat → Option (Nat × Nat × (Nat → Int64))} (hA : AOk ((n, k, P, pa), kp, tp, sh)) (hI : CI M N ((n, k, P, pa), kp, tp, sh)) {m : Nat} (hm : m < n) : Run mX11_of 30 0 0 [.ref 0, .int (nI m), .int (nI 1)] (SK, M, N) (CQ M N (ofV P n m 1) ((n, k, P, pa), kp, tp, sh)) := by
  refine Run.of (by decide) (Nat.le_of_ble_eq_true rfl) ?_
  have hok : OkP n k P := hA.1.1.1
  have hc0 : IsC M 14 n k P := hI.1.1
  have hn6 := hok.1
  have hk6 := hok.2.1
  refine g_aload_n (j := 0) (pc' := 1) dX11_of_0 rfl rfl ?_
  refine g_iload_n (j := 1) (pc' := 2) dX11_of_1 rfl rfl ?_
  refine g_callV (my := mX11_noMan) (k := 0) (st := []) (av := [.int (nI m)]) (mcr := 0) (msr := 0) (mc := 0) (ms := 0) (pc' := 5) dX11_of_2 kX11_noMan wX11_93 rfl ⟨rfl, rfl⟩ rfl (Nat.le_of_ble_eq_true rfl) (by decide) (s_noMan0 hc0.1 hn6 (hm)) rfl ?_
  rintro _ _ ⟨rfl, rfl⟩
  show Go mX11_of _ _ _ 5 [(0, .ref 0), (1, .int (nI m)), (2, .int (nI 1))] [.int 0] (SK, M, N) _
  refine g_if_eq (tgt := 10) (pc' := 8) dX11_of_5 (by decide) rfl (fun _ => ?_) (fun hc => absurd rfl hc)
  refine g_iload_n (j := 2) (pc' := 11) dX11_of_10 rfl rfl ?_
  refine g_tblIn (off := 51) (tgt := 62) dX11_of_11 (by decide) (by decide) (by decide) (by decide) ?_
  refine g_aload_n (j := 0) (pc' := 63) dX11_of_62 rfl rfl ?_
  refine g_getR (pc' := 66) dX11_of_63 fX11_28 rfl rfl rfl ?_
  refine g_getR (pc' := 69) dX11_of_66 fX11_101 rfl rfl rfl ?_
  refine g_iload_n (j := 1) (pc' := 70) dX11_of_69 rfl rfl ?_
  refine g_iald (n := m) (pc' := 71) dX11_of_70 rfl rfl (by omega) rfl ?_
  refine g_top (y := P (10 + m)) ((hc0.2.2.2.2.2.1 m hm).2.1) ?_
  exact g_iret dX11_of_71 rfl rfl (CQ.same hI)
set_option maxRecDepth 100000 in
set_option maxHeartbeats 1000000 in
theorem c_of_2 {M : Nat → Nat → Int32} {N : Nat → Nat → Int64} {n k : Nat} {P : Nat → Int32} {pa : List (Nat → Int32)} {kp : Option YS} {tp : List Int32} {sh : Nat → Option (Nat × Nat × (Nat → Int64))} (hA : AOk ((n, k, P, pa), kp, tp, sh)) (hI : CI M N ((n, k, P, pa), kp, tp, sh)) {m : Nat} (hm : m < n) : Run mX11_of 30 0 0 [.ref 0, .int (nI m), .int (nI 2)] (SK, M, N) (CQ M N (ofV P n m 2) ((n, k, P, pa), kp, tp, sh)) := by
  refine Run.of (by decide) (Nat.le_of_ble_eq_true rfl) ?_
  have hok : OkP n k P := hA.1.1.1
  have hc0 : IsC M 14 n k P := hI.1.1
  have hn6 := hok.1
  have hk6 := hok.2.1
  refine g_aload_n (j := 0) (pc' := 1) dX11_of_0 rfl rfl ?_
  refine g_iload_n (j := 1) (pc' := 2) dX11_of_1 rfl rfl ?_
  refine g_callV (my := mX11_noMan) (k := 0) (st := []) (av := [.int (nI m)]) (mcr := 0) (msr := 0) (mc := 0) (ms := 0) (pc' := 5) dX11_of_2 kX11_noMan wX11_93 rfl ⟨rfl, rfl⟩ rfl (Nat.le_of_ble_eq_true rfl) (by decide) (s_noMan0 hc0.1 hn6 (hm)) rfl ?_
  rintro _ _ ⟨rfl, rfl⟩
  show Go mX11_of _ _ _ 5 [(0, .ref 0), (1, .int (nI m)), (2, .int (nI 2))] [.int 0] (SK, M, N) _
  refine g_if_eq (tgt := 10) (pc' := 8) dX11_of_5 (by decide) rfl (fun _ => ?_) (fun hc => absurd rfl hc)
  refine g_iload_n (j := 2) (pc' := 11) dX11_of_10 rfl rfl ?_
  refine g_tblIn (off := 61) (tgt := 72) dX11_of_11 (by decide) (by decide) (by decide) (by decide) ?_
  refine g_aload_n (j := 0) (pc' := 73) dX11_of_72 rfl rfl ?_
  refine g_getR (pc' := 76) dX11_of_73 fX11_28 rfl rfl rfl ?_
  refine g_getR (pc' := 79) dX11_of_76 fX11_104 rfl rfl rfl ?_
  refine g_iload_n (j := 1) (pc' := 80) dX11_of_79 rfl rfl ?_
  refine g_iald (n := m) (pc' := 81) dX11_of_80 rfl rfl (by omega) rfl ?_
  refine g_top (y := P (16 + m)) ((hc0.2.2.2.2.2.1 m hm).2.2.1) ?_
  exact g_iret dX11_of_81 rfl rfl (CQ.same hI)
set_option maxRecDepth 100000 in
set_option maxHeartbeats 1000000 in
theorem c_of_3 {M : Nat → Nat → Int32} {N : Nat → Nat → Int64} {n k : Nat} {P : Nat → Int32} {pa : List (Nat → Int32)} {kp : Option YS} {tp : List Int32} {sh : Nat → Option (Nat × Nat × (Nat → Int64))} (hA : AOk ((n, k, P, pa), kp, tp, sh)) (hI : CI M N ((n, k, P, pa), kp, tp, sh)) {m : Nat} (hm : m < n) : Run mX11_of 30 0 0 [.ref 0, .int (nI m), .int (nI 3)] (SK, M, N) (CQ M N (ofV P n m 3) ((n, k, P, pa), kp, tp, sh)) := by
  refine Run.of (by decide) (Nat.le_of_ble_eq_true rfl) ?_
  have hok : OkP n k P := hA.1.1.1
  have hc0 : IsC M 14 n k P := hI.1.1
  have hn6 := hok.1
  have hk6 := hok.2.1
  refine g_aload_n (j := 0) (pc' := 1) dX11_of_0 rfl rfl ?_
  refine g_iload_n (j := 1) (pc' := 2) dX11_of_1 rfl rfl ?_
  refine g_callV (my := mX11_noMan) (k := 0) (st := []) (av := [.int (nI m)]) (mcr := 0) (msr := 0) (mc := 0) (ms := 0) (pc' := 5) dX11_of_2 kX11_noMan wX11_93 rfl ⟨rfl, rfl⟩ rfl (Nat.le_of_ble_eq_true rfl) (by decide) (s_noMan0 hc0.1 hn6 (hm)) rfl ?_
  rintro _ _ ⟨rfl, rfl⟩
  show Go mX11_of _ _ _ 5 [(0, .ref 0), (1, .int (nI m)), (2, .int (nI 3))] [.int 0] (SK, M, N) _
  refine g_if_eq (tgt := 10) (pc' := 8) dX11_of_5 (by decide) rfl (fun _ => ?_) (fun hc => absurd rfl hc)
  refine g_iload_n (j := 2) (pc' := 11) dX11_of_10 rfl rfl ?_
  refine g_tblIn (off := 71) (tgt := 82) dX11_of_11 (by decide) (by decide) (by decide) (by decide) ?_
  refine g_aload_n (j := 0) (pc' := 83) dX11_of_82 rfl rfl ?_
  refine g_getR (pc' := 86) dX11_of_83 fX11_28 rfl rfl rfl ?_
  refine g_getR (pc' := 89) dX11_of_86 fX11_107 rfl rfl rfl ?_
  refine g_iload_n (j := 1) (pc' := 90) dX11_of_89 rfl rfl ?_
  refine g_iald (n := m) (pc' := 91) dX11_of_90 rfl rfl (by omega) rfl ?_
  refine g_top (y := P (22 + m)) ((hc0.2.2.2.2.2.1 m hm).2.2.2.1) ?_
  refine g_sipush (v := 10000) (pc' := 94) dX11_of_91 (by decide) rfl ?_
  refine g_iadd (pc' := 95) dX11_of_94 rfl ?_
  exact g_iret dX11_of_95 rfl rfl (CQ.same hI)
set_option maxRecDepth 100000 in
set_option maxHeartbeats 1000000 in
theorem c_of_4 {M : Nat → Nat → Int32} {N : Nat → Nat → Int64} {n k : Nat} {P : Nat → Int32} {pa : List (Nat → Int32)} {kp : Option YS} {tp : List Int32} {sh : Nat → Option (Nat × Nat × (Nat → Int64))} (hA : AOk ((n, k, P, pa), kp, tp, sh)) (hI : CI M N ((n, k, P, pa), kp, tp, sh)) {m : Nat} (hm : m < n) : Run mX11_of 30 0 0 [.ref 0, .int (nI m), .int (nI 4)] (SK, M, N) (CQ M N (ofV P n m 4) ((n, k, P, pa), kp, tp, sh)) := by
  refine Run.of (by decide) (Nat.le_of_ble_eq_true rfl) ?_
  have hok : OkP n k P := hA.1.1.1
  have hc0 : IsC M 14 n k P := hI.1.1
  have hn6 := hok.1
  have hk6 := hok.2.1
  refine g_aload_n (j := 0) (pc' := 1) dX11_of_0 rfl rfl ?_
  refine g_iload_n (j := 1) (pc' := 2) dX11_of_1 rfl rfl ?_
  refine g_callV (my := mX11_noMan) (k := 0) (st := []) (av := [.int (nI m)]) (mcr := 0) (msr := 0) (mc := 0) (ms := 0) (pc' := 5) dX11_of_2 kX11_noMan wX11_93 rfl ⟨rfl, rfl⟩ rfl (Nat.le_of_ble_eq_true rfl) (by decide) (s_noMan0 hc0.1 hn6 (hm)) rfl ?_
  rintro _ _ ⟨rfl, rfl⟩
  show Go mX11_of _ _ _ 5 [(0, .ref 0), (1, .int (nI m)), (2, .int (nI 4))] [.int 0] (SK, M, N) _
  refine g_if_eq (tgt := 10) (pc' := 8) dX11_of_5 (by decide) rfl (fun _ => ?_) (fun hc => absurd rfl hc)
  refine g_iload_n (j := 2) (pc' := 11) dX11_of_10 rfl rfl ?_
  refine g_tblIn (off := 85) (tgt := 96) dX11_of_11 (by decide) (by decide) (by decide) (by decide) ?_
  refine g_aload_n (j := 0) (pc' := 97) dX11_of_96 rfl rfl ?_
  refine g_getR (pc' := 100) dX11_of_97 fX11_28 rfl rfl rfl ?_
  refine g_getR (pc' := 103) dX11_of_100 fX11_110 rfl rfl rfl ?_
  refine g_iload_n (j := 1) (pc' := 104) dX11_of_103 rfl rfl ?_
  refine g_iald (n := m) (pc' := 105) dX11_of_104 rfl rfl (by omega) rfl ?_
  refine g_top (y := unN (P (28 + m))) ((hc0.2.2.2.2.2.1 m hm).2.2.2.2) ?_
  refine g_callS (my := mX11_orNone) (st := []) (av := [.int (unN (P (28 + m)))]) (mcr := 0) (msr := 0) (mc := 0) (ms := 0) (pc' := 108) dX11_of_105 kX11_orNone wX11_113 rfl (Nat.le_of_ble_eq_true rfl) (by decide) (s_orNone _ _) rfl ?_
  rintro _ _ ⟨rfl, rfl⟩
  show Go mX11_of _ _ _ 108 [(0, .ref 0), (1, .int (nI m)), (2, .int (nI 4))] [.int (if unN (P (28 + m)) = -1 then -4 else unN (P (28 + m)))] (SK, M, N) _
  have e9 : (if unN (P (28 + m)) = -1 then -4 else unN (P (28 + m))) = P (28 + m) := by
    rcases clP_of hok hm with ⟨c0, -, c2⟩ | ⟨i, hi, c0, -, c2⟩
    · rw [c2, c0]; rfl
    · rw [c2, c0, if_neg (nI_ne_m1 (by omega))]
  refine g_top (y := P (28 + m)) (e9) ?_
  exact g_iret dX11_of_108 rfl rfl (CQ.same hI)
set_option maxRecDepth 100000 in
set_option maxHeartbeats 1000000 in
theorem c_of_5 {M : Nat → Nat → Int32} {N : Nat → Nat → Int64} {n k : Nat} {P : Nat → Int32} {pa : List (Nat → Int32)} {kp : Option YS} {tp : List Int32} {sh : Nat → Option (Nat × Nat × (Nat → Int64))} (hA : AOk ((n, k, P, pa), kp, tp, sh)) (hI : CI M N ((n, k, P, pa), kp, tp, sh)) {m : Nat} (hm : m < n) : Run mX11_of 30 0 0 [.ref 0, .int (nI m), .int (nI 5)] (SK, M, N) (CQ M N (ofV P n m 5) ((n, k, P, pa), kp, tp, sh)) := by
  refine Run.of (by decide) (Nat.le_of_ble_eq_true rfl) ?_
  have hok : OkP n k P := hA.1.1.1
  have hc0 : IsC M 14 n k P := hI.1.1
  have hn6 := hok.1
  have hk6 := hok.2.1
  refine g_aload_n (j := 0) (pc' := 1) dX11_of_0 rfl rfl ?_
  refine g_iload_n (j := 1) (pc' := 2) dX11_of_1 rfl rfl ?_
  refine g_callV (my := mX11_noMan) (k := 0) (st := []) (av := [.int (nI m)]) (mcr := 0) (msr := 0) (mc := 0) (ms := 0) (pc' := 5) dX11_of_2 kX11_noMan wX11_93 rfl ⟨rfl, rfl⟩ rfl (Nat.le_of_ble_eq_true rfl) (by decide) (s_noMan0 hc0.1 hn6 (hm)) rfl ?_
  rintro _ _ ⟨rfl, rfl⟩
  show Go mX11_of _ _ _ 5 [(0, .ref 0), (1, .int (nI m)), (2, .int (nI 5))] [.int 0] (SK, M, N) _
  refine g_if_eq (tgt := 10) (pc' := 8) dX11_of_5 (by decide) rfl (fun _ => ?_) (fun hc => absurd rfl hc)
  refine g_iload_n (j := 2) (pc' := 11) dX11_of_10 rfl rfl ?_
  refine g_tblIn (off := 98) (tgt := 109) dX11_of_11 (by decide) (by decide) (by decide) (by decide) ?_
  refine g_aload_n (j := 0) (pc' := 110) dX11_of_109 rfl rfl ?_
  refine g_getR (pc' := 113) dX11_of_110 fX11_10 rfl rfl rfl ?_
  refine g_aload_n (j := 0) (pc' := 114) dX11_of_113 rfl rfl ?_
  refine g_getR (pc' := 117) dX11_of_114 fX11_28 rfl rfl rfl ?_
  refine g_iload_n (j := 1) (pc' := 118) dX11_of_117 rfl rfl ?_
  refine g_aload_n (j := 0) (pc' := 119) dX11_of_118 rfl rfl ?_
  refine g_getR (pc' := 122) dX11_of_119 fX11_28 rfl rfl rfl ?_
  refine g_getI (pc' := 125) dX11_of_122 fX11_117 rfl rfl rfl ?_
  rw [hc0.2.2.1]
  refine g_callV (my := mX0_offOf) (k := 1) (st := []) (av := [.ref 14, .int (nI m), .int (P 2)]) (mcr := 0) (msr := 0) (mc := 0) (ms := 0) (pc' := 128) dX11_of_125 kX0_offOf wX11_120 rfl ⟨rfl, rfl⟩ rfl (Nat.le_of_ble_eq_true rfl) (by decide) (s_offP isPar14 hok hc0 (P 2) hm) rfl ?_
  rintro _ _ ⟨rfl, rfl⟩
  show Go mX11_of _ _ _ 128 [(0, .ref 0), (1, .int (nI m)), (2, .int (nI 5))] [.int (offP P (P 2) m)] (SK, M, N) _
  exact g_iret dX11_of_128 rfl rfl (CQ.same hI)
set_option maxRecDepth 100000 in
set_option maxHeartbeats 1000000 in
theorem c_of_6 {M : Nat → Nat → Int32} {N : Nat → Nat → Int64} {n k : Nat} {P : Nat → Int32} {pa : List (Nat → Int32)} {kp : Option YS} {tp : List Int32} {sh : Nat → Option (Nat × Nat × (Nat → Int64))} (hA : AOk ((n, k, P, pa), kp, tp, sh)) (hI : CI M N ((n, k, P, pa), kp, tp, sh)) {m : Nat} (hm : m < n) : Run mX11_of 30 0 0 [.ref 0, .int (nI m), .int (nI 6)] (SK, M, N) (CQ M N (ofV P n m 6) ((n, k, P, pa), kp, tp, sh)) := by
  refine Run.of (by decide) (Nat.le_of_ble_eq_true rfl) ?_
  have hok : OkP n k P := hA.1.1.1
  have hc0 : IsC M 14 n k P := hI.1.1
  have hn6 := hok.1
  have hk6 := hok.2.1
  refine g_aload_n (j := 0) (pc' := 1) dX11_of_0 rfl rfl ?_
  refine g_iload_n (j := 1) (pc' := 2) dX11_of_1 rfl rfl ?_
  refine g_callV (my := mX11_noMan) (k := 0) (st := []) (av := [.int (nI m)]) (mcr := 0) (msr := 0) (mc := 0) (ms := 0) (pc' := 5) dX11_of_2 kX11_noMan wX11_93 rfl ⟨rfl, rfl⟩ rfl (Nat.le_of_ble_eq_true rfl) (by decide) (s_noMan0 hc0.1 hn6 (hm)) rfl ?_
  rintro _ _ ⟨rfl, rfl⟩
  show Go mX11_of _ _ _ 5 [(0, .ref 0), (1, .int (nI m)), (2, .int (nI 6))] [.int 0] (SK, M, N) _
  refine g_if_eq (tgt := 10) (pc' := 8) dX11_of_5 (by decide) rfl (fun _ => ?_) (fun hc => absurd rfl hc)
  refine g_iload_n (j := 2) (pc' := 11) dX11_of_10 rfl rfl ?_
  refine g_tblIn (off := 118) (tgt := 129) dX11_of_11 (by decide) (by decide) (by decide) (by decide) ?_
  refine g_aload_n (j := 0) (pc' := 130) dX11_of_129 rfl rfl ?_
  refine g_getR (pc' := 133) dX11_of_130 fX11_10 rfl rfl rfl ?_
  refine g_aload_n (j := 0) (pc' := 134) dX11_of_133 rfl rfl ?_
  refine g_getR (pc' := 137) dX11_of_134 fX11_28 rfl rfl rfl ?_
  refine g_iload_n (j := 1) (pc' := 138) dX11_of_137 rfl rfl ?_
  refine g_callV (my := mX0_placeOf) (k := 1) (st := []) (av := [.ref 14, .int (nI m)]) (mcr := 0) (msr := 0) (mc := 0) (ms := 0) (pc' := 141) dX11_of_138 kX0_placeOf wX11_124 rfl ⟨rfl, rfl⟩ rfl (Nat.le_of_ble_eq_true rfl) (by decide) (s_placeOf hok hc0 hm) rfl ?_
  rintro _ _ ⟨M1, rfl, rfl, hf⟩
  show Go mX11_of _ _ _ 141 [(0, .ref 0), (1, .int (nI m)), (2, .int (nI 6))] [.int (nI (placF (offP P (P 2)) n m))] (SK, M1, N) _
  exact g_iret dX11_of_141 rfl rfl (CQ.tmp hI (fun a ha => hf a (by unfold tmpC at ha; omega) (by unfold tmpC at ha; omega)))
set_option maxRecDepth 100000 in
set_option maxHeartbeats 1000000 in
theorem c_named_b1 {M : Nat → Nat → Int32} {N : Nat → Nat → Int64} {n k : Nat} {P : Nat → Int32} {pa : List (Nat → Int32)} {kp : Option YS} {tp : List Int32} {sh : Nat → Option (Nat × Nat × (Nat → Int64))} (hA : AOk ((n, k, P, pa), kp, tp, sh)) (hI : CI M N ((n, k, P, pa), kp, tp, sh)) {v : Int32} (u : Int32) (h1 : ∀ m, m < k → v ≠ nI m) : Run mX11_named 30 0 0 [.ref 0, .int v, .int u] (SK, M, N) (CQ M N (-1) ((n, k, P, pa), kp, tp, sh)) := by
  refine Run.of (by decide) (Nat.le_of_ble_eq_true rfl) ?_
  have hok : OkP n k P := hA.1.1.1
  have hc0 : IsC M 14 n k P := hI.1.1
  have hn6 := hok.1
  have hk6 := hok.2.1
  refine g_aload_n (j := 0) (pc' := 1) dX11_named_0 rfl rfl ?_
  refine g_iload_n (j := 1) (pc' := 2) dX11_named_1 rfl rfl ?_
  refine g_callV (my := mX11_noName) (k := 0) (st := []) (av := [.int v]) (mcr := 0) (msr := 0) (mc := 0) (ms := 0) (pc' := 5) dX11_named_2 kX11_noName wX11_128 rfl ⟨rfl, rfl⟩ rfl (Nat.le_of_ble_eq_true rfl) (by decide) (s_noName1 hc0.2.1 hk6 (h1)) rfl ?_
  rintro _ _ ⟨rfl, rfl⟩
  show Go mX11_named _ _ _ 5 [(0, .ref 0), (1, .int v), (2, .int u)] [.int 1] (SK, M, N) _
  refine g_if_eq (tgt := 10) (pc' := 8) dX11_named_5 (by decide) rfl (fun hc => absurd hc (by decide)) (fun _ => ?_)
  refine g_iconst (v := (-1)) (pc' := 9) dX11_named_8 (by decide) rfl ?_
  exact g_iret dX11_named_9 rfl rfl (CQ.same hI)
set_option maxRecDepth 100000 in
set_option maxHeartbeats 1000000 in
theorem c_named_b2 {M : Nat → Nat → Int32} {N : Nat → Nat → Int64} {n k : Nat} {P : Nat → Int32} {pa : List (Nat → Int32)} {kp : Option YS} {tp : List Int32} {sh : Nat → Option (Nat × Nat × (Nat → Int64))} (hA : AOk ((n, k, P, pa), kp, tp, sh)) (hI : CI M N ((n, k, P, pa), kp, tp, sh)) {i : Nat} {u : Int32} (hi : i < k) (h1 : u.toInt < 0 ∨ 2 < u.toInt) : Run mX11_named 30 0 0 [.ref 0, .int (nI i), .int u] (SK, M, N) (CQ M N (-1) ((n, k, P, pa), kp, tp, sh)) := by
  refine Run.of (by decide) (Nat.le_of_ble_eq_true rfl) ?_
  have hok : OkP n k P := hA.1.1.1
  have hc0 : IsC M 14 n k P := hI.1.1
  have hn6 := hok.1
  have hk6 := hok.2.1
  refine g_aload_n (j := 0) (pc' := 1) dX11_named_0 rfl rfl ?_
  refine g_iload_n (j := 1) (pc' := 2) dX11_named_1 rfl rfl ?_
  refine g_callV (my := mX11_noName) (k := 0) (st := []) (av := [.int (nI i)]) (mcr := 0) (msr := 0) (mc := 0) (ms := 0) (pc' := 5) dX11_named_2 kX11_noName wX11_128 rfl ⟨rfl, rfl⟩ rfl (Nat.le_of_ble_eq_true rfl) (by decide) (s_noName0 hc0.2.1 hk6 (hi)) rfl ?_
  rintro _ _ ⟨rfl, rfl⟩
  show Go mX11_named _ _ _ 5 [(0, .ref 0), (1, .int (nI i)), (2, .int u)] [.int 0] (SK, M, N) _
  refine g_if_eq (tgt := 10) (pc' := 8) dX11_named_5 (by decide) rfl (fun _ => ?_) (fun hc => absurd rfl hc)
  refine g_iload_n (j := 2) (pc' := 11) dX11_named_10 rfl rfl ?_
  refine g_tblOut (tgt := 68) dX11_named_11 (h1) (by decide) ?_
  refine g_iconst (v := (-1)) (pc' := 69) dX11_named_68 (by decide) rfl ?_
  exact g_iret dX11_named_69 rfl rfl (CQ.same hI)
def whoP (P : Nat → Int32) (n i : Nat) : Int32 := optI (-4) (firstIx (fun m => P (28 + m) == nI i) 0 n)
theorem firstIx_congr {f g : Nat → Bool} : ∀ {k i : Nat}, (∀ j, i ≤ j → j < i + k → f j = g j) → firstIx f i k = firstIx g i k
  | 0, _, _ => rfl
  | k + 1, i, h => by
    unfold firstIx
    rw [h i (Nat.le_refl _) (by omega), firstIx_congr (fun j h1 h2 => h j (by omega) (by omega))]
theorem orNone_opt {o : Option Nat} {n : Nat} (h : ∀ m, o = some m → m < n) (hn : n ≤ 6) : (if optI (-1) o = -1 then -4 else optI (-1) o) = optI (-4) o := by
  cases o with
  | none => rfl
  | some m => have := h m rfl; show (if nI m = -1 then -4 else nI m) = nI m; rw [if_neg (nI_ne_m1 (by omega))]
set_option maxRecDepth 100000 in
set_option maxHeartbeats 1000000 in
theorem c_named_0 {M : Nat → Nat → Int32} {N : Nat → Nat → Int64} {n k : Nat} {P : Nat → Int32} {pa : List (Nat → Int32)} {kp : Option YS} {tp : List Int32} {sh : Nat → Option (Nat × Nat × (Nat → Int64))} (hA : AOk ((n, k, P, pa), kp, tp, sh)) (hI : CI M N ((n, k, P, pa), kp, tp, sh)) {i : Nat} (hi : i < k) : Run mX11_named 30 0 0 [.ref 0, .int (nI i), .int (nI 0)] (SK, M, N) (CQ M N (P (34 + i)) ((n, k, P, pa), kp, tp, sh)) := by
  refine Run.of (by decide) (Nat.le_of_ble_eq_true rfl) ?_
  have hok : OkP n k P := hA.1.1.1
  have hc0 : IsC M 14 n k P := hI.1.1
  have hn6 := hok.1
  have hk6 := hok.2.1
  refine g_aload_n (j := 0) (pc' := 1) dX11_named_0 rfl rfl ?_
  refine g_iload_n (j := 1) (pc' := 2) dX11_named_1 rfl rfl ?_
  refine g_callV (my := mX11_noName) (k := 0) (st := []) (av := [.int (nI i)]) (mcr := 0) (msr := 0) (mc := 0) (ms := 0) (pc' := 5) dX11_named_2 kX11_noName wX11_128 rfl ⟨rfl, rfl⟩ rfl (Nat.le_of_ble_eq_true rfl) (by decide) (s_noName0 hc0.2.1 hk6 (hi)) rfl ?_
  rintro _ _ ⟨rfl, rfl⟩
  show Go mX11_named _ _ _ 5 [(0, .ref 0), (1, .int (nI i)), (2, .int (nI 0))] [.int 0] (SK, M, N) _
  refine g_if_eq (tgt := 10) (pc' := 8) dX11_named_5 (by decide) rfl (fun _ => ?_) (fun hc => absurd rfl hc)
  refine g_iload_n (j := 2) (pc' := 11) dX11_named_10 rfl rfl ?_
  refine g_tblIn (off := 25) (tgt := 36) dX11_named_11 (by decide) (by decide) (by decide) (by decide) ?_
  refine g_aload_n (j := 0) (pc' := 37) dX11_named_36 rfl rfl ?_
  refine g_getR (pc' := 40) dX11_named_37 fX11_28 rfl rfl rfl ?_
  refine g_getR (pc' := 43) dX11_named_40 fX11_131 rfl rfl rfl ?_
  refine g_iload_n (j := 1) (pc' := 44) dX11_named_43 rfl rfl ?_
  refine g_iald (n := i) (pc' := 45) dX11_named_44 rfl rfl (by omega) rfl ?_
  refine g_top (y := P (34 + i)) ((hc0.2.2.2.2.2.2 i hi).1) ?_
  exact g_iret dX11_named_45 rfl rfl (CQ.same hI)
set_option maxRecDepth 100000 in
set_option maxHeartbeats 1000000 in
theorem c_named_1 {M : Nat → Nat → Int32} {N : Nat → Nat → Int64} {n k : Nat} {P : Nat → Int32} {pa : List (Nat → Int32)} {kp : Option YS} {tp : List Int32} {sh : Nat → Option (Nat × Nat × (Nat → Int64))} (hA : AOk ((n, k, P, pa), kp, tp, sh)) (hI : CI M N ((n, k, P, pa), kp, tp, sh)) {i : Nat} (hi : i < k) : Run mX11_named 30 0 0 [.ref 0, .int (nI i), .int (nI 1)] (SK, M, N) (CQ M N (P (40 + i)) ((n, k, P, pa), kp, tp, sh)) := by
  refine Run.of (by decide) (Nat.le_of_ble_eq_true rfl) ?_
  have hok : OkP n k P := hA.1.1.1
  have hc0 : IsC M 14 n k P := hI.1.1
  have hn6 := hok.1
  have hk6 := hok.2.1
  refine g_aload_n (j := 0) (pc' := 1) dX11_named_0 rfl rfl ?_
  refine g_iload_n (j := 1) (pc' := 2) dX11_named_1 rfl rfl ?_
  refine g_callV (my := mX11_noName) (k := 0) (st := []) (av := [.int (nI i)]) (mcr := 0) (msr := 0) (mc := 0) (ms := 0) (pc' := 5) dX11_named_2 kX11_noName wX11_128 rfl ⟨rfl, rfl⟩ rfl (Nat.le_of_ble_eq_true rfl) (by decide) (s_noName0 hc0.2.1 hk6 (hi)) rfl ?_
  rintro _ _ ⟨rfl, rfl⟩
  show Go mX11_named _ _ _ 5 [(0, .ref 0), (1, .int (nI i)), (2, .int (nI 1))] [.int 0] (SK, M, N) _
  refine g_if_eq (tgt := 10) (pc' := 8) dX11_named_5 (by decide) rfl (fun _ => ?_) (fun hc => absurd rfl hc)
  refine g_iload_n (j := 2) (pc' := 11) dX11_named_10 rfl rfl ?_
  refine g_tblIn (off := 35) (tgt := 46) dX11_named_11 (by decide) (by decide) (by decide) (by decide) ?_
  refine g_aload_n (j := 0) (pc' := 47) dX11_named_46 rfl rfl ?_
  refine g_getR (pc' := 50) dX11_named_47 fX11_28 rfl rfl rfl ?_
  refine g_getR (pc' := 53) dX11_named_50 fX11_134 rfl rfl rfl ?_
  refine g_iload_n (j := 1) (pc' := 54) dX11_named_53 rfl rfl ?_
  refine g_iald (n := i) (pc' := 55) dX11_named_54 rfl rfl (by omega) rfl ?_
  refine g_top (y := P (40 + i)) ((hc0.2.2.2.2.2.2 i hi).2) ?_
  exact g_iret dX11_named_55 rfl rfl (CQ.same hI)
set_option maxRecDepth 100000 in
set_option maxHeartbeats 1000000 in
theorem c_named_2 {M : Nat → Nat → Int32} {N : Nat → Nat → Int64} {n k : Nat} {P : Nat → Int32} {pa : List (Nat → Int32)} {kp : Option YS} {tp : List Int32} {sh : Nat → Option (Nat × Nat × (Nat → Int64))} (hA : AOk ((n, k, P, pa), kp, tp, sh)) (hI : CI M N ((n, k, P, pa), kp, tp, sh)) {i : Nat} (hi : i < k) : Run mX11_named 30 0 0 [.ref 0, .int (nI i), .int (nI 2)] (SK, M, N) (CQ M N (whoP P n i) ((n, k, P, pa), kp, tp, sh)) := by
  refine Run.of (by decide) (Nat.le_of_ble_eq_true rfl) ?_
  have hok : OkP n k P := hA.1.1.1
  have hc0 : IsC M 14 n k P := hI.1.1
  have hn6 := hok.1
  have hk6 := hok.2.1
  refine g_aload_n (j := 0) (pc' := 1) dX11_named_0 rfl rfl ?_
  refine g_iload_n (j := 1) (pc' := 2) dX11_named_1 rfl rfl ?_
  refine g_callV (my := mX11_noName) (k := 0) (st := []) (av := [.int (nI i)]) (mcr := 0) (msr := 0) (mc := 0) (ms := 0) (pc' := 5) dX11_named_2 kX11_noName wX11_128 rfl ⟨rfl, rfl⟩ rfl (Nat.le_of_ble_eq_true rfl) (by decide) (s_noName0 hc0.2.1 hk6 (hi)) rfl ?_
  rintro _ _ ⟨rfl, rfl⟩
  show Go mX11_named _ _ _ 5 [(0, .ref 0), (1, .int (nI i)), (2, .int (nI 2))] [.int 0] (SK, M, N) _
  refine g_if_eq (tgt := 10) (pc' := 8) dX11_named_5 (by decide) rfl (fun _ => ?_) (fun hc => absurd rfl hc)
  refine g_iload_n (j := 2) (pc' := 11) dX11_named_10 rfl rfl ?_
  refine g_tblIn (off := 45) (tgt := 56) dX11_named_11 (by decide) (by decide) (by decide) (by decide) ?_
  refine g_aload_n (j := 0) (pc' := 57) dX11_named_56 rfl rfl ?_
  refine g_getR (pc' := 60) dX11_named_57 fX11_28 rfl rfl rfl ?_
  refine g_iload_n (j := 1) (pc' := 61) dX11_named_60 rfl rfl ?_
  refine g_callV (my := mX4_whoIsCalled) (k := 14) (st := []) (av := [.int (nI i)]) (mcr := 0) (msr := 0) (mc := 0) (ms := 0) (pc' := 64) dX11_named_61 kX4_whoIsCalled wX11_137 rfl ⟨rfl, rfl⟩ rfl (Nat.le_of_ble_eq_true rfl) (by decide) (s_who (nI i) par14 hc0.1 hn6) rfl ?_
  rintro _ _ ⟨rfl, rfl⟩
  show Go mX11_named _ _ _ 64 [(0, .ref 0), (1, .int (nI i)), (2, .int (nI 2))] [.int (optI (-1) (firstIx (fun m => M (14 + 5) m == nI i) 0 n))] (SK, M, N) _
  refine g_callS (my := mX11_orNone) (st := []) (av := [.int (optI (-1) (firstIx (fun m => M (14 + 5) m == nI i) 0 n))]) (mcr := 0) (msr := 0) (mc := 0) (ms := 0) (pc' := 67) dX11_named_64 kX11_orNone wX11_113 rfl (Nat.le_of_ble_eq_true rfl) (by decide) (s_orNone _ _) rfl ?_
  rintro _ _ ⟨rfl, rfl⟩
  show Go mX11_named _ _ _ 67 [(0, .ref 0), (1, .int (nI i)), (2, .int (nI 2))] [.int (if optI (-1) (firstIx (fun m => M (14 + 5) m == nI i) 0 n) = -1 then -4 else optI (-1) (firstIx (fun m => M (14 + 5) m == nI i) 0 n))] (SK, M, N) _
  refine g_top (y := whoP P n i) (by
      rw [orNone_opt (fun m q => by have := (firstIx_lt q).2.1; omega) hn6]
      unfold whoP
      rw [firstIx_congr (fun j _ hj => ?_)]
      rw [(hc0.2.2.2.2.2.1 j (by omega)).2.2.2.2]
      rcases clP_of hok (m := j) (by omega) with ⟨c0, -, c2⟩ | ⟨q, hq, c0, -, c2⟩
      · rw [c2, c0]
        have e1 : ((-1 : Int32) == nI i) = false := by rw [beq_eq_false_iff_ne]; exact fun q => nI_ne_m1 (by omega) q.symm
        have e2 : ((-4 : Int32) == nI i) = false := by
          rw [beq_eq_false_iff_ne]
          intro q
          have h2 := congrArg Int32.toInt q
          rw [nI_toInt (by omega)] at h2
          have h4 : (-4 : Int32).toInt = -4 := by decide
          omega
        rw [e1, e2]
      · rw [c2, c0]) ?_
  exact g_iret dX11_named_67 rfl rfl (CQ.same hI)
