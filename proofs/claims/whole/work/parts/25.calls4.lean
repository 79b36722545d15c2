/-! ===== ahead, nameAhead, needs, field, change, top ===== -/
theorem rng2 {lo hi t : Nat} (h1 : lo ≤ t) (h2 : t ≤ hi) (hb : hi < 1000) : ¬ (nI t < nI lo ∨ nI hi < nI t) := by
  rintro (h | h)
  · exact nI_nlt (a := t) (b := lo) h1 (by omega) h
  · exact nI_nlt (a := hi) (b := t) h2 (by omega) h
theorem orN {n k : Nat} {P : Nat → Int32} (h : OkP n k P) {m : Nat} (hm : m < n) : (if unN (P (28 + m)) = -1 then -4 else unN (P (28 + m))) = P (28 + m) := by
  have hk := h.2.1
  rcases clP_of h hm with ⟨c0, -, c2⟩ | ⟨i, hi, c0, -, c2⟩
  · rw [c2, c0]; rfl
  · rw [c2, c0, if_neg (nI_ne_m1 (by omega))]
theorem tmp_told {M M' : Nat → Nat → Int32} {n k : Nat} {P : Nat → Int32} (h : Told M M' n k P) : ∀ a, ¬ tmpC a → M' a = M a := fun a ha => h.2 a (by unfold tmpC at ha; omega) (by unfold tmpC at ha; omega) (by unfold tmpC at ha; omega) (by unfold tmpC at ha; omega)
def ahV (P : Nat → Int32) (n k m t : Nat) : Nat → Int32
  | 0 => foreP n k P t (28 + m)
  | 1 => foreP n k P t (22 + m) + 10000
  | _ => foreP n k P t (10 + m)
set_option maxRecDepth 100000 in
set_option maxHeartbeats 1000000 in
theorem c_ahead_b1 {M : Nat → Nat → Int32} {N : Nat → Nat → Int64} {n k : Nat} {P : Nat → Int32} {pa : List (Nat → Int32)} {kp : Option YS} {tp : List Int32} {sh : Nat → Option (Nat × Nat × (Nat → Int64))} (hA : AOk ((n, k, P, pa), kp, tp, sh)) (hI : CI M N ((n, k, P, pa), kp, tp, sh)) {v : Int32} (u z : Int32) (h1 : ∀ m, m < n → v ≠ nI m) : Run mX11_ahead 30 0 0 [.ref 0, .int v, .int u, .int z] (SK, M, N) (CQ M N (-1) ((n, k, P, pa), kp, tp, sh)) := by
  refine Run.of (by decide) (Nat.le_of_ble_eq_true rfl) ?_
  have hok : OkP n k P := hA.1.1.1
  have hc0 : IsC M 14 n k P := hI.1.1
  have hn6 := hok.1
  have hk6 := hok.2.1
  refine g_aload_n (j := 0) (pc' := 1) dX11_ahead_0 rfl rfl ?_
  refine g_iload_n (j := 1) (pc' := 2) dX11_ahead_1 rfl rfl ?_
  refine g_callV (my := mX11_noMan) (k := 0) (st := []) (av := [.int v]) (mcr := 0) (msr := 0) (mc := 0) (ms := 0) (pc' := 5) dX11_ahead_2 kX11_noMan wX11_93 rfl ⟨rfl, rfl⟩ rfl (Nat.le_of_ble_eq_true rfl) (by decide) (s_noMan1 hc0.1 hn6 (h1)) rfl ?_
  rintro _ _ ⟨rfl, rfl⟩
  show Go mX11_ahead _ _ _ 5 [(0, .ref 0), (1, .int v), (2, .int u), (3, .int z)] [.int 1] (SK, M, N) _
  refine g_if_ne (tgt := 27) (pc' := 8) dX11_ahead_5 (by decide) rfl (fun _ => ?_) (fun hc => absurd hc (by decide))
  refine g_iconst (v := (-1)) (pc' := 28) dX11_ahead_27 (by decide) rfl ?_
  exact g_iret dX11_ahead_28 rfl rfl (CQ.same hI)
set_option maxRecDepth 100000 in
set_option maxHeartbeats 1000000 in
theorem c_ahead_b2 {M : Nat → Nat → Int32} {N : Nat → Nat → Int64} {n k : Nat} {P : Nat → Int32} {pa : List (Nat → Int32)} {kp : Option YS} {tp : List Int32} {sh : Nat → Option (Nat × Nat × (Nat → Int64))} (hA : AOk ((n, k, P, pa), kp, tp, sh)) (hI : CI M N ((n, k, P, pa), kp, tp, sh)) {m : Nat} {u : Int32} (z : Int32) (hm : m < n) (h1 : u < 0 ∨ 60 < u) : Run mX11_ahead 30 0 0 [.ref 0, .int (nI m), .int u, .int z] (SK, M, N) (CQ M N (-1) ((n, k, P, pa), kp, tp, sh)) := by
  refine Run.of (by decide) (Nat.le_of_ble_eq_true rfl) ?_
  have hok : OkP n k P := hA.1.1.1
  have hc0 : IsC M 14 n k P := hI.1.1
  have hn6 := hok.1
  have hk6 := hok.2.1
  refine g_aload_n (j := 0) (pc' := 1) dX11_ahead_0 rfl rfl ?_
  refine g_iload_n (j := 1) (pc' := 2) dX11_ahead_1 rfl rfl ?_
  refine g_callV (my := mX11_noMan) (k := 0) (st := []) (av := [.int (nI m)]) (mcr := 0) (msr := 0) (mc := 0) (ms := 0) (pc' := 5) dX11_ahead_2 kX11_noMan wX11_93 rfl ⟨rfl, rfl⟩ rfl (Nat.le_of_ble_eq_true rfl) (by decide) (s_noMan0 hc0.1 hn6 (hm)) rfl ?_
  rintro _ _ ⟨rfl, rfl⟩
  show Go mX11_ahead _ _ _ 5 [(0, .ref 0), (1, .int (nI m)), (2, .int u), (3, .int z)] [.int 0] (SK, M, N) _
  refine g_if_ne (tgt := 27) (pc' := 8) dX11_ahead_5 (by decide) rfl (fun hc => absurd rfl hc) (fun _ => ?_)
  refine g_iload_n (j := 2) (pc' := 9) dX11_ahead_8 rfl rfl ?_
  refine g_iconst (v := 0) (pc' := 10) dX11_ahead_9 (by decide) rfl ?_
  refine g_bipush (v := 60) (pc' := 12) dX11_ahead_10 (by decide) rfl ?_
  refine g_callS (my := mX11_outside) (st := []) (av := [.int u, .int 0, .int 60]) (mcr := 0) (msr := 0) (mc := 0) (ms := 0) (pc' := 15) dX11_ahead_12 kX11_outside wX11_71 rfl (Nat.le_of_ble_eq_true rfl) (by decide) (s_out1 (h1)) rfl ?_
  rintro _ _ ⟨rfl, rfl⟩
  show Go mX11_ahead _ _ _ 15 [(0, .ref 0), (1, .int (nI m)), (2, .int u), (3, .int z)] [.int 1] (SK, M, N) _
  refine g_if_ne (tgt := 27) (pc' := 18) dX11_ahead_15 (by decide) rfl (fun _ => ?_) (fun hc => absurd hc (by decide))
  refine g_iconst (v := (-1)) (pc' := 28) dX11_ahead_27 (by decide) rfl ?_
  exact g_iret dX11_ahead_28 rfl rfl (CQ.same hI)
set_option maxRecDepth 100000 in
set_option maxHeartbeats 1000000 in
theorem c_ahead_b3 {M : Nat → Nat → Int32} {N : Nat → Nat → Int64} {n k : Nat} {P : Nat → Int32} {pa : List (Nat → Int32)} {kp : Option YS} {tp : List Int32} {sh : Nat → Option (Nat × Nat × (Nat → Int64))} (hA : AOk ((n, k, P, pa), kp, tp, sh)) (hI : CI M N ((n, k, P, pa), kp, tp, sh)) {m : Nat} {u z : Int32} (hm : m < n) (h1 : ¬ (u < 0 ∨ 60 < u)) (h2 : z < 0 ∨ 2 < z) : Run mX11_ahead 30 0 0 [.ref 0, .int (nI m), .int u, .int z] (SK, M, N) (CQ M N (-1) ((n, k, P, pa), kp, tp, sh)) := by
  refine Run.of (by decide) (Nat.le_of_ble_eq_true rfl) ?_
  have hok : OkP n k P := hA.1.1.1
  have hc0 : IsC M 14 n k P := hI.1.1
  have hn6 := hok.1
  have hk6 := hok.2.1
  refine g_aload_n (j := 0) (pc' := 1) dX11_ahead_0 rfl rfl ?_
  refine g_iload_n (j := 1) (pc' := 2) dX11_ahead_1 rfl rfl ?_
  refine g_callV (my := mX11_noMan) (k := 0) (st := []) (av := [.int (nI m)]) (mcr := 0) (msr := 0) (mc := 0) (ms := 0) (pc' := 5) dX11_ahead_2 kX11_noMan wX11_93 rfl ⟨rfl, rfl⟩ rfl (Nat.le_of_ble_eq_true rfl) (by decide) (s_noMan0 hc0.1 hn6 (hm)) rfl ?_
  rintro _ _ ⟨rfl, rfl⟩
  show Go mX11_ahead _ _ _ 5 [(0, .ref 0), (1, .int (nI m)), (2, .int u), (3, .int z)] [.int 0] (SK, M, N) _
  refine g_if_ne (tgt := 27) (pc' := 8) dX11_ahead_5 (by decide) rfl (fun hc => absurd rfl hc) (fun _ => ?_)
  refine g_iload_n (j := 2) (pc' := 9) dX11_ahead_8 rfl rfl ?_
  refine g_iconst (v := 0) (pc' := 10) dX11_ahead_9 (by decide) rfl ?_
  refine g_bipush (v := 60) (pc' := 12) dX11_ahead_10 (by decide) rfl ?_
  refine g_callS (my := mX11_outside) (st := []) (av := [.int u, .int 0, .int 60]) (mcr := 0) (msr := 0) (mc := 0) (ms := 0) (pc' := 15) dX11_ahead_12 kX11_outside wX11_71 rfl (Nat.le_of_ble_eq_true rfl) (by decide) (s_out0 (h1)) rfl ?_
  rintro _ _ ⟨rfl, rfl⟩
  show Go mX11_ahead _ _ _ 15 [(0, .ref 0), (1, .int (nI m)), (2, .int u), (3, .int z)] [.int 0] (SK, M, N) _
  refine g_if_ne (tgt := 27) (pc' := 18) dX11_ahead_15 (by decide) rfl (fun hc => absurd rfl hc) (fun _ => ?_)
  refine g_iload_n (j := 3) (pc' := 19) dX11_ahead_18 rfl rfl ?_
  refine g_iconst (v := 0) (pc' := 20) dX11_ahead_19 (by decide) rfl ?_
  refine g_iconst (v := 2) (pc' := 21) dX11_ahead_20 (by decide) rfl ?_
  refine g_callS (my := mX11_outside) (st := []) (av := [.int z, .int 0, .int 2]) (mcr := 0) (msr := 0) (mc := 0) (ms := 0) (pc' := 24) dX11_ahead_21 kX11_outside wX11_71 rfl (Nat.le_of_ble_eq_true rfl) (by decide) (s_out1 (h2)) rfl ?_
  rintro _ _ ⟨rfl, rfl⟩
  show Go mX11_ahead _ _ _ 24 [(0, .ref 0), (1, .int (nI m)), (2, .int u), (3, .int z)] [.int 1] (SK, M, N) _
  refine g_if_eq (tgt := 29) (pc' := 27) dX11_ahead_24 (by decide) rfl (fun hc => absurd hc (by decide)) (fun _ => ?_)
  refine g_iconst (v := (-1)) (pc' := 28) dX11_ahead_27 (by decide) rfl ?_
  exact g_iret dX11_ahead_28 rfl rfl (CQ.same hI)
set_option maxRecDepth 100000 in
set_option maxHeartbeats 1000000 in
theorem c_ahead_0 {M : Nat → Nat → Int32} {N : Nat → Nat → Int64} {n k : Nat} {P : Nat → Int32} {pa : List (Nat → Int32)} {kp : Option YS} {tp : List Int32} {sh : Nat → Option (Nat × Nat × (Nat → Int64))} (hA : AOk ((n, k, P, pa), kp, tp, sh)) (hI : CI M N ((n, k, P, pa), kp, tp, sh)) {m t : Nat} (hm : m < n) (ht : t ≤ 60) : Run mX11_ahead 30 0 0 [.ref 0, .int (nI m), .int (nI t), .int (nI 0)] (SK, M, N) (CQ M N (ahV P n k m t 0) ((n, k, P, pa), kp, tp, sh)) := by
  refine Run.of (by decide) (Nat.le_of_ble_eq_true rfl) ?_
  have hok : OkP n k P := hA.1.1.1
  have hc0 : IsC M 14 n k P := hI.1.1
  have hn6 := hok.1
  have hk6 := hok.2.1
  refine g_aload_n (j := 0) (pc' := 1) dX11_ahead_0 rfl rfl ?_
  refine g_iload_n (j := 1) (pc' := 2) dX11_ahead_1 rfl rfl ?_
  refine g_callV (my := mX11_noMan) (k := 0) (st := []) (av := [.int (nI m)]) (mcr := 0) (msr := 0) (mc := 0) (ms := 0) (pc' := 5) dX11_ahead_2 kX11_noMan wX11_93 rfl ⟨rfl, rfl⟩ rfl (Nat.le_of_ble_eq_true rfl) (by decide) (s_noMan0 hc0.1 hn6 (hm)) rfl ?_
  rintro _ _ ⟨rfl, rfl⟩
  show Go mX11_ahead _ _ _ 5 [(0, .ref 0), (1, .int (nI m)), (2, .int (nI t)), (3, .int (nI 0))] [.int 0] (SK, M, N) _
  refine g_if_ne (tgt := 27) (pc' := 8) dX11_ahead_5 (by decide) rfl (fun hc => absurd rfl hc) (fun _ => ?_)
  refine g_iload_n (j := 2) (pc' := 9) dX11_ahead_8 rfl rfl ?_
  refine g_iconst (v := 0) (pc' := 10) dX11_ahead_9 (by decide) rfl ?_
  refine g_bipush (v := 60) (pc' := 12) dX11_ahead_10 (by decide) rfl ?_
  refine g_callS (my := mX11_outside) (st := []) (av := [.int (nI t), .int 0, .int 60]) (mcr := 0) (msr := 0) (mc := 0) (ms := 0) (pc' := 15) dX11_ahead_12 kX11_outside wX11_71 rfl (Nat.le_of_ble_eq_true rfl) (by decide) (s_out0 (not_rng (hi := 60) (by omega) ht)) rfl ?_
  rintro _ _ ⟨rfl, rfl⟩
  show Go mX11_ahead _ _ _ 15 [(0, .ref 0), (1, .int (nI m)), (2, .int (nI t)), (3, .int (nI 0))] [.int 0] (SK, M, N) _
  refine g_if_ne (tgt := 27) (pc' := 18) dX11_ahead_15 (by decide) rfl (fun hc => absurd rfl hc) (fun _ => ?_)
  refine g_iload_n (j := 3) (pc' := 19) dX11_ahead_18 rfl rfl ?_
  refine g_iconst (v := 0) (pc' := 20) dX11_ahead_19 (by decide) rfl ?_
  refine g_iconst (v := 2) (pc' := 21) dX11_ahead_20 (by decide) rfl ?_
  refine g_callS (my := mX11_outside) (st := []) (av := [.int (nI 0), .int 0, .int 2]) (mcr := 0) (msr := 0) (mc := 0) (ms := 0) (pc' := 24) dX11_ahead_21 kX11_outside wX11_71 rfl (Nat.le_of_ble_eq_true rfl) (by decide) (s_out0 (by decide)) rfl ?_
  rintro _ _ ⟨rfl, rfl⟩
  show Go mX11_ahead _ _ _ 24 [(0, .ref 0), (1, .int (nI m)), (2, .int (nI t)), (3, .int (nI 0))] [.int 0] (SK, M, N) _
  refine g_if_eq (tgt := 29) (pc' := 27) dX11_ahead_24 (by decide) rfl (fun _ => ?_) (fun hc => absurd rfl hc)
  refine g_aload_n (j := 0) (pc' := 30) dX11_ahead_29 rfl rfl ?_
  refine g_iload_n (j := 2) (pc' := 31) dX11_ahead_30 rfl rfl ?_
  refine g_callV (my := mX11_foretell) (k := 0) (st := []) (av := [.int (nI t)]) (mcr := 0) (msr := 0) (mc := 0) (ms := 0) (pc' := 34) dX11_ahead_31 kX11_foretell wX11_206 rfl ⟨rfl, rfl⟩ rfl (Nat.le_of_ble_eq_true rfl) (by decide) (s_foretell hok hc0 ht) rfl ?_
  rintro _ _ ⟨M1, rfl, rfl, hT⟩
  show Go mX11_ahead _ _ _ 34 [(0, .ref 0), (1, .int (nI m)), (2, .int (nI t)), (3, .int (nI 0))] [] (SK, M1, N) _
  have hok2 := foreP_ok hok t
  have hm9 := hT.1.2.2.2.2.2.1 m hm
  refine g_iload_n (j := 3) (pc' := 35) dX11_ahead_34 rfl rfl ?_
  refine g_lookup (off := 25) (tgt := 60) dX11_ahead_35 (by decide) (by decide) (by decide) ?_
  refine g_aload_n (j := 0) (pc' := 61) dX11_ahead_60 rfl rfl ?_
  refine g_getR (pc' := 64) dX11_ahead_61 fX11_49 rfl rfl rfl ?_
  refine g_getR (pc' := 67) dX11_ahead_64 fX11_110 rfl rfl rfl ?_
  refine g_iload_n (j := 1) (pc' := 68) dX11_ahead_67 rfl rfl ?_
  refine g_iald (n := m) (pc' := 69) dX11_ahead_68 rfl rfl (by omega) rfl ?_
  refine g_top (y := unN (foreP n k P t (28 + m))) (hm9.2.2.2.2) ?_
  refine g_callS (my := mX11_orNone) (st := []) (av := [.int (unN (foreP n k P t (28 + m)))]) (mcr := 0) (msr := 0) (mc := 0) (ms := 0) (pc' := 72) dX11_ahead_69 kX11_orNone wX11_113 rfl (Nat.le_of_ble_eq_true rfl) (by decide) (s_orNone _ _) rfl ?_
  rintro _ _ ⟨rfl, rfl⟩
  show Go mX11_ahead _ _ _ 72 [(0, .ref 0), (1, .int (nI m)), (2, .int (nI t)), (3, .int (nI 0))] [.int (if unN (foreP n k P t (28 + m)) = -1 then -4 else unN (foreP n k P t (28 + m)))] (SK, M1, N) _
  refine g_top (y := foreP n k P t (28 + m)) (orN hok2 hm) ?_
  exact g_iret dX11_ahead_72 rfl rfl (CQ.tmp hI (tmp_told hT))
set_option maxRecDepth 100000 in
set_option maxHeartbeats 1000000 in
theorem c_ahead_1 {M : Nat → Nat → Int32} {N : Nat → Nat → Int64} {n k : Nat} {P : Nat → Int32} {pa : List (Nat → Int32)} {kp : Option YS} {tp : List Int32} {sh : Nat → Option (Nat × Nat × (Nat → Int64))} (hA : AOk ((n, k, P, pa), kp, tp, sh)) (hI : CI M N ((n, k, P, pa), kp, tp, sh)) {m t : Nat} (hm : m < n) (ht : t ≤ 60) : Run mX11_ahead 30 0 0 [.ref 0, .int (nI m), .int (nI t), .int (nI 1)] (SK, M, N) (CQ M N (ahV P n k m t 1) ((n, k, P, pa), kp, tp, sh)) := by
  refine Run.of (by decide) (Nat.le_of_ble_eq_true rfl) ?_
  have hok : OkP n k P := hA.1.1.1
  have hc0 : IsC M 14 n k P := hI.1.1
  have hn6 := hok.1
  have hk6 := hok.2.1
  refine g_aload_n (j := 0) (pc' := 1) dX11_ahead_0 rfl rfl ?_
  refine g_iload_n (j := 1) (pc' := 2) dX11_ahead_1 rfl rfl ?_
  refine g_callV (my := mX11_noMan) (k := 0) (st := []) (av := [.int (nI m)]) (mcr := 0) (msr := 0) (mc := 0) (ms := 0) (pc' := 5) dX11_ahead_2 kX11_noMan wX11_93 rfl ⟨rfl, rfl⟩ rfl (Nat.le_of_ble_eq_true rfl) (by decide) (s_noMan0 hc0.1 hn6 (hm)) rfl ?_
  rintro _ _ ⟨rfl, rfl⟩
  show Go mX11_ahead _ _ _ 5 [(0, .ref 0), (1, .int (nI m)), (2, .int (nI t)), (3, .int (nI 1))] [.int 0] (SK, M, N) _
  refine g_if_ne (tgt := 27) (pc' := 8) dX11_ahead_5 (by decide) rfl (fun hc => absurd rfl hc) (fun _ => ?_)
  refine g_iload_n (j := 2) (pc' := 9) dX11_ahead_8 rfl rfl ?_
  refine g_iconst (v := 0) (pc' := 10) dX11_ahead_9 (by decide) rfl ?_
  refine g_bipush (v := 60) (pc' := 12) dX11_ahead_10 (by decide) rfl ?_
  refine g_callS (my := mX11_outside) (st := []) (av := [.int (nI t), .int 0, .int 60]) (mcr := 0) (msr := 0) (mc := 0) (ms := 0) (pc' := 15) dX11_ahead_12 kX11_outside wX11_71 rfl (Nat.le_of_ble_eq_true rfl) (by decide) (s_out0 (not_rng (hi := 60) (by omega) ht)) rfl ?_
  rintro _ _ ⟨rfl, rfl⟩
  show Go mX11_ahead _ _ _ 15 [(0, .ref 0), (1, .int (nI m)), (2, .int (nI t)), (3, .int (nI 1))] [.int 0] (SK, M, N) _
  refine g_if_ne (tgt := 27) (pc' := 18) dX11_ahead_15 (by decide) rfl (fun hc => absurd rfl hc) (fun _ => ?_)
  refine g_iload_n (j := 3) (pc' := 19) dX11_ahead_18 rfl rfl ?_
  refine g_iconst (v := 0) (pc' := 20) dX11_ahead_19 (by decide) rfl ?_
  refine g_iconst (v := 2) (pc' := 21) dX11_ahead_20 (by decide) rfl ?_
  refine g_callS (my := mX11_outside) (st := []) (av := [.int (nI 1), .int 0, .int 2]) (mcr := 0) (msr := 0) (mc := 0) (ms := 0) (pc' := 24) dX11_ahead_21 kX11_outside wX11_71 rfl (Nat.le_of_ble_eq_true rfl) (by decide) (s_out0 (by decide)) rfl ?_
  rintro _ _ ⟨rfl, rfl⟩
  show Go mX11_ahead _ _ _ 24 [(0, .ref 0), (1, .int (nI m)), (2, .int (nI t)), (3, .int (nI 1))] [.int 0] (SK, M, N) _
  refine g_if_eq (tgt := 29) (pc' := 27) dX11_ahead_24 (by decide) rfl (fun _ => ?_) (fun hc => absurd rfl hc)
  refine g_aload_n (j := 0) (pc' := 30) dX11_ahead_29 rfl rfl ?_
  refine g_iload_n (j := 2) (pc' := 31) dX11_ahead_30 rfl rfl ?_
  refine g_callV (my := mX11_foretell) (k := 0) (st := []) (av := [.int (nI t)]) (mcr := 0) (msr := 0) (mc := 0) (ms := 0) (pc' := 34) dX11_ahead_31 kX11_foretell wX11_206 rfl ⟨rfl, rfl⟩ rfl (Nat.le_of_ble_eq_true rfl) (by decide) (s_foretell hok hc0 ht) rfl ?_
  rintro _ _ ⟨M1, rfl, rfl, hT⟩
  show Go mX11_ahead _ _ _ 34 [(0, .ref 0), (1, .int (nI m)), (2, .int (nI t)), (3, .int (nI 1))] [] (SK, M1, N) _
  have hok2 := foreP_ok hok t
  have hm9 := hT.1.2.2.2.2.2.1 m hm
  refine g_iload_n (j := 3) (pc' := 35) dX11_ahead_34 rfl rfl ?_
  refine g_lookup (off := 38) (tgt := 73) dX11_ahead_35 (by decide) (by decide) (by decide) ?_
  refine g_aload_n (j := 0) (pc' := 74) dX11_ahead_73 rfl rfl ?_
  refine g_getR (pc' := 77) dX11_ahead_74 fX11_49 rfl rfl rfl ?_
  refine g_getR (pc' := 80) dX11_ahead_77 fX11_107 rfl rfl rfl ?_
  refine g_iload_n (j := 1) (pc' := 81) dX11_ahead_80 rfl rfl ?_
  refine g_iald (n := m) (pc' := 82) dX11_ahead_81 rfl rfl (by omega) rfl ?_
  refine g_top (y := foreP n k P t (22 + m)) (hm9.2.2.2.1) ?_
  refine g_sipush (v := 10000) (pc' := 85) dX11_ahead_82 (by decide) rfl ?_
  refine g_iadd (pc' := 86) dX11_ahead_85 rfl ?_
  exact g_iret dX11_ahead_86 rfl rfl (CQ.tmp hI (tmp_told hT))
set_option maxRecDepth 100000 in
set_option maxHeartbeats 1000000 in
theorem c_ahead_2 {M : Nat → Nat → Int32} {N : Nat → Nat → Int64} {n k : Nat} {P : Nat → Int32} {pa : List (Nat → Int32)} {kp : Option YS} {tp : List Int32} {sh : Nat → Option (Nat × Nat × (Nat → Int64))} (hA : AOk ((n, k, P, pa), kp, tp, sh)) (hI : CI M N ((n, k, P, pa), kp, tp, sh)) {m t : Nat} (hm : m < n) (ht : t ≤ 60) : Run mX11_ahead 30 0 0 [.ref 0, .int (nI m), .int (nI t), .int (nI 2)] (SK, M, N) (CQ M N (ahV P n k m t 2) ((n, k, P, pa), kp, tp, sh)) := by
  refine Run.of (by decide) (Nat.le_of_ble_eq_true rfl) ?_
  have hok : OkP n k P := hA.1.1.1
  have hc0 : IsC M 14 n k P := hI.1.1
  have hn6 := hok.1
  have hk6 := hok.2.1
  refine g_aload_n (j := 0) (pc' := 1) dX11_ahead_0 rfl rfl ?_
  refine g_iload_n (j := 1) (pc' := 2) dX11_ahead_1 rfl rfl ?_
  refine g_callV (my := mX11_noMan) (k := 0) (st := []) (av := [.int (nI m)]) (mcr := 0) (msr := 0) (mc := 0) (ms := 0) (pc' := 5) dX11_ahead_2 kX11_noMan wX11_93 rfl ⟨rfl, rfl⟩ rfl (Nat.le_of_ble_eq_true rfl) (by decide) (s_noMan0 hc0.1 hn6 (hm)) rfl ?_
  rintro _ _ ⟨rfl, rfl⟩
  show Go mX11_ahead _ _ _ 5 [(0, .ref 0), (1, .int (nI m)), (2, .int (nI t)), (3, .int (nI 2))] [.int 0] (SK, M, N) _
  refine g_if_ne (tgt := 27) (pc' := 8) dX11_ahead_5 (by decide) rfl (fun hc => absurd rfl hc) (fun _ => ?_)
  refine g_iload_n (j := 2) (pc' := 9) dX11_ahead_8 rfl rfl ?_
  refine g_iconst (v := 0) (pc' := 10) dX11_ahead_9 (by decide) rfl ?_
  refine g_bipush (v := 60) (pc' := 12) dX11_ahead_10 (by decide) rfl ?_
  refine g_callS (my := mX11_outside) (st := []) (av := [.int (nI t), .int 0, .int 60]) (mcr := 0) (msr := 0) (mc := 0) (ms := 0) (pc' := 15) dX11_ahead_12 kX11_outside wX11_71 rfl (Nat.le_of_ble_eq_true rfl) (by decide) (s_out0 (not_rng (hi := 60) (by omega) ht)) rfl ?_
  rintro _ _ ⟨rfl, rfl⟩
  show Go mX11_ahead _ _ _ 15 [(0, .ref 0), (1, .int (nI m)), (2, .int (nI t)), (3, .int (nI 2))] [.int 0] (SK, M, N) _
  refine g_if_ne (tgt := 27) (pc' := 18) dX11_ahead_15 (by decide) rfl (fun hc => absurd rfl hc) (fun _ => ?_)
  refine g_iload_n (j := 3) (pc' := 19) dX11_ahead_18 rfl rfl ?_
  refine g_iconst (v := 0) (pc' := 20) dX11_ahead_19 (by decide) rfl ?_
  refine g_iconst (v := 2) (pc' := 21) dX11_ahead_20 (by decide) rfl ?_
  refine g_callS (my := mX11_outside) (st := []) (av := [.int (nI 2), .int 0, .int 2]) (mcr := 0) (msr := 0) (mc := 0) (ms := 0) (pc' := 24) dX11_ahead_21 kX11_outside wX11_71 rfl (Nat.le_of_ble_eq_true rfl) (by decide) (s_out0 (by decide)) rfl ?_
  rintro _ _ ⟨rfl, rfl⟩
  show Go mX11_ahead _ _ _ 24 [(0, .ref 0), (1, .int (nI m)), (2, .int (nI t)), (3, .int (nI 2))] [.int 0] (SK, M, N) _
  refine g_if_eq (tgt := 29) (pc' := 27) dX11_ahead_24 (by decide) rfl (fun _ => ?_) (fun hc => absurd rfl hc)
  refine g_aload_n (j := 0) (pc' := 30) dX11_ahead_29 rfl rfl ?_
  refine g_iload_n (j := 2) (pc' := 31) dX11_ahead_30 rfl rfl ?_
  refine g_callV (my := mX11_foretell) (k := 0) (st := []) (av := [.int (nI t)]) (mcr := 0) (msr := 0) (mc := 0) (ms := 0) (pc' := 34) dX11_ahead_31 kX11_foretell wX11_206 rfl ⟨rfl, rfl⟩ rfl (Nat.le_of_ble_eq_true rfl) (by decide) (s_foretell hok hc0 ht) rfl ?_
  rintro _ _ ⟨M1, rfl, rfl, hT⟩
  show Go mX11_ahead _ _ _ 34 [(0, .ref 0), (1, .int (nI m)), (2, .int (nI t)), (3, .int (nI 2))] [] (SK, M1, N) _
  have hok2 := foreP_ok hok t
  have hm9 := hT.1.2.2.2.2.2.1 m hm
  refine g_iload_n (j := 3) (pc' := 35) dX11_ahead_34 rfl rfl ?_
  refine g_lookup (off := 52) (tgt := 87) dX11_ahead_35 (by decide) (by decide) (by decide) ?_
  refine g_aload_n (j := 0) (pc' := 88) dX11_ahead_87 rfl rfl ?_
  refine g_getR (pc' := 91) dX11_ahead_88 fX11_49 rfl rfl rfl ?_
  refine g_getR (pc' := 94) dX11_ahead_91 fX11_101 rfl rfl rfl ?_
  refine g_iload_n (j := 1) (pc' := 95) dX11_ahead_94 rfl rfl ?_
  refine g_iald (n := m) (pc' := 96) dX11_ahead_95 rfl rfl (by omega) rfl ?_
  refine g_top (y := foreP n k P t (10 + m)) (hm9.2.1) ?_
  exact g_iret dX11_ahead_96 rfl rfl (CQ.tmp hI (tmp_told hT))
set_option maxRecDepth 100000 in
set_option maxHeartbeats 1000000 in
theorem c_nameAhead_b1 {M : Nat → Nat → Int32} {N : Nat → Nat → Int64} {n k : Nat} {P : Nat → Int32} {pa : List (Nat → Int32)} {kp : Option YS} {tp : List Int32} {sh : Nat → Option (Nat × Nat × (Nat → Int64))} (hA : AOk ((n, k, P, pa), kp, tp, sh)) (hI : CI M N ((n, k, P, pa), kp, tp, sh)) {v : Int32} (u z : Int32) (h1 : ∀ m, m < k → v ≠ nI m) : Run mX11_nameAhead 30 0 0 [.ref 0, .int v, .int u, .int z] (SK, M, N) (CQ M N (-1) ((n, k, P, pa), kp, tp, sh)) := by
  refine Run.of (by decide) (Nat.le_of_ble_eq_true rfl) ?_
  have hok : OkP n k P := hA.1.1.1
  have hc0 : IsC M 14 n k P := hI.1.1
  have hn6 := hok.1
  have hk6 := hok.2.1
  refine g_aload_n (j := 0) (pc' := 1) dX11_nameAhead_0 rfl rfl ?_
  refine g_iload_n (j := 1) (pc' := 2) dX11_nameAhead_1 rfl rfl ?_
  refine g_callV (my := mX11_noName) (k := 0) (st := []) (av := [.int v]) (mcr := 0) (msr := 0) (mc := 0) (ms := 0) (pc' := 5) dX11_nameAhead_2 kX11_noName wX11_128 rfl ⟨rfl, rfl⟩ rfl (Nat.le_of_ble_eq_true rfl) (by decide) (s_noName1 hc0.2.1 hk6 (h1)) rfl ?_
  rintro _ _ ⟨rfl, rfl⟩
  show Go mX11_nameAhead _ _ _ 5 [(0, .ref 0), (1, .int v), (2, .int u), (3, .int z)] [.int 1] (SK, M, N) _
  refine g_if_ne (tgt := 27) (pc' := 8) dX11_nameAhead_5 (by decide) rfl (fun _ => ?_) (fun hc => absurd hc (by decide))
  refine g_iconst (v := (-1)) (pc' := 28) dX11_nameAhead_27 (by decide) rfl ?_
  exact g_iret dX11_nameAhead_28 rfl rfl (CQ.same hI)
set_option maxRecDepth 100000 in
set_option maxHeartbeats 1000000 in
theorem c_nameAhead_b2 {M : Nat → Nat → Int32} {N : Nat → Nat → Int64} {n k : Nat} {P : Nat → Int32} {pa : List (Nat → Int32)} {kp : Option YS} {tp : List Int32} {sh : Nat → Option (Nat × Nat × (Nat → Int64))} (hA : AOk ((n, k, P, pa), kp, tp, sh)) (hI : CI M N ((n, k, P, pa), kp, tp, sh)) {i : Nat} {u : Int32} (z : Int32) (hi : i < k) (h1 : u < 0 ∨ 60 < u) : Run mX11_nameAhead 30 0 0 [.ref 0, .int (nI i), .int u, .int z] (SK, M, N) (CQ M N (-1) ((n, k, P, pa), kp, tp, sh)) := by
  refine Run.of (by decide) (Nat.le_of_ble_eq_true rfl) ?_
  have hok : OkP n k P := hA.1.1.1
  have hc0 : IsC M 14 n k P := hI.1.1
  have hn6 := hok.1
  have hk6 := hok.2.1
  refine g_aload_n (j := 0) (pc' := 1) dX11_nameAhead_0 rfl rfl ?_
  refine g_iload_n (j := 1) (pc' := 2) dX11_nameAhead_1 rfl rfl ?_
  refine g_callV (my := mX11_noName) (k := 0) (st := []) (av := [.int (nI i)]) (mcr := 0) (msr := 0) (mc := 0) (ms := 0) (pc' := 5) dX11_nameAhead_2 kX11_noName wX11_128 rfl ⟨rfl, rfl⟩ rfl (Nat.le_of_ble_eq_true rfl) (by decide) (s_noName0 hc0.2.1 hk6 (hi)) rfl ?_
  rintro _ _ ⟨rfl, rfl⟩
  show Go mX11_nameAhead _ _ _ 5 [(0, .ref 0), (1, .int (nI i)), (2, .int u), (3, .int z)] [.int 0] (SK, M, N) _
  refine g_if_ne (tgt := 27) (pc' := 8) dX11_nameAhead_5 (by decide) rfl (fun hc => absurd rfl hc) (fun _ => ?_)
  refine g_iload_n (j := 2) (pc' := 9) dX11_nameAhead_8 rfl rfl ?_
  refine g_iconst (v := 0) (pc' := 10) dX11_nameAhead_9 (by decide) rfl ?_
  refine g_bipush (v := 60) (pc' := 12) dX11_nameAhead_10 (by decide) rfl ?_
  refine g_callS (my := mX11_outside) (st := []) (av := [.int u, .int 0, .int 60]) (mcr := 0) (msr := 0) (mc := 0) (ms := 0) (pc' := 15) dX11_nameAhead_12 kX11_outside wX11_71 rfl (Nat.le_of_ble_eq_true rfl) (by decide) (s_out1 (h1)) rfl ?_
  rintro _ _ ⟨rfl, rfl⟩
  show Go mX11_nameAhead _ _ _ 15 [(0, .ref 0), (1, .int (nI i)), (2, .int u), (3, .int z)] [.int 1] (SK, M, N) _
  refine g_if_ne (tgt := 27) (pc' := 18) dX11_nameAhead_15 (by decide) rfl (fun _ => ?_) (fun hc => absurd hc (by decide))
  refine g_iconst (v := (-1)) (pc' := 28) dX11_nameAhead_27 (by decide) rfl ?_
  exact g_iret dX11_nameAhead_28 rfl rfl (CQ.same hI)
set_option maxRecDepth 100000 in
set_option maxHeartbeats 1000000 in
theorem c_nameAhead_b3 {M : Nat → Nat → Int32} {N : Nat → Nat → Int64} {n k : Nat} {P : Nat → Int32} {pa : List (Nat → Int32)} {kp : Option YS} {tp : List Int32} {sh : Nat → Option (Nat × Nat × (Nat → Int64))} (hA : AOk ((n, k, P, pa), kp, tp, sh)) (hI : CI M N ((n, k, P, pa), kp, tp, sh)) {i : Nat} {u z : Int32} (hi : i < k) (h1 : ¬ (u < 0 ∨ 60 < u)) (h2 : z < 0 ∨ 1 < z) : Run mX11_nameAhead 30 0 0 [.ref 0, .int (nI i), .int u, .int z] (SK, M, N) (CQ M N (-1) ((n, k, P, pa), kp, tp, sh)) := by
  refine Run.of (by decide) (Nat.le_of_ble_eq_true rfl) ?_
  have hok : OkP n k P := hA.1.1.1
  have hc0 : IsC M 14 n k P := hI.1.1
  have hn6 := hok.1
  have hk6 := hok.2.1
  refine g_aload_n (j := 0) (pc' := 1) dX11_nameAhead_0 rfl rfl ?_
  refine g_iload_n (j := 1) (pc' := 2) dX11_nameAhead_1 rfl rfl ?_
  refine g_callV (my := mX11_noName) (k := 0) (st := []) (av := [.int (nI i)]) (mcr := 0) (msr := 0) (mc := 0) (ms := 0) (pc' := 5) dX11_nameAhead_2 kX11_noName wX11_128 rfl ⟨rfl, rfl⟩ rfl (Nat.le_of_ble_eq_true rfl) (by decide) (s_noName0 hc0.2.1 hk6 (hi)) rfl ?_
  rintro _ _ ⟨rfl, rfl⟩
  show Go mX11_nameAhead _ _ _ 5 [(0, .ref 0), (1, .int (nI i)), (2, .int u), (3, .int z)] [.int 0] (SK, M, N) _
  refine g_if_ne (tgt := 27) (pc' := 8) dX11_nameAhead_5 (by decide) rfl (fun hc => absurd rfl hc) (fun _ => ?_)
  refine g_iload_n (j := 2) (pc' := 9) dX11_nameAhead_8 rfl rfl ?_
  refine g_iconst (v := 0) (pc' := 10) dX11_nameAhead_9 (by decide) rfl ?_
  refine g_bipush (v := 60) (pc' := 12) dX11_nameAhead_10 (by decide) rfl ?_
  refine g_callS (my := mX11_outside) (st := []) (av := [.int u, .int 0, .int 60]) (mcr := 0) (msr := 0) (mc := 0) (ms := 0) (pc' := 15) dX11_nameAhead_12 kX11_outside wX11_71 rfl (Nat.le_of_ble_eq_true rfl) (by decide) (s_out0 (h1)) rfl ?_
  rintro _ _ ⟨rfl, rfl⟩
  show Go mX11_nameAhead _ _ _ 15 [(0, .ref 0), (1, .int (nI i)), (2, .int u), (3, .int z)] [.int 0] (SK, M, N) _
  refine g_if_ne (tgt := 27) (pc' := 18) dX11_nameAhead_15 (by decide) rfl (fun hc => absurd rfl hc) (fun _ => ?_)
  refine g_iload_n (j := 3) (pc' := 19) dX11_nameAhead_18 rfl rfl ?_
  refine g_iconst (v := 0) (pc' := 20) dX11_nameAhead_19 (by decide) rfl ?_
  refine g_iconst (v := 1) (pc' := 21) dX11_nameAhead_20 (by decide) rfl ?_
  refine g_callS (my := mX11_outside) (st := []) (av := [.int z, .int 0, .int 1]) (mcr := 0) (msr := 0) (mc := 0) (ms := 0) (pc' := 24) dX11_nameAhead_21 kX11_outside wX11_71 rfl (Nat.le_of_ble_eq_true rfl) (by decide) (s_out1 (h2)) rfl ?_
  rintro _ _ ⟨rfl, rfl⟩
  show Go mX11_nameAhead _ _ _ 24 [(0, .ref 0), (1, .int (nI i)), (2, .int u), (3, .int z)] [.int 1] (SK, M, N) _
  refine g_if_eq (tgt := 29) (pc' := 27) dX11_nameAhead_24 (by decide) rfl (fun hc => absurd hc (by decide)) (fun _ => ?_)
  refine g_iconst (v := (-1)) (pc' := 28) dX11_nameAhead_27 (by decide) rfl ?_
  exact g_iret dX11_nameAhead_28 rfl rfl (CQ.same hI)
set_option maxRecDepth 100000 in
set_option maxHeartbeats 1000000 in
theorem c_nameAhead_0 {M : Nat → Nat → Int32} {N : Nat → Nat → Int64} {n k : Nat} {P : Nat → Int32} {pa : List (Nat → Int32)} {kp : Option YS} {tp : List Int32} {sh : Nat → Option (Nat × Nat × (Nat → Int64))} (hA : AOk ((n, k, P, pa), kp, tp, sh)) (hI : CI M N ((n, k, P, pa), kp, tp, sh)) {i t : Nat} (hi : i < k) (ht : t ≤ 60) : Run mX11_nameAhead 30 0 0 [.ref 0, .int (nI i), .int (nI t), .int (nI 0)] (SK, M, N) (CQ M N (foreP n k P t (34 + i)) ((n, k, P, pa), kp, tp, sh)) := by
  refine Run.of (by decide) (Nat.le_of_ble_eq_true rfl) ?_
  have hok : OkP n k P := hA.1.1.1
  have hc0 : IsC M 14 n k P := hI.1.1
  have hn6 := hok.1
  have hk6 := hok.2.1
  refine g_aload_n (j := 0) (pc' := 1) dX11_nameAhead_0 rfl rfl ?_
  refine g_iload_n (j := 1) (pc' := 2) dX11_nameAhead_1 rfl rfl ?_
  refine g_callV (my := mX11_noName) (k := 0) (st := []) (av := [.int (nI i)]) (mcr := 0) (msr := 0) (mc := 0) (ms := 0) (pc' := 5) dX11_nameAhead_2 kX11_noName wX11_128 rfl ⟨rfl, rfl⟩ rfl (Nat.le_of_ble_eq_true rfl) (by decide) (s_noName0 hc0.2.1 hk6 (hi)) rfl ?_
  rintro _ _ ⟨rfl, rfl⟩
  show Go mX11_nameAhead _ _ _ 5 [(0, .ref 0), (1, .int (nI i)), (2, .int (nI t)), (3, .int (nI 0))] [.int 0] (SK, M, N) _
  refine g_if_ne (tgt := 27) (pc' := 8) dX11_nameAhead_5 (by decide) rfl (fun hc => absurd rfl hc) (fun _ => ?_)
  refine g_iload_n (j := 2) (pc' := 9) dX11_nameAhead_8 rfl rfl ?_
  refine g_iconst (v := 0) (pc' := 10) dX11_nameAhead_9 (by decide) rfl ?_
  refine g_bipush (v := 60) (pc' := 12) dX11_nameAhead_10 (by decide) rfl ?_
  refine g_callS (my := mX11_outside) (st := []) (av := [.int (nI t), .int 0, .int 60]) (mcr := 0) (msr := 0) (mc := 0) (ms := 0) (pc' := 15) dX11_nameAhead_12 kX11_outside wX11_71 rfl (Nat.le_of_ble_eq_true rfl) (by decide) (s_out0 (not_rng (hi := 60) (by omega) ht)) rfl ?_
  rintro _ _ ⟨rfl, rfl⟩
  show Go mX11_nameAhead _ _ _ 15 [(0, .ref 0), (1, .int (nI i)), (2, .int (nI t)), (3, .int (nI 0))] [.int 0] (SK, M, N) _
  refine g_if_ne (tgt := 27) (pc' := 18) dX11_nameAhead_15 (by decide) rfl (fun hc => absurd rfl hc) (fun _ => ?_)
  refine g_iload_n (j := 3) (pc' := 19) dX11_nameAhead_18 rfl rfl ?_
  refine g_iconst (v := 0) (pc' := 20) dX11_nameAhead_19 (by decide) rfl ?_
  refine g_iconst (v := 1) (pc' := 21) dX11_nameAhead_20 (by decide) rfl ?_
  refine g_callS (my := mX11_outside) (st := []) (av := [.int (nI 0), .int 0, .int 1]) (mcr := 0) (msr := 0) (mc := 0) (ms := 0) (pc' := 24) dX11_nameAhead_21 kX11_outside wX11_71 rfl (Nat.le_of_ble_eq_true rfl) (by decide) (s_out0 (by decide)) rfl ?_
  rintro _ _ ⟨rfl, rfl⟩
  show Go mX11_nameAhead _ _ _ 24 [(0, .ref 0), (1, .int (nI i)), (2, .int (nI t)), (3, .int (nI 0))] [.int 0] (SK, M, N) _
  refine g_if_eq (tgt := 29) (pc' := 27) dX11_nameAhead_24 (by decide) rfl (fun _ => ?_) (fun hc => absurd rfl hc)
  refine g_aload_n (j := 0) (pc' := 30) dX11_nameAhead_29 rfl rfl ?_
  refine g_iload_n (j := 2) (pc' := 31) dX11_nameAhead_30 rfl rfl ?_
  refine g_callV (my := mX11_foretell) (k := 0) (st := []) (av := [.int (nI t)]) (mcr := 0) (msr := 0) (mc := 0) (ms := 0) (pc' := 34) dX11_nameAhead_31 kX11_foretell wX11_206 rfl ⟨rfl, rfl⟩ rfl (Nat.le_of_ble_eq_true rfl) (by decide) (s_foretell hok hc0 ht) rfl ?_
  rintro _ _ ⟨M1, rfl, rfl, hT⟩
  show Go mX11_nameAhead _ _ _ 34 [(0, .ref 0), (1, .int (nI i)), (2, .int (nI t)), (3, .int (nI 0))] [] (SK, M1, N) _
  have hm9 := hT.1.2.2.2.2.2.2 i hi
  refine g_iload_n (j := 3) (pc' := 35) dX11_nameAhead_34 rfl rfl ?_
  refine g_if_ne (tgt := 50) (pc' := 38) dX11_nameAhead_35 (by decide) rfl (fun hc => (absurd rfl hc)) (fun hc => ?_)
  refine g_aload_n (j := 0) (pc' := 39) dX11_nameAhead_38 rfl rfl ?_
  refine g_getR (pc' := 42) dX11_nameAhead_39 fX11_49 rfl rfl rfl ?_
  refine g_getR (pc' := 45) dX11_nameAhead_42 fX11_131 rfl rfl rfl ?_
  refine g_iload_n (j := 1) (pc' := 46) dX11_nameAhead_45 rfl rfl ?_
  refine g_iald (n := i) (pc' := 47) dX11_nameAhead_46 rfl rfl (by omega) rfl ?_
  refine g_top (y := foreP n k P t (34 + i)) (hm9.1) ?_
  refine g_goto (tgt := 59) dX11_nameAhead_47 (by decide) ?_
  exact g_iret dX11_nameAhead_59 rfl rfl (CQ.tmp hI (tmp_told hT))
set_option maxRecDepth 100000 in
set_option maxHeartbeats 1000000 in
theorem c_nameAhead_1 {M : Nat → Nat → Int32} {N : Nat → Nat → Int64} {n k : Nat} {P : Nat → Int32} {pa : List (Nat → Int32)} {kp : Option YS} {tp : List Int32} {sh : Nat → Option (Nat × Nat × (Nat → Int64))} (hA : AOk ((n, k, P, pa), kp, tp, sh)) (hI : CI M N ((n, k, P, pa), kp, tp, sh)) {i t : Nat} (hi : i < k) (ht : t ≤ 60) : Run mX11_nameAhead 30 0 0 [.ref 0, .int (nI i), .int (nI t), .int (nI 1)] (SK, M, N) (CQ M N (foreP n k P t (40 + i)) ((n, k, P, pa), kp, tp, sh)) := by
  refine Run.of (by decide) (Nat.le_of_ble_eq_true rfl) ?_
  have hok : OkP n k P := hA.1.1.1
  have hc0 : IsC M 14 n k P := hI.1.1
  have hn6 := hok.1
  have hk6 := hok.2.1
  refine g_aload_n (j := 0) (pc' := 1) dX11_nameAhead_0 rfl rfl ?_
  refine g_iload_n (j := 1) (pc' := 2) dX11_nameAhead_1 rfl rfl ?_
  refine g_callV (my := mX11_noName) (k := 0) (st := []) (av := [.int (nI i)]) (mcr := 0) (msr := 0) (mc := 0) (ms := 0) (pc' := 5) dX11_nameAhead_2 kX11_noName wX11_128 rfl ⟨rfl, rfl⟩ rfl (Nat.le_of_ble_eq_true rfl) (by decide) (s_noName0 hc0.2.1 hk6 (hi)) rfl ?_
  rintro _ _ ⟨rfl, rfl⟩
  show Go mX11_nameAhead _ _ _ 5 [(0, .ref 0), (1, .int (nI i)), (2, .int (nI t)), (3, .int (nI 1))] [.int 0] (SK, M, N) _
  refine g_if_ne (tgt := 27) (pc' := 8) dX11_nameAhead_5 (by decide) rfl (fun hc => absurd rfl hc) (fun _ => ?_)
  refine g_iload_n (j := 2) (pc' := 9) dX11_nameAhead_8 rfl rfl ?_
  refine g_iconst (v := 0) (pc' := 10) dX11_nameAhead_9 (by decide) rfl ?_
  refine g_bipush (v := 60) (pc' := 12) dX11_nameAhead_10 (by decide) rfl ?_
  refine g_callS (my := mX11_outside) (st := []) (av := [.int (nI t), .int 0, .int 60]) (mcr := 0) (msr := 0) (mc := 0) (ms := 0) (pc' := 15) dX11_nameAhead_12 kX11_outside wX11_71 rfl (Nat.le_of_ble_eq_true rfl) (by decide) (s_out0 (not_rng (hi := 60) (by omega) ht)) rfl ?_
  rintro _ _ ⟨rfl, rfl⟩
  show Go mX11_nameAhead _ _ _ 15 [(0, .ref 0), (1, .int (nI i)), (2, .int (nI t)), (3, .int (nI 1))] [.int 0] (SK, M, N) _
  refine g_if_ne (tgt := 27) (pc' := 18) dX11_nameAhead_15 (by decide) rfl (fun hc => absurd rfl hc) (fun _ => ?_)
  refine g_iload_n (j := 3) (pc' := 19) dX11_nameAhead_18 rfl rfl ?_
  refine g_iconst (v := 0) (pc' := 20) dX11_nameAhead_19 (by decide) rfl ?_
  refine g_iconst (v := 1) (pc' := 21) dX11_nameAhead_20 (by decide) rfl ?_
  refine g_callS (my := mX11_outside) (st := []) (av := [.int (nI 1), .int 0, .int 1]) (mcr := 0) (msr := 0) (mc := 0) (ms := 0) (pc' := 24) dX11_nameAhead_21 kX11_outside wX11_71 rfl (Nat.le_of_ble_eq_true rfl) (by decide) (s_out0 (by decide)) rfl ?_
  rintro _ _ ⟨rfl, rfl⟩
  show Go mX11_nameAhead _ _ _ 24 [(0, .ref 0), (1, .int (nI i)), (2, .int (nI t)), (3, .int (nI 1))] [.int 0] (SK, M, N) _
  refine g_if_eq (tgt := 29) (pc' := 27) dX11_nameAhead_24 (by decide) rfl (fun _ => ?_) (fun hc => absurd rfl hc)
  refine g_aload_n (j := 0) (pc' := 30) dX11_nameAhead_29 rfl rfl ?_
  refine g_iload_n (j := 2) (pc' := 31) dX11_nameAhead_30 rfl rfl ?_
  refine g_callV (my := mX11_foretell) (k := 0) (st := []) (av := [.int (nI t)]) (mcr := 0) (msr := 0) (mc := 0) (ms := 0) (pc' := 34) dX11_nameAhead_31 kX11_foretell wX11_206 rfl ⟨rfl, rfl⟩ rfl (Nat.le_of_ble_eq_true rfl) (by decide) (s_foretell hok hc0 ht) rfl ?_
  rintro _ _ ⟨M1, rfl, rfl, hT⟩
  show Go mX11_nameAhead _ _ _ 34 [(0, .ref 0), (1, .int (nI i)), (2, .int (nI t)), (3, .int (nI 1))] [] (SK, M1, N) _
  have hm9 := hT.1.2.2.2.2.2.2 i hi
  refine g_iload_n (j := 3) (pc' := 35) dX11_nameAhead_34 rfl rfl ?_
  refine g_if_ne (tgt := 50) (pc' := 38) dX11_nameAhead_35 (by decide) rfl (fun hc => ?_) (fun hc => (absurd hc (by decide)))
  refine g_aload_n (j := 0) (pc' := 51) dX11_nameAhead_50 rfl rfl ?_
  refine g_getR (pc' := 54) dX11_nameAhead_51 fX11_49 rfl rfl rfl ?_
  refine g_getR (pc' := 57) dX11_nameAhead_54 fX11_134 rfl rfl rfl ?_
  refine g_iload_n (j := 1) (pc' := 58) dX11_nameAhead_57 rfl rfl ?_
  refine g_iald (n := i) (pc' := 59) dX11_nameAhead_58 rfl rfl (by omega) rfl ?_
  refine g_top (y := foreP n k P t (40 + i)) (hm9.2) ?_
  exact g_iret dX11_nameAhead_59 rfl rfl (CQ.tmp hI (tmp_told hT))
/-- TOP: among the first u Marches: which, what credit -/
def topS (P : Nat → Int32) (n k m : Nat) : Nat → Nat × Int32
  | 0 => (0, -1000000)
  | u + 1 => if (topS P n k m u).2 < foreP n k P (u + 1) (22 + m) then (u + 1, foreP n k P (u + 1) (22 + m)) else topS P n k m u
set_option maxRecDepth 100000 in
set_option maxHeartbeats 1000000 in
theorem c_top_b1 {M : Nat → Nat → Int32} {N : Nat → Nat → Int64} {n k : Nat} {P : Nat → Int32} {pa : List (Nat → Int32)} {kp : Option YS} {tp : List Int32} {sh : Nat → Option (Nat × Nat × (Nat → Int64))} (hA : AOk ((n, k, P, pa), kp, tp, sh)) (hI : CI M N ((n, k, P, pa), kp, tp, sh)) {v : Int32} (u : Int32) (h1 : ∀ m, m < n → v ≠ nI m) : Run mX11_top 30 0 0 [.ref 0, .int v, .int u] (SK, M, N) (CQ M N (-1) ((n, k, P, pa), kp, tp, sh)) := by
  refine Run.of (by decide) (Nat.le_of_ble_eq_true rfl) ?_
  have hok : OkP n k P := hA.1.1.1
  have hc0 : IsC M 14 n k P := hI.1.1
  have hn6 := hok.1
  have hk6 := hok.2.1
  refine g_aload_n (j := 0) (pc' := 1) dX11_top_0 rfl rfl ?_
  refine g_iload_n (j := 1) (pc' := 2) dX11_top_1 rfl rfl ?_
  refine g_callV (my := mX11_noMan) (k := 0) (st := []) (av := [.int v]) (mcr := 0) (msr := 0) (mc := 0) (ms := 0) (pc' := 5) dX11_top_2 kX11_noMan wX11_93 rfl ⟨rfl, rfl⟩ rfl (Nat.le_of_ble_eq_true rfl) (by decide) (s_noMan1 hc0.1 hn6 (h1)) rfl ?_
  rintro _ _ ⟨rfl, rfl⟩
  show Go mX11_top _ _ _ 5 [(0, .ref 0), (1, .int v), (2, .int u)] [.int 1] (SK, M, N) _
  refine g_if_ne (tgt := 18) (pc' := 8) dX11_top_5 (by decide) rfl (fun _ => ?_) (fun hc => absurd hc (by decide))
  refine g_iconst (v := (-1)) (pc' := 19) dX11_top_18 (by decide) rfl ?_
  exact g_iret dX11_top_19 rfl rfl (CQ.same hI)
set_option maxRecDepth 100000 in
set_option maxHeartbeats 1000000 in
theorem c_top_b2 {M : Nat → Nat → Int32} {N : Nat → Nat → Int64} {n k : Nat} {P : Nat → Int32} {pa : List (Nat → Int32)} {kp : Option YS} {tp : List Int32} {sh : Nat → Option (Nat × Nat × (Nat → Int64))} (hA : AOk ((n, k, P, pa), kp, tp, sh)) (hI : CI M N ((n, k, P, pa), kp, tp, sh)) {m : Nat} {u : Int32} (hm : m < n) (h1 : u < 1 ∨ 60 < u) : Run mX11_top 30 0 0 [.ref 0, .int (nI m), .int u] (SK, M, N) (CQ M N (-1) ((n, k, P, pa), kp, tp, sh)) := by
  refine Run.of (by decide) (Nat.le_of_ble_eq_true rfl) ?_
  have hok : OkP n k P := hA.1.1.1
  have hc0 : IsC M 14 n k P := hI.1.1
  have hn6 := hok.1
  have hk6 := hok.2.1
  refine g_aload_n (j := 0) (pc' := 1) dX11_top_0 rfl rfl ?_
  refine g_iload_n (j := 1) (pc' := 2) dX11_top_1 rfl rfl ?_
  refine g_callV (my := mX11_noMan) (k := 0) (st := []) (av := [.int (nI m)]) (mcr := 0) (msr := 0) (mc := 0) (ms := 0) (pc' := 5) dX11_top_2 kX11_noMan wX11_93 rfl ⟨rfl, rfl⟩ rfl (Nat.le_of_ble_eq_true rfl) (by decide) (s_noMan0 hc0.1 hn6 (hm)) rfl ?_
  rintro _ _ ⟨rfl, rfl⟩
  show Go mX11_top _ _ _ 5 [(0, .ref 0), (1, .int (nI m)), (2, .int u)] [.int 0] (SK, M, N) _
  refine g_if_ne (tgt := 18) (pc' := 8) dX11_top_5 (by decide) rfl (fun hc => absurd rfl hc) (fun _ => ?_)
  refine g_iload_n (j := 2) (pc' := 9) dX11_top_8 rfl rfl ?_
  refine g_iconst (v := 1) (pc' := 10) dX11_top_9 (by decide) rfl ?_
  refine g_bipush (v := 60) (pc' := 12) dX11_top_10 (by decide) rfl ?_
  refine g_callS (my := mX11_outside) (st := []) (av := [.int u, .int 1, .int 60]) (mcr := 0) (msr := 0) (mc := 0) (ms := 0) (pc' := 15) dX11_top_12 kX11_outside wX11_71 rfl (Nat.le_of_ble_eq_true rfl) (by decide) (s_out1 (h1)) rfl ?_
  rintro _ _ ⟨rfl, rfl⟩
  show Go mX11_top _ _ _ 15 [(0, .ref 0), (1, .int (nI m)), (2, .int u)] [.int 1] (SK, M, N) _
  refine g_if_eq (tgt := 20) (pc' := 18) dX11_top_15 (by decide) rfl (fun hc => absurd hc (by decide)) (fun _ => ?_)
  refine g_iconst (v := (-1)) (pc' := 19) dX11_top_18 (by decide) rfl ?_
  exact g_iret dX11_top_19 rfl rfl (CQ.same hI)
set_option maxRecDepth 100000 in
set_option maxHeartbeats 1000000 in
theorem c_top {M : Nat → Nat → Int32} {N : Nat → Nat → Int64} {n k : Nat} {P : Nat → Int32} {pa : List (Nat → Int32)} {kp : Option YS} {tp : List Int32} {sh : Nat → Option (Nat × Nat × (Nat → Int64))} (hA : AOk ((n, k, P, pa), kp, tp, sh)) (hI : CI M N ((n, k, P, pa), kp, tp, sh)) {m t : Nat} (hm : m < n) (ht1 : 1 ≤ t) (ht : t ≤ 60) : Run mX11_top 30 0 0 [.ref 0, .int (nI m), .int (nI t)] (SK, M, N) (CQ M N (nI (topS P n k m t).1) ((n, k, P, pa), kp, tp, sh)) := by
  refine Run.of (by decide) (Nat.le_of_ble_eq_true rfl) ?_
  have hok : OkP n k P := hA.1.1.1
  have hc0 : IsC M 14 n k P := hI.1.1
  have hn6 := hok.1
  have hk6 := hok.2.1
  refine g_aload_n (j := 0) (pc' := 1) dX11_top_0 rfl rfl ?_
  refine g_iload_n (j := 1) (pc' := 2) dX11_top_1 rfl rfl ?_
  refine g_callV (my := mX11_noMan) (k := 0) (st := []) (av := [.int (nI m)]) (mcr := 0) (msr := 0) (mc := 0) (ms := 0) (pc' := 5) dX11_top_2 kX11_noMan wX11_93 rfl ⟨rfl, rfl⟩ rfl (Nat.le_of_ble_eq_true rfl) (by decide) (s_noMan0 hc0.1 hn6 (hm)) rfl ?_
  rintro _ _ ⟨rfl, rfl⟩
  show Go mX11_top _ _ _ 5 [(0, .ref 0), (1, .int (nI m)), (2, .int (nI t))] [.int 0] (SK, M, N) _
  refine g_if_ne (tgt := 18) (pc' := 8) dX11_top_5 (by decide) rfl (fun hc => absurd rfl hc) (fun _ => ?_)
  refine g_iload_n (j := 2) (pc' := 9) dX11_top_8 rfl rfl ?_
  refine g_iconst (v := 1) (pc' := 10) dX11_top_9 (by decide) rfl ?_
  refine g_bipush (v := 60) (pc' := 12) dX11_top_10 (by decide) rfl ?_
  refine g_callS (my := mX11_outside) (st := []) (av := [.int (nI t), .int 1, .int 60]) (mcr := 0) (msr := 0) (mc := 0) (ms := 0) (pc' := 15) dX11_top_12 kX11_outside wX11_71 rfl (Nat.le_of_ble_eq_true rfl) (by decide) (s_out0 (rng2 (lo := 1) (hi := 60) ht1 ht (by omega))) rfl ?_
  rintro _ _ ⟨rfl, rfl⟩
  show Go mX11_top _ _ _ 15 [(0, .ref 0), (1, .int (nI m)), (2, .int (nI t))] [.int 0] (SK, M, N) _
  refine g_if_eq (tgt := 20) (pc' := 18) dX11_top_15 (by decide) rfl (fun _ => ?_) (fun hc => absurd rfl hc)
  refine g_aload_n (j := 0) (pc' := 21) dX11_top_20 rfl rfl ?_
  refine g_getR (pc' := 24) dX11_top_21 fX11_49 rfl rfl rfl ?_
  refine g_aload_n (j := 0) (pc' := 25) dX11_top_24 rfl rfl ?_
  refine g_getR (pc' := 28) dX11_top_25 fX11_28 rfl rfl rfl ?_
  refine g_callV (my := mX4_become) (k := 162) (st := []) (av := [.ref 14]) (mcr := 0) (msr := 0) (mc := 0) (ms := 0) (pc' := 31) dX11_top_28 kX4_become wX11_160 rfl ⟨rfl, rfl⟩ rfl (Nat.le_of_ble_eq_true rfl) (by decide) (s_become par162 par14 (by omega)) rfl ?_
  rintro _ _ ⟨M1, rfl, rfl, hcp⟩
  show Go mX11_top _ _ _ 31 [(0, .ref 0), (1, .int (nI m)), (2, .int (nI t))] [] (SK, M1, N) _
  have h0 : Told M M1 n k P := ⟨hc0.copied hok.1 hok.2.1 hcp, fun a _ _ _ ha => hcp.2.2 a (by omega)⟩
  refine g_iconst (v := 0) (pc' := 32) dX11_top_31 (by decide) rfl ?_
  refine g_istore_n (L' := [(0, .ref 0), (1, .int (nI m)), (2, .int (nI t)), (3, .int 0)]) (pc' := 33) dX11_top_32 (by decide) rfl rfl ?_
  refine g_ldc (v := (-1000000)) (pc' := 35) dX11_top_33 qX11_210 rfl ?_
  refine g_istore (L' := [(0, .ref 0), (1, .int (nI m)), (2, .int (nI t)), (3, .int 0), (4, .int (-1000000))]) (pc' := 37) dX11_top_35 (by decide) rfl rfl ?_
  refine g_iconst (v := 1) (pc' := 38) dX11_top_37 (by decide) rfl ?_
  refine g_istore (L' := [(0, .ref 0), (1, .int (nI m)), (2, .int (nI t)), (3, .int 0), (4, .int (-1000000)), (5, .int 1)]) (pc' := 40) dX11_top_38 (by decide) rfl rfl ?_
  have loop : ∀ (j i : Nat) (M2 : Nat → Nat → Int32), i + j = t → Told M M2 n k (foreP n k P i) → Go mX11_top 30 0 0 40 [(0, .ref 0), (1, .int (nI m)), (2, .int (nI t)), (3, .int (nI (topS P n k m i).1)), (4, .int (topS P n k m i).2), (5, .int (nI (i + 1)))] [] (SK, M2, N) (CQ M N (nI (topS P n k m t).1) ((n, k, P, pa), kp, tp, sh)) := by
    intro j
    induction j with
    | zero =>
      intro i M2 hi hT
      have hit : t = i := by omega
      subst hit
      refine g_iload (j := 5) (pc' := 42) dX11_top_40 rfl rfl ?_
      refine g_iload_n (j := 2) (pc' := 43) dX11_top_42 rfl rfl ?_
      refine g_icmp_gt (tgt := 98) (pc' := 46) dX11_top_43 (by decide) rfl (fun hc => ?_) (fun hc => ?_)
      · refine g_iload_n (j := 3) (pc' := 99) dX11_top_98 rfl rfl ?_
        exact g_iret dX11_top_99 rfl rfl (CQ.tmp hI (tmp_told hT))
      · exact absurd (nI_lt (by omega) (by omega)) hc
    | succ j ih =>
      intro i M2 hi hT
      refine g_iload (j := 5) (pc' := 42) dX11_top_40 rfl rfl ?_
      refine g_iload_n (j := 2) (pc' := 43) dX11_top_42 rfl rfl ?_
      refine g_icmp_gt (tgt := 98) (pc' := 46) dX11_top_43 (by decide) rfl (fun hc => ?_) (fun hc => ?_)
      · exact absurd hc (nI_nlt (by omega) (by omega))
      · refine g_aload_n (j := 0) (pc' := 47) dX11_top_46 rfl rfl ?_
        refine g_getR (pc' := 50) dX11_top_47 fX11_10 rfl rfl rfl ?_
        refine g_aload_n (j := 0) (pc' := 51) dX11_top_50 rfl rfl ?_
        refine g_getR (pc' := 54) dX11_top_51 fX11_49 rfl rfl rfl ?_
        refine g_aload_n (j := 0) (pc' := 55) dX11_top_54 rfl rfl ?_
        refine g_getR (pc' := 58) dX11_top_55 fX11_49 rfl rfl rfl ?_
        refine g_getI (pc' := 61) dX11_top_58 fX11_117 rfl rfl rfl ?_
        rw [hT.1.2.2.1, foreP_2 hok]
        refine g_callV (my := mX0_hold) (k := 1) (st := []) (av := [.ref 162, .int (P 2)]) (mcr := 0) (msr := 0) (mc := 0) (ms := 0) (pc' := 64) dX11_top_61 kX0_hold wX11_186 rfl ⟨rfl, rfl⟩ rfl (Nat.le_of_ble_eq_true rfl) (by decide) (s_hold isPar162 (foreP_ok hok i) hT.1 (P 2)) rfl ?_
        rintro _ _ ⟨M3, rfl, rfl, hH⟩
        show Go mX11_top _ _ _ 64 [(0, .ref 0), (1, .int (nI m)), (2, .int (nI t)), (3, .int (nI ((topS P n k m i).1))), (4, .int ((topS P n k m i).2)), (5, .int (nI (i + 1)))] [] (SK, M3, N) _
        have hT2 : Told M M3 n k (foreP n k P (i + 1)) := ⟨hH.1, fun a a8 a9 a10 ha => (hH.2 a a8 a9 a10 ha).trans (hT.2 a a8 a9 a10 ha)⟩
        have hcr := (hT2.1.2.2.2.2.2.1 m hm).2.2.2.1
        refine g_aload_n (j := 0) (pc' := 65) dX11_top_64 rfl rfl ?_
        refine g_getR (pc' := 68) dX11_top_65 fX11_49 rfl rfl rfl ?_
        refine g_getR (pc' := 71) dX11_top_68 fX11_107 rfl rfl rfl ?_
        refine g_iload_n (j := 1) (pc' := 72) dX11_top_71 rfl rfl ?_
        refine g_iald (n := m) (pc' := 73) dX11_top_72 rfl rfl (by omega) rfl ?_
        refine g_top (y := foreP n k P (i + 1) (22 + m)) (hcr) ?_
        refine g_iload (j := 4) (pc' := 75) dX11_top_73 rfl rfl ?_
        refine g_icmp_le (tgt := 92) (pc' := 78) dX11_top_75 (by decide) rfl (fun hc2 => ?_) (fun hc2 => ?_)
        · refine g_iinc (j := 5) (v := nI (i + 1 + 1)) (L' := [(0, .ref 0), (1, .int (nI m)), (2, .int (nI t)), (3, .int (nI ((topS P n k m i).1))), (4, .int ((topS P n k m i).2)), (5, .int (nI (i + 1 + 1)))]) (pc' := 95) dX11_top_92 rfl (nI_1 (i + 1)) (by decide) rfl rfl ?_
          refine g_goto (tgt := 40) dX11_top_95 (by decide) ?_
          have h9 := ih (i + 1) M3 (by omega) hT2
          simp only [topS] at h9
          rw [if_neg (Int32.not_lt.mpr hc2)] at h9
          exact h9
        · refine g_aload_n (j := 0) (pc' := 79) dX11_top_78 rfl rfl ?_
          refine g_getR (pc' := 82) dX11_top_79 fX11_49 rfl rfl rfl ?_
          refine g_getR (pc' := 85) dX11_top_82 fX11_107 rfl rfl rfl ?_
          refine g_iload_n (j := 1) (pc' := 86) dX11_top_85 rfl rfl ?_
          refine g_iald (n := m) (pc' := 87) dX11_top_86 rfl rfl (by omega) rfl ?_
          refine g_top (y := foreP n k P (i + 1) (22 + m)) (hcr) ?_
          refine g_istore (L' := [(0, .ref 0), (1, .int (nI m)), (2, .int (nI t)), (3, .int (nI ((topS P n k m i).1))), (4, .int (foreP n k P (i + 1) (22 + m))), (5, .int (nI (i + 1)))]) (pc' := 89) dX11_top_87 (by decide) rfl rfl ?_
          refine g_iload (j := 5) (pc' := 91) dX11_top_89 rfl rfl ?_
          refine g_istore_n (L' := [(0, .ref 0), (1, .int (nI m)), (2, .int (nI t)), (3, .int (nI (i + 1))), (4, .int (foreP n k P (i + 1) (22 + m))), (5, .int (nI (i + 1)))]) (pc' := 92) dX11_top_91 (by decide) rfl rfl ?_
          refine g_iinc (j := 5) (v := nI (i + 1 + 1)) (L' := [(0, .ref 0), (1, .int (nI m)), (2, .int (nI t)), (3, .int (nI (i + 1))), (4, .int (foreP n k P (i + 1) (22 + m))), (5, .int (nI (i + 1 + 1)))]) (pc' := 95) dX11_top_92 rfl (nI_1 (i + 1)) (by decide) rfl rfl ?_
          refine g_goto (tgt := 40) dX11_top_95 (by decide) ?_
          have h9 := ih (i + 1) M3 (by omega) hT2
          simp only [topS] at h9
          rw [if_pos (Int32.not_le.mp hc2)] at h9
          exact h9
  exact loop t 0 M1 (by omega) h0
/-- FIELD: among fewer than s stones: which, how valued -/
def fldS (P : Nat → Int32) (n k m : Nat) : Nat → Nat × Int32
  | 0 => (0, -1000000)
  | s + 1 => match (choP P n k (nI s)).2 m with
    | none => fldS P n k m s
    | some g => if (fldS P n k m s).2 < valP P m g then (s, valP P m g) else fldS P n k m s
theorem fldS_none {P : Nat → Int32} {n k m s : Nat} (h : (choP P n k (nI s)).2 m = none) : fldS P n k m (s + 1) = fldS P n k m s := by
  conv => lhs; unfold fldS
  rw [h]
theorem fldS_some {P : Nat → Int32} {n k m s g : Nat} (h : (choP P n k (nI s)).2 m = some g) : fldS P n k m (s + 1) = if (fldS P n k m s).2 < valP P m g then (s, valP P m g) else fldS P n k m s := by
  conv => lhs; unfold fldS
  rw [h]
theorem tmp_made {M M' : Nat → Nat → Int32} {n k : Nat} {P : Nat → Int32} {st : Int32} (h : Made M M' n k P st) : ∀ a, ¬ tmpC a → M' a = M a := fun a ha => h.2.2.2 a (by unfold tmpC at ha; omega) (by unfold tmpC at ha; omega) (by unfold tmpC at ha; omega)
set_option maxRecDepth 100000 in
set_option maxHeartbeats 1000000 in
theorem c_field_b {M : Nat → Nat → Int32} {N : Nat → Nat → Int64} {n k : Nat} {P : Nat → Int32} {pa : List (Nat → Int32)} {kp : Option YS} {tp : List Int32} {sh : Nat → Option (Nat × Nat × (Nat → Int64))} (hA : AOk ((n, k, P, pa), kp, tp, sh)) (hI : CI M N ((n, k, P, pa), kp, tp, sh)) {v : Int32} (h1 : ∀ m, m < n → v ≠ nI m) : Run mX11_field 30 0 0 [.ref 0, .int v] (SK, M, N) (CQ M N (-1) ((n, k, P, pa), kp, tp, sh)) := by
  refine Run.of (by decide) (Nat.le_of_ble_eq_true rfl) ?_
  have hok : OkP n k P := hA.1.1.1
  have hc0 : IsC M 14 n k P := hI.1.1
  have hn6 := hok.1
  have hk6 := hok.2.1
  refine g_aload_n (j := 0) (pc' := 1) dX11_field_0 rfl rfl ?_
  refine g_iload_n (j := 1) (pc' := 2) dX11_field_1 rfl rfl ?_
  refine g_callV (my := mX11_noMan) (k := 0) (st := []) (av := [.int v]) (mcr := 0) (msr := 0) (mc := 0) (ms := 0) (pc' := 5) dX11_field_2 kX11_noMan wX11_93 rfl ⟨rfl, rfl⟩ rfl (Nat.le_of_ble_eq_true rfl) (by decide) (s_noMan1 hc0.1 hn6 (h1)) rfl ?_
  rintro _ _ ⟨rfl, rfl⟩
  show Go mX11_field _ _ _ 5 [(0, .ref 0), (1, .int v)] [.int 1] (SK, M, N) _
  refine g_if_eq (tgt := 10) (pc' := 8) dX11_field_5 (by decide) rfl (fun hc => absurd hc (by decide)) (fun _ => ?_)
  refine g_iconst (v := (-1)) (pc' := 9) dX11_field_8 (by decide) rfl ?_
  exact g_iret dX11_field_9 rfl rfl (CQ.same hI)
set_option maxRecDepth 100000 in
set_option maxHeartbeats 1000000 in
theorem c_field {M : Nat → Nat → Int32} {N : Nat → Nat → Int64} {n k : Nat} {P : Nat → Int32} {pa : List (Nat → Int32)} {kp : Option YS} {tp : List Int32} {sh : Nat → Option (Nat × Nat × (Nat → Int64))} (hA : AOk ((n, k, P, pa), kp, tp, sh)) (hI : CI M N ((n, k, P, pa), kp, tp, sh)) {m : Nat} (hm : m < n) : Run mX11_field 30 0 0 [.ref 0, .int (nI m)] (SK, M, N) (CQ M N (nI (fldS P n k m 21).1) ((n, k, P, pa), kp, tp, sh)) := by
  refine Run.of (by decide) (Nat.le_of_ble_eq_true rfl) ?_
  have hok : OkP n k P := hA.1.1.1
  have hc0 : IsC M 14 n k P := hI.1.1
  have hn6 := hok.1
  have hk6 := hok.2.1
  refine g_aload_n (j := 0) (pc' := 1) dX11_field_0 rfl rfl ?_
  refine g_iload_n (j := 1) (pc' := 2) dX11_field_1 rfl rfl ?_
  refine g_callV (my := mX11_noMan) (k := 0) (st := []) (av := [.int (nI m)]) (mcr := 0) (msr := 0) (mc := 0) (ms := 0) (pc' := 5) dX11_field_2 kX11_noMan wX11_93 rfl ⟨rfl, rfl⟩ rfl (Nat.le_of_ble_eq_true rfl) (by decide) (s_noMan0 hc0.1 hn6 (hm)) rfl ?_
  rintro _ _ ⟨rfl, rfl⟩
  show Go mX11_field _ _ _ 5 [(0, .ref 0), (1, .int (nI m))] [.int 0] (SK, M, N) _
  refine g_if_eq (tgt := 10) (pc' := 8) dX11_field_5 (by decide) rfl (fun _ => ?_) (fun hc => absurd rfl hc)
  refine g_iconst (v := 0) (pc' := 11) dX11_field_10 (by decide) rfl ?_
  refine g_istore_n (L' := [(0, .ref 0), (1, .int (nI m)), (2, .int 0)]) (pc' := 12) dX11_field_11 (by decide) rfl rfl ?_
  refine g_ldc (v := (-1000000)) (pc' := 14) dX11_field_12 qX11_210 rfl ?_
  refine g_istore_n (L' := [(0, .ref 0), (1, .int (nI m)), (2, .int 0), (3, .int (-1000000))]) (pc' := 15) dX11_field_14 (by decide) rfl rfl ?_
  refine g_iconst (v := 0) (pc' := 16) dX11_field_15 (by decide) rfl ?_
  refine g_istore (L' := [(0, .ref 0), (1, .int (nI m)), (2, .int 0), (3, .int (-1000000)), (4, .int 0)]) (pc' := 18) dX11_field_16 (by decide) rfl rfl ?_
  obtain ⟨F, hF⟩ : ∃ F, F = fldS P n k m 21 := ⟨_, rfl⟩
  rw [← hF]
  have loop : ∀ (j i : Nat) (M2 : Nat → Nat → Int32), i + j = 21 → (∀ a, ¬ tmpC a → M2 a = M a) → Go mX11_field 30 0 0 18 [(0, .ref 0), (1, .int (nI m)), (2, .int (nI (fldS P n k m i).1)), (3, .int (fldS P n k m i).2), (4, .int (nI i))] [] (SK, M2, N) (CQ M N (nI F.1) ((n, k, P, pa), kp, tp, sh)) := by
    intro j
    induction j with
    | zero =>
      intro i M2 hi hf
      have hit : i = 21 := by omega
      subst hit
      rw [← hF]
      refine g_iload (j := 4) (pc' := 20) dX11_field_18 rfl rfl ?_
      refine g_bipush (v := 20) (pc' := 22) dX11_field_20 (by decide) rfl ?_
      refine g_icmp_gt (tgt := 98) (pc' := 25) dX11_field_22 (by decide) rfl (fun hc => ?_) (fun hc => (absurd (nI_lt (a := 20) (b := 21) (by omega) (by omega)) hc))
      refine g_iload_n (j := 2) (pc' := 99) dX11_field_98 rfl rfl ?_
      exact g_iret dX11_field_99 rfl rfl (CQ.tmp hI hf)
    | succ j ih =>
      intro i M2 hi hf
      refine g_iload (j := 4) (pc' := 20) dX11_field_18 rfl rfl ?_
      refine g_bipush (v := 20) (pc' := 22) dX11_field_20 (by decide) rfl ?_
      refine g_icmp_gt (tgt := 98) (pc' := 25) dX11_field_22 (by decide) rfl (fun hc => (absurd hc (nI_nlt (a := 20) (b := i) (by omega) (by omega)))) (fun hc => ?_)
      have hcM : IsC M2 14 n k P := hc0.keep (fun a a1 a2 => hf a (by unfold tmpC; omega))
      refine g_aload_n (j := 0) (pc' := 26) dX11_field_25 rfl rfl ?_
      refine g_getR (pc' := 29) dX11_field_26 fX11_10 rfl rfl rfl ?_
      refine g_aload_n (j := 0) (pc' := 30) dX11_field_29 rfl rfl ?_
      refine g_getR (pc' := 33) dX11_field_30 fX11_28 rfl rfl rfl ?_
      refine g_iload (j := 4) (pc' := 35) dX11_field_33 rfl rfl ?_
      refine g_callV (my := mX0_make) (k := 1) (st := []) (av := [.ref 14, .int (nI i)]) (mcr := 0) (msr := 0) (mc := 0) (ms := 0) (pc' := 38) dX11_field_35 kX0_make wX11_174 rfl ⟨rfl, rfl⟩ rfl (Nat.le_of_ble_eq_true rfl) (by decide) (s_make isPar14 hok hcM (nI i)) rfl ?_
      rintro _ _ ⟨M3, rfl, rfl, hMd⟩
      show Go mX11_field _ _ _ 38 [(0, .ref 0), (1, .int (nI m)), (2, .int (nI ((fldS P n k m i).1))), (3, .int ((fldS P n k m i).2)), (4, .int (nI i))] [.int ((choP P n k (nI i)).1)] (SK, M3, N) _
      have hf3 : ∀ a, ¬ tmpC a → M3 a = M a := fun a ha => (tmp_made hMd a ha).trans (hf a ha)
      have hcM3 : IsC M3 14 n k P := hc0.keep (fun a a1 a2 => hf3 a (by unfold tmpC; omega))
      refine g_pop (pc' := 39) dX11_field_38 rfl rfl ?_
      refine g_aload_n (j := 0) (pc' := 40) dX11_field_39 rfl rfl ?_
      refine g_getR (pc' := 43) dX11_field_40 fX11_10 rfl rfl rfl ?_
      refine g_getR (pc' := 46) dX11_field_43 fX11_177 rfl rfl rfl ?_
      refine g_iload_n (j := 1) (pc' := 47) dX11_field_46 rfl rfl ?_
      refine g_iald (n := m) (pc' := 48) dX11_field_47 rfl rfl (by omega) rfl ?_
      refine g_top (y := optI (-1) ((choP P n k (nI i)).2 m)) (hMd.2.2.1 m hm) ?_
      refine g_istore (L' := [(0, .ref 0), (1, .int (nI m)), (2, .int (nI ((fldS P n k m i).1))), (3, .int ((fldS P n k m i).2)), (4, .int (nI i)), (5, .int (optI (-1) ((choP P n k (nI i)).2 m)))]) (pc' := 50) dX11_field_48 (by decide) rfl rfl ?_
      have h9 := ih (i + 1) M3 (by omega) hf3
      cases hg : (choP P n k (nI i)).2 m with
      | none =>
        rw [fldS_none hg] at h9
        show Go mX11_field _ _ _ 50 [(0, .ref 0), (1, .int (nI m)), (2, .int (nI ((fldS P n k m i).1))), (3, .int ((fldS P n k m i).2)), (4, .int (nI i)), (5, .int (-1))] [] (SK, M3, N) _
        refine g_iload (j := 5) (pc' := 52) dX11_field_50 rfl rfl ?_
        refine g_iconst (v := (-1)) (pc' := 53) dX11_field_52 (by decide) rfl ?_
        refine g_icmp_eq (tgt := 92) (pc' := 56) dX11_field_53 (by decide) rfl (fun hc => ?_) (fun hc => (absurd rfl hc))
        refine g_iinc (j := 4) (v := nI (i + 1)) (L' := [(0, .ref 0), (1, .int (nI m)), (2, .int (nI ((fldS P n k m i).1))), (3, .int ((fldS P n k m i).2)), (4, .int (nI (i + 1))), (5, .int (-1))]) (pc' := 95) dX11_field_92 rfl (nI_1 i) (by decide) rfl rfl ?_
        refine g_goto (tgt := 18) dX11_field_95 (by decide) ?_
        refine g_less (L' := [(0, .ref 0), (1, .int (nI m)), (2, .int (nI ((fldS P n k m i).1))), (3, .int ((fldS P n k m i).2)), (4, .int (nI (i + 1)))]) [0, 1, 2, 3, 4] rfl ?_
        exact h9
      | some g =>
        rw [fldS_some hg] at h9
        have hgk := choP_lt hg
        show Go mX11_field _ _ _ 50 [(0, .ref 0), (1, .int (nI m)), (2, .int (nI ((fldS P n k m i).1))), (3, .int ((fldS P n k m i).2)), (4, .int (nI i)), (5, .int (nI g))] [] (SK, M3, N) _
        refine g_iload (j := 5) (pc' := 52) dX11_field_50 rfl rfl ?_
        refine g_iconst (v := (-1)) (pc' := 53) dX11_field_52 (by decide) rfl ?_
        refine g_icmp_eq (tgt := 92) (pc' := 56) dX11_field_53 (by decide) rfl (fun hc => (absurd hc (nI_ne_m1 (by omega)))) (fun hc => ?_)
        refine g_aload_n (j := 0) (pc' := 57) dX11_field_56 rfl rfl ?_
        refine g_getR (pc' := 60) dX11_field_57 fX11_10 rfl rfl rfl ?_
        refine g_aload_n (j := 0) (pc' := 61) dX11_field_60 rfl rfl ?_
        refine g_getR (pc' := 64) dX11_field_61 fX11_28 rfl rfl rfl ?_
        refine g_iload_n (j := 1) (pc' := 65) dX11_field_64 rfl rfl ?_
        refine g_iload (j := 5) (pc' := 67) dX11_field_65 rfl rfl ?_
        refine g_callV (my := mX0_esteem) (k := 1) (st := []) (av := [.ref 14, .int (nI m), .int (nI g)]) (mcr := 0) (msr := 0) (mc := 0) (ms := 0) (pc' := 70) dX11_field_67 kX0_esteem wX11_140 rfl ⟨rfl, rfl⟩ rfl (Nat.le_of_ble_eq_true rfl) (by decide) (s_valP isPar14 hok hcM3 hm hgk) rfl ?_
        rintro _ _ ⟨rfl, rfl⟩
        show Go mX11_field _ _ _ 70 [(0, .ref 0), (1, .int (nI m)), (2, .int (nI ((fldS P n k m i).1))), (3, .int ((fldS P n k m i).2)), (4, .int (nI i)), (5, .int (nI g))] [.int (valP P m g)] (SK, M3, N) _
        refine g_iload_n (j := 3) (pc' := 71) dX11_field_70 rfl rfl ?_
        refine g_icmp_le (tgt := 92) (pc' := 74) dX11_field_71 (by decide) rfl (fun hc2 => ?_) (fun hc2 => ?_)
        · rw [if_neg (Int32.not_lt.mpr hc2)] at h9
          refine g_iinc (j := 4) (v := nI (i + 1)) (L' := [(0, .ref 0), (1, .int (nI m)), (2, .int (nI ((fldS P n k m i).1))), (3, .int ((fldS P n k m i).2)), (4, .int (nI (i + 1))), (5, .int (nI g))]) (pc' := 95) dX11_field_92 rfl (nI_1 i) (by decide) rfl rfl ?_
          refine g_goto (tgt := 18) dX11_field_95 (by decide) ?_
          refine g_less (L' := [(0, .ref 0), (1, .int (nI m)), (2, .int (nI ((fldS P n k m i).1))), (3, .int ((fldS P n k m i).2)), (4, .int (nI (i + 1)))]) [0, 1, 2, 3, 4] rfl ?_
          exact h9
        · rw [if_pos (Int32.not_le.mp hc2)] at h9
          refine g_aload_n (j := 0) (pc' := 75) dX11_field_74 rfl rfl ?_
          refine g_getR (pc' := 78) dX11_field_75 fX11_10 rfl rfl rfl ?_
          refine g_aload_n (j := 0) (pc' := 79) dX11_field_78 rfl rfl ?_
          refine g_getR (pc' := 82) dX11_field_79 fX11_28 rfl rfl rfl ?_
          refine g_iload_n (j := 1) (pc' := 83) dX11_field_82 rfl rfl ?_
          refine g_iload (j := 5) (pc' := 85) dX11_field_83 rfl rfl ?_
          refine g_callV (my := mX0_esteem) (k := 1) (st := []) (av := [.ref 14, .int (nI m), .int (nI g)]) (mcr := 0) (msr := 0) (mc := 0) (ms := 0) (pc' := 88) dX11_field_85 kX0_esteem wX11_140 rfl ⟨rfl, rfl⟩ rfl (Nat.le_of_ble_eq_true rfl) (by decide) (s_valP isPar14 hok hcM3 hm hgk) rfl ?_
          rintro _ _ ⟨rfl, rfl⟩
          show Go mX11_field _ _ _ 88 [(0, .ref 0), (1, .int (nI m)), (2, .int (nI ((fldS P n k m i).1))), (3, .int ((fldS P n k m i).2)), (4, .int (nI i)), (5, .int (nI g))] [.int (valP P m g)] (SK, M3, N) _
          refine g_istore_n (L' := [(0, .ref 0), (1, .int (nI m)), (2, .int (nI ((fldS P n k m i).1))), (3, .int (valP P m g)), (4, .int (nI i)), (5, .int (nI g))]) (pc' := 89) dX11_field_88 (by decide) rfl rfl ?_
          refine g_iload (j := 4) (pc' := 91) dX11_field_89 rfl rfl ?_
          refine g_istore_n (L' := [(0, .ref 0), (1, .int (nI m)), (2, .int (nI i)), (3, .int (valP P m g)), (4, .int (nI i)), (5, .int (nI g))]) (pc' := 92) dX11_field_91 (by decide) rfl rfl ?_
          refine g_iinc (j := 4) (v := nI (i + 1)) (L' := [(0, .ref 0), (1, .int (nI m)), (2, .int (nI i)), (3, .int (valP P m g)), (4, .int (nI (i + 1))), (5, .int (nI g))]) (pc' := 95) dX11_field_92 rfl (nI_1 i) (by decide) rfl rfl ?_
          refine g_goto (tgt := 18) dX11_field_95 (by decide) ?_
          refine g_less (L' := [(0, .ref 0), (1, .int (nI m)), (2, .int (nI i)), (3, .int (valP P m g)), (4, .int (nI (i + 1)))]) [0, 1, 2, 3, 4] rfl ?_
          exact h9
  exact loop 21 0 M (by omega) (fun a _ => rfl)
/-- with hand h, is man m called by a name that he values no less than i? -/
def ndC (P : Nat → Int32) (n k m i h : Nat) : Bool := match (choP (upP P (10 + m) (nI h)) n k (P 2)).2 m with
  | none => false
  | some g => decide (valP P m i ≤ valP P m g)
def ndV (P : Nat → Int32) (n k m i z : Nat) : Int32 := match firstIx (ndC P n k m i) z (10 - z) with
  | none => -4
  | some h => nI (h - z)
theorem OkP.handU {n k : Nat} {P : Nat → Int32} (h : OkP n k P) {m q : Nat} (hm : m < n) (hq : q ≤ 9) : OkP n k (upP P (10 + m) (nI q)) := by
  obtain ⟨h1, h2, h3, h4, h5, h6, h7, h8⟩ := h
  refine ⟨h1, h2, by rw [upP_ne (by omega)]; exact h3, by rw [upP_ne (by omega)]; exact h4, fun j hj => ?_, fun j a1 a2 => ?_, fun i hi => ?_, fun i a1 a2 => ?_⟩
  · rw [upP_ne (show 4 + j ≠ 10 + m by omega), upP_ne (show 16 + j ≠ 10 + m by omega), upP_ne (show 28 + j ≠ 10 + m by omega)]
    refine ⟨(h5 j hj).1, ?_, (h5 j hj).2.2⟩
    by_cases e : j = m
    · subst e; exact ⟨q, hq, upP_at⟩
    · rw [upP_ne (by omega)]; exact (h5 j hj).2.1
  · rw [upP_ne (by omega), upP_ne (by omega)]; exact h6 j a1 a2
  · rw [upP_ne (by omega), upP_ne (by omega)]; exact h7 i hi
  · rw [upP_ne (by omega), upP_ne (by omega)]; exact h8 i a1 a2
theorem valP_hand {P : Nat → Int32} {m g : Nat} {x : Int32} (hm : m < 6) (hg : g < 6) : valP (upP P (10 + m) x) m g = valP P m g := by
  unfold valP
  rw [upP_ne (by omega), upP_ne (by omega), upP_ne (by omega)]
set_option maxRecDepth 100000 in
set_option maxHeartbeats 1000000 in
theorem c_needs_b1 {M : Nat → Nat → Int32} {N : Nat → Nat → Int64} {n k : Nat} {P : Nat → Int32} {pa : List (Nat → Int32)} {kp : Option YS} {tp : List Int32} {sh : Nat → Option (Nat × Nat × (Nat → Int64))} (hA : AOk ((n, k, P, pa), kp, tp, sh)) (hI : CI M N ((n, k, P, pa), kp, tp, sh)) {v : Int32} (u : Int32) (h1 : ∀ m, m < n → v ≠ nI m) : Run mX11_needs 30 0 0 [.ref 0, .int v, .int u] (SK, M, N) (CQ M N (-1) ((n, k, P, pa), kp, tp, sh)) := by
  refine Run.of (by decide) (Nat.le_of_ble_eq_true rfl) ?_
  have hok : OkP n k P := hA.1.1.1
  have hc0 : IsC M 14 n k P := hI.1.1
  have hn6 := hok.1
  have hk6 := hok.2.1
  refine g_aload_n (j := 0) (pc' := 1) dX11_needs_0 rfl rfl ?_
  refine g_iload_n (j := 1) (pc' := 2) dX11_needs_1 rfl rfl ?_
  refine g_callV (my := mX11_noMan) (k := 0) (st := []) (av := [.int v]) (mcr := 0) (msr := 0) (mc := 0) (ms := 0) (pc' := 5) dX11_needs_2 kX11_noMan wX11_93 rfl ⟨rfl, rfl⟩ rfl (Nat.le_of_ble_eq_true rfl) (by decide) (s_noMan1 hc0.1 hn6 (h1)) rfl ?_
  rintro _ _ ⟨rfl, rfl⟩
  show Go mX11_needs _ _ _ 5 [(0, .ref 0), (1, .int v), (2, .int u)] [.int 1] (SK, M, N) _
  refine g_if_ne (tgt := 16) (pc' := 8) dX11_needs_5 (by decide) rfl (fun _ => ?_) (fun hc => absurd hc (by decide))
  refine g_iconst (v := (-1)) (pc' := 17) dX11_needs_16 (by decide) rfl ?_
  exact g_iret dX11_needs_17 rfl rfl (CQ.same hI)
set_option maxRecDepth 100000 in
set_option maxHeartbeats 1000000 in
theorem c_needs_b2 {M : Nat → Nat → Int32} {N : Nat → Nat → Int64} {n k : Nat} {P : Nat → Int32} {pa : List (Nat → Int32)} {kp : Option YS} {tp : List Int32} {sh : Nat → Option (Nat × Nat × (Nat → Int64))} (hA : AOk ((n, k, P, pa), kp, tp, sh)) (hI : CI M N ((n, k, P, pa), kp, tp, sh)) {m : Nat} {u : Int32} (hm : m < n) (h1 : ∀ i, i < k → u ≠ nI i) : Run mX11_needs 30 0 0 [.ref 0, .int (nI m), .int u] (SK, M, N) (CQ M N (-1) ((n, k, P, pa), kp, tp, sh)) := by
  refine Run.of (by decide) (Nat.le_of_ble_eq_true rfl) ?_
  have hok : OkP n k P := hA.1.1.1
  have hc0 : IsC M 14 n k P := hI.1.1
  have hn6 := hok.1
  have hk6 := hok.2.1
  refine g_aload_n (j := 0) (pc' := 1) dX11_needs_0 rfl rfl ?_
  refine g_iload_n (j := 1) (pc' := 2) dX11_needs_1 rfl rfl ?_
  refine g_callV (my := mX11_noMan) (k := 0) (st := []) (av := [.int (nI m)]) (mcr := 0) (msr := 0) (mc := 0) (ms := 0) (pc' := 5) dX11_needs_2 kX11_noMan wX11_93 rfl ⟨rfl, rfl⟩ rfl (Nat.le_of_ble_eq_true rfl) (by decide) (s_noMan0 hc0.1 hn6 (hm)) rfl ?_
  rintro _ _ ⟨rfl, rfl⟩
  show Go mX11_needs _ _ _ 5 [(0, .ref 0), (1, .int (nI m)), (2, .int u)] [.int 0] (SK, M, N) _
  refine g_if_ne (tgt := 16) (pc' := 8) dX11_needs_5 (by decide) rfl (fun hc => absurd rfl hc) (fun _ => ?_)
  refine g_aload_n (j := 0) (pc' := 9) dX11_needs_8 rfl rfl ?_
  refine g_iload_n (j := 2) (pc' := 10) dX11_needs_9 rfl rfl ?_
  refine g_callV (my := mX11_noName) (k := 0) (st := []) (av := [.int u]) (mcr := 0) (msr := 0) (mc := 0) (ms := 0) (pc' := 13) dX11_needs_10 kX11_noName wX11_128 rfl ⟨rfl, rfl⟩ rfl (Nat.le_of_ble_eq_true rfl) (by decide) (s_noName1 hc0.2.1 hk6 (h1)) rfl ?_
  rintro _ _ ⟨rfl, rfl⟩
  show Go mX11_needs _ _ _ 13 [(0, .ref 0), (1, .int (nI m)), (2, .int u)] [.int 1] (SK, M, N) _
  refine g_if_eq (tgt := 18) (pc' := 16) dX11_needs_13 (by decide) rfl (fun hc => absurd hc (by decide)) (fun _ => ?_)
  refine g_iconst (v := (-1)) (pc' := 17) dX11_needs_16 (by decide) rfl ?_
  exact g_iret dX11_needs_17 rfl rfl (CQ.same hI)
set_option maxRecDepth 100000 in
set_option maxHeartbeats 1000000 in
theorem c_needs {M : Nat → Nat → Int32} {N : Nat → Nat → Int64} {n k : Nat} {P : Nat → Int32} {pa : List (Nat → Int32)} {kp : Option YS} {tp : List Int32} {sh : Nat → Option (Nat × Nat × (Nat → Int64))} (hA : AOk ((n, k, P, pa), kp, tp, sh)) (hI : CI M N ((n, k, P, pa), kp, tp, sh)) {m i z : Nat} (hm : m < n) (hi : i < k) (hz : P (10 + m) = nI z) (hz9 : z ≤ 9) : Run mX11_needs 30 0 0 [.ref 0, .int (nI m), .int (nI i)] (SK, M, N) (CQ M N (ndV P n k m i z) ((n, k, P, pa), kp, tp, sh)) := by
  refine Run.of (by decide) (Nat.le_of_ble_eq_true rfl) ?_
  have hok : OkP n k P := hA.1.1.1
  have hc0 : IsC M 14 n k P := hI.1.1
  have hn6 := hok.1
  have hk6 := hok.2.1
  refine g_aload_n (j := 0) (pc' := 1) dX11_needs_0 rfl rfl ?_
  refine g_iload_n (j := 1) (pc' := 2) dX11_needs_1 rfl rfl ?_
  refine g_callV (my := mX11_noMan) (k := 0) (st := []) (av := [.int (nI m)]) (mcr := 0) (msr := 0) (mc := 0) (ms := 0) (pc' := 5) dX11_needs_2 kX11_noMan wX11_93 rfl ⟨rfl, rfl⟩ rfl (Nat.le_of_ble_eq_true rfl) (by decide) (s_noMan0 hc0.1 hn6 (hm)) rfl ?_
  rintro _ _ ⟨rfl, rfl⟩
  show Go mX11_needs _ _ _ 5 [(0, .ref 0), (1, .int (nI m)), (2, .int (nI i))] [.int 0] (SK, M, N) _
  refine g_if_ne (tgt := 16) (pc' := 8) dX11_needs_5 (by decide) rfl (fun hc => absurd rfl hc) (fun _ => ?_)
  refine g_aload_n (j := 0) (pc' := 9) dX11_needs_8 rfl rfl ?_
  refine g_iload_n (j := 2) (pc' := 10) dX11_needs_9 rfl rfl ?_
  refine g_callV (my := mX11_noName) (k := 0) (st := []) (av := [.int (nI i)]) (mcr := 0) (msr := 0) (mc := 0) (ms := 0) (pc' := 13) dX11_needs_10 kX11_noName wX11_128 rfl ⟨rfl, rfl⟩ rfl (Nat.le_of_ble_eq_true rfl) (by decide) (s_noName0 hc0.2.1 hk6 (hi)) rfl ?_
  rintro _ _ ⟨rfl, rfl⟩
  show Go mX11_needs _ _ _ 13 [(0, .ref 0), (1, .int (nI m)), (2, .int (nI i))] [.int 0] (SK, M, N) _
  refine g_if_eq (tgt := 18) (pc' := 16) dX11_needs_13 (by decide) rfl (fun _ => ?_) (fun hc => absurd rfl hc)
  refine g_aload_n (j := 0) (pc' := 19) dX11_needs_18 rfl rfl ?_
  refine g_getR (pc' := 22) dX11_needs_19 fX11_10 rfl rfl rfl ?_
  refine g_aload_n (j := 0) (pc' := 23) dX11_needs_22 rfl rfl ?_
  refine g_getR (pc' := 26) dX11_needs_23 fX11_28 rfl rfl rfl ?_
  refine g_iload_n (j := 1) (pc' := 27) dX11_needs_26 rfl rfl ?_
  refine g_iload_n (j := 2) (pc' := 28) dX11_needs_27 rfl rfl ?_
  refine g_callV (my := mX0_esteem) (k := 1) (st := []) (av := [.ref 14, .int (nI m), .int (nI i)]) (mcr := 0) (msr := 0) (mc := 0) (ms := 0) (pc' := 31) dX11_needs_28 kX0_esteem wX11_140 rfl ⟨rfl, rfl⟩ rfl (Nat.le_of_ble_eq_true rfl) (by decide) (s_valP isPar14 hok hc0 hm hi) rfl ?_
  rintro _ _ ⟨rfl, rfl⟩
  show Go mX11_needs _ _ _ 31 [(0, .ref 0), (1, .int (nI m)), (2, .int (nI i))] [.int (valP P m i)] (SK, M, N) _
  refine g_istore_n (L' := [(0, .ref 0), (1, .int (nI m)), (2, .int (nI i)), (3, .int (valP P m i))]) (pc' := 32) dX11_needs_31 (by decide) rfl rfl ?_
  refine g_aload_n (j := 0) (pc' := 33) dX11_needs_32 rfl rfl ?_
  refine g_getR (pc' := 36) dX11_needs_33 fX11_49 rfl rfl rfl ?_
  refine g_aload_n (j := 0) (pc' := 37) dX11_needs_36 rfl rfl ?_
  refine g_getR (pc' := 40) dX11_needs_37 fX11_28 rfl rfl rfl ?_
  refine g_callV (my := mX4_become) (k := 162) (st := []) (av := [.ref 14]) (mcr := 0) (msr := 0) (mc := 0) (ms := 0) (pc' := 43) dX11_needs_40 kX4_become wX11_160 rfl ⟨rfl, rfl⟩ rfl (Nat.le_of_ble_eq_true rfl) (by decide) (s_become par162 par14 (by omega)) rfl ?_
  rintro _ _ ⟨M1, rfl, rfl, hcp⟩
  show Go mX11_needs _ _ _ 43 [(0, .ref 0), (1, .int (nI m)), (2, .int (nI i)), (3, .int (valP P m i))] [] (SK, M1, N) _
  have hI1 := hc0.copied hok.1 hok.2.1 hcp
  have hf1 : ∀ a, ¬ tmpC a → M1 a = M a := fun a ha => hcp.2.2 a (by unfold tmpC at ha; omega)
  refine g_aload_n (j := 0) (pc' := 44) dX11_needs_43 rfl rfl ?_
  refine g_getR (pc' := 47) dX11_needs_44 fX11_28 rfl rfl rfl ?_
  refine g_getR (pc' := 50) dX11_needs_47 fX11_101 rfl rfl rfl ?_
  refine g_iload_n (j := 1) (pc' := 51) dX11_needs_50 rfl rfl ?_
  refine g_iald (n := m) (pc' := 52) dX11_needs_51 rfl rfl (by omega) rfl ?_
  refine g_top (y := nI z) (by rw [hf1 16 (by unfold tmpC; omega)]; exact (hc0.2.2.2.2.2.1 m hm).2.1.trans hz) ?_
  refine g_istore (L' := [(0, .ref 0), (1, .int (nI m)), (2, .int (nI i)), (3, .int (valP P m i)), (4, .int (nI z))]) (pc' := 54) dX11_needs_52 (by decide) rfl rfl ?_
  have loop : ∀ (j h : Nat) (M2 : Nat → Nat → Int32), h + j = 10 → z ≤ h → (∀ a, ¬ tmpC a → M2 a = M a) → (∃ hx, hx ≤ 9 ∧ IsC M2 162 n k (upP P (10 + m) (nI hx))) → Go mX11_needs 30 0 0 54 [(0, .ref 0), (1, .int (nI m)), (2, .int (nI i)), (3, .int (valP P m i)), (4, .int (nI h))] [] (SK, M2, N) (CQ M N (match firstIx (ndC P n k m i) h j with | none => -4 | some h => nI (h - z)) ((n, k, P, pa), kp, tp, sh)) := by
    intro j
    induction j with
    | zero =>
      intro h M2 hh hz0 hf hx
      have h10 : h = 10 := by omega
      subst h10
      refine g_iload (j := 4) (pc' := 56) dX11_needs_54 rfl rfl ?_
      refine g_bipush (v := 9) (pc' := 58) dX11_needs_56 (by decide) rfl ?_
      refine g_icmp_gt (tgt := 145) (pc' := 61) dX11_needs_58 (by decide) rfl (fun hc => ?_) (fun hc => (absurd (nI_lt (a := 9) (b := 10) (by omega) (by omega)) hc))
      refine g_bipush (v := (-4)) (pc' := 147) dX11_needs_145 (by decide) rfl ?_
      exact g_iret dX11_needs_147 rfl rfl (CQ.tmp hI hf)
    | succ j ih =>
      intro h M2 hh hz0 hf hx
      obtain ⟨hq, hq9, hIq⟩ := hx
      refine g_iload (j := 4) (pc' := 56) dX11_needs_54 rfl rfl ?_
      refine g_bipush (v := 9) (pc' := 58) dX11_needs_56 (by decide) rfl ?_
      refine g_icmp_gt (tgt := 145) (pc' := 61) dX11_needs_58 (by decide) rfl (fun hc => (absurd hc (nI_nlt (a := 9) (b := h) (by omega) (by omega)))) (fun hc => ?_)
      refine g_aload_n (j := 0) (pc' := 62) dX11_needs_61 rfl rfl ?_
      refine g_getR (pc' := 65) dX11_needs_62 fX11_49 rfl rfl rfl ?_
      refine g_getR (pc' := 68) dX11_needs_65 fX11_101 rfl rfl rfl ?_
      refine g_iload_n (j := 1) (pc' := 69) dX11_needs_68 rfl rfl ?_
      refine g_iload (j := 4) (pc' := 71) dX11_needs_69 rfl rfl ?_
      refine g_iast (n := m) (pc' := 72) dX11_needs_71 rfl rfl (by omega) rfl ?_
      generalize hM3 : (um M2 164 m (nI h)) = M3
      have hI3 : IsC M3 162 n k (upP P (10 + m) (nI h)) := by
        obtain ⟨e0, e1, e2, e3, e4, e5, e6⟩ := hIq
        have f3 : ∀ a, a ≠ 164 → M3 a = M2 a := fun a ha => by rw [← hM3, um_ne ha]
        refine ⟨by rw [f3 162 (by omega)]; exact e0, by rw [f3 162 (by omega)]; exact e1, ?_, ?_, ?_, fun q hqn => ?_, fun q hqk => ?_⟩
        · rw [f3 162 (by omega), e2]; simp (disch := omega) only [upP_ne]
        · rw [f3 162 (by omega), e3]; simp (disch := omega) only [upP_ne]
        · rw [f3 162 (by omega), e4]; simp (disch := omega) only [upP_ne]
        · have h9 := e5 q hqn
          rw [f3 (162 + 1) (by omega), f3 (162 + 3) (by omega), f3 (162 + 4) (by omega), f3 (162 + 5) (by omega)]
          by_cases e : q = m
          · subst e
            simp (disch := omega) only [upP_ne, upP_at] at h9 ⊢
            exact ⟨h9.1, by rw [← hM3]; exact um_at, h9.2.2⟩
          · simp (disch := omega) only [upP_ne] at h9 ⊢
            exact ⟨h9.1, by rw [← hM3]; exact (um_at2 e).trans h9.2.1, h9.2.2⟩
        · have h9 := e6 q hqk
          rw [f3 (162 + 6) (by omega), f3 (162 + 7) (by omega)]
          simp (disch := omega) only [upP_ne] at h9 ⊢
          exact h9
      have hf3 : ∀ a, ¬ tmpC a → M3 a = M a := fun a ha => by rw [← hM3, um_ne (by unfold tmpC at ha; omega)]; exact hf a ha
      have hok3 := hok.handU hm (q := h) (by omega)
      refine g_aload_n (j := 0) (pc' := 73) dX11_needs_72 rfl rfl ?_
      refine g_getR (pc' := 76) dX11_needs_73 fX11_10 rfl rfl rfl ?_
      refine g_aload_n (j := 0) (pc' := 77) dX11_needs_76 rfl rfl ?_
      refine g_getR (pc' := 80) dX11_needs_77 fX11_49 rfl rfl rfl ?_
      refine g_aload_n (j := 0) (pc' := 81) dX11_needs_80 rfl rfl ?_
      refine g_getR (pc' := 84) dX11_needs_81 fX11_49 rfl rfl rfl ?_
      refine g_getI (pc' := 87) dX11_needs_84 fX11_117 rfl rfl rfl ?_
      refine g_top (y := P 2) (hI3.2.2.1.trans (upP_ne (by omega))) ?_
      refine g_callV (my := mX0_make) (k := 1) (st := []) (av := [.ref 162, .int (P 2)]) (mcr := 0) (msr := 0) (mc := 0) (ms := 0) (pc' := 90) dX11_needs_87 kX0_make wX11_174 rfl ⟨rfl, rfl⟩ rfl (Nat.le_of_ble_eq_true rfl) (by decide) (s_make isPar162 hok3 hI3 (P 2)) rfl ?_
      rintro _ _ ⟨M4, rfl, rfl, hMd⟩
      show Go mX11_needs _ _ _ 90 [(0, .ref 0), (1, .int (nI m)), (2, .int (nI i)), (3, .int (valP P m i)), (4, .int (nI h))] [.int ((choP (upP P (10 + m) (nI h)) n k (P 2)).1)] (SK, M4, N) _
      have hf4 : ∀ a, ¬ tmpC a → M4 a = M a := fun a ha => (tmp_made hMd a ha).trans (hf3 a ha)
      have hI4 : IsC M4 162 n k (upP P (10 + m) (nI h)) := hI3.keep (fun a a1 a2 => hMd.2.2.2 a (by omega) (by omega) (by omega))
      refine g_pop (pc' := 91) dX11_needs_90 rfl rfl ?_
      refine g_aload_n (j := 0) (pc' := 92) dX11_needs_91 rfl rfl ?_
      refine g_getR (pc' := 95) dX11_needs_92 fX11_10 rfl rfl rfl ?_
      refine g_getR (pc' := 98) dX11_needs_95 fX11_177 rfl rfl rfl ?_
      refine g_iload_n (j := 1) (pc' := 99) dX11_needs_98 rfl rfl ?_
      refine g_iald (n := m) (pc' := 100) dX11_needs_99 rfl rfl (by omega) rfl ?_
      refine g_top (y := optI (-1) ((choP (upP P (10 + m) (nI h)) n k (P 2)).2 m)) (hMd.2.2.1 m hm) ?_
      refine g_istore (L' := [(0, .ref 0), (1, .int (nI m)), (2, .int (nI i)), (3, .int (valP P m i)), (4, .int (nI h)), (5, .int (optI (-1) ((choP (upP P (10 + m) (nI h)) n k (P 2)).2 m)))]) (pc' := 102) dX11_needs_100 (by decide) rfl rfl ?_
      have h9 := ih (h + 1) M4 (by omega) (by omega) hf4 ⟨h, by omega, hI4⟩
      cases hg : (choP (upP P (10 + m) (nI h)) n k (P 2)).2 m with
      | none =>
        have hnd : ndC P n k m i h = false := by unfold ndC; rw [hg]
        show Go mX11_needs _ _ _ 102 [(0, .ref 0), (1, .int (nI m)), (2, .int (nI i)), (3, .int (valP P m i)), (4, .int (nI h)), (5, .int (-1))] [] (SK, M4, N) _
        refine g_iload (j := 5) (pc' := 104) dX11_needs_102 rfl rfl ?_
        refine g_iconst (v := (-1)) (pc' := 105) dX11_needs_104 (by decide) rfl ?_
        refine g_icmp_eq (tgt := 139) (pc' := 108) dX11_needs_105 (by decide) rfl (fun hc => ?_) (fun hc => (absurd rfl hc))
        refine g_iinc (j := 4) (v := nI (h + 1)) (L' := [(0, .ref 0), (1, .int (nI m)), (2, .int (nI i)), (3, .int (valP P m i)), (4, .int (nI (h + 1))), (5, .int (-1))]) (pc' := 142) dX11_needs_139 rfl (nI_1 h) (by decide) rfl rfl ?_
        refine g_goto (tgt := 54) dX11_needs_142 (by decide) ?_
        refine g_less (L' := [(0, .ref 0), (1, .int (nI m)), (2, .int (nI i)), (3, .int (valP P m i)), (4, .int (nI (h + 1)))]) [0, 1, 2, 3, 4] rfl ?_
        simp only [firstIx, hnd]
        exact h9
      | some g =>
        have hgk := choP_lt hg
        show Go mX11_needs _ _ _ 102 [(0, .ref 0), (1, .int (nI m)), (2, .int (nI i)), (3, .int (valP P m i)), (4, .int (nI h)), (5, .int (nI g))] [] (SK, M4, N) _
        refine g_iload (j := 5) (pc' := 104) dX11_needs_102 rfl rfl ?_
        refine g_iconst (v := (-1)) (pc' := 105) dX11_needs_104 (by decide) rfl ?_
        refine g_icmp_eq (tgt := 139) (pc' := 108) dX11_needs_105 (by decide) rfl (fun hc => (absurd hc (nI_ne_m1 (by omega)))) (fun hc => ?_)
        refine g_aload_n (j := 0) (pc' := 109) dX11_needs_108 rfl rfl ?_
        refine g_getR (pc' := 112) dX11_needs_109 fX11_10 rfl rfl rfl ?_
        refine g_aload_n (j := 0) (pc' := 113) dX11_needs_112 rfl rfl ?_
        refine g_getR (pc' := 116) dX11_needs_113 fX11_49 rfl rfl rfl ?_
        refine g_iload_n (j := 1) (pc' := 117) dX11_needs_116 rfl rfl ?_
        refine g_iload (j := 5) (pc' := 119) dX11_needs_117 rfl rfl ?_
        refine g_callV (my := mX0_esteem) (k := 1) (st := []) (av := [.ref 162, .int (nI m), .int (nI g)]) (mcr := 0) (msr := 0) (mc := 0) (ms := 0) (pc' := 122) dX11_needs_119 kX0_esteem wX11_140 rfl ⟨rfl, rfl⟩ rfl (Nat.le_of_ble_eq_true rfl) (by decide) (s_valP isPar162 hok3 hI4 hm hgk) rfl ?_
        rintro _ _ ⟨rfl, rfl⟩
        show Go mX11_needs _ _ _ 122 [(0, .ref 0), (1, .int (nI m)), (2, .int (nI i)), (3, .int (valP P m i)), (4, .int (nI h)), (5, .int (nI g))] [.int (valP (upP P (10 + m) (nI h)) m g)] (SK, M4, N) _
        refine g_top (y := valP P m g) (valP_hand (by omega) (by omega)) ?_
        refine g_iload_n (j := 3) (pc' := 123) dX11_needs_122 rfl rfl ?_
        refine g_icmp_lt (tgt := 139) (pc' := 126) dX11_needs_123 (by decide) rfl (fun hc2 => ?_) (fun hc2 => ?_)
        · have hnd : ndC P n k m i h = false := by unfold ndC; rw [hg]; exact decide_eq_false (Int32.not_le.mpr hc2)
          refine g_iinc (j := 4) (v := nI (h + 1)) (L' := [(0, .ref 0), (1, .int (nI m)), (2, .int (nI i)), (3, .int (valP P m i)), (4, .int (nI (h + 1))), (5, .int (nI g))]) (pc' := 142) dX11_needs_139 rfl (nI_1 h) (by decide) rfl rfl ?_
          refine g_goto (tgt := 54) dX11_needs_142 (by decide) ?_
          refine g_less (L' := [(0, .ref 0), (1, .int (nI m)), (2, .int (nI i)), (3, .int (valP P m i)), (4, .int (nI (h + 1)))]) [0, 1, 2, 3, 4] rfl ?_
          simp only [firstIx, hnd]
          exact h9
        · have hnd : ndC P n k m i h = true := by unfold ndC; rw [hg]; exact decide_eq_true (Int32.not_lt.mp hc2)
          refine g_iload (j := 4) (pc' := 128) dX11_needs_126 rfl rfl ?_
          refine g_aload_n (j := 0) (pc' := 129) dX11_needs_128 rfl rfl ?_
          refine g_getR (pc' := 132) dX11_needs_129 fX11_28 rfl rfl rfl ?_
          refine g_getR (pc' := 135) dX11_needs_132 fX11_101 rfl rfl rfl ?_
          refine g_iload_n (j := 1) (pc' := 136) dX11_needs_135 rfl rfl ?_
          refine g_iald (n := m) (pc' := 137) dX11_needs_136 rfl rfl (by omega) rfl ?_
          refine g_top (y := nI z) (by rw [hf4 16 (by unfold tmpC; omega)]; exact (hc0.2.2.2.2.2.1 m hm).2.1.trans hz) ?_
          refine g_isub (pc' := 138) dX11_needs_137 rfl ?_
          refine g_top (y := nI (h - z)) (pk_sub hz0) ?_
          simp only [firstIx, hnd, if_true]
          exact g_iret dX11_needs_138 rfl rfl (CQ.tmp hI hf4)
  have h162 : IsC M1 162 n k (upP P (10 + m) (nI z)) := by
    have e : upP P (10 + m) (nI z) = P := by
      funext q
      by_cases eq : q = 10 + m
      · subst eq; rw [upP_at]; exact hz.symm
      · rw [upP_ne eq]
    rw [e]; exact hI1
  exact loop (10 - z) z M1 (by omega) (Nat.le_refl _) hf1 ⟨z, hz9, h162⟩
