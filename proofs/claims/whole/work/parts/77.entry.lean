def A0s : AS := ((0, 0, emP 1 6, []), none, [], fun _ => none)
theorem A0s_ok : AOk A0s := ⟨⟨⟨OkP.nobody 1 6, ⟨0, by omega, rfl⟩, ⟨6, by omega, rfl⟩, by decide⟩, Nat.zero_le _, fun Q hQ => (by cases hQ)⟩, fun y hy => (by cases hy), ⟨Nat.zero_le _, fun x hx => (by cases hx)⟩, fun i _ la ln f e => (by cases e)⟩
set_option maxRecDepth 100000 in
set_option maxHeartbeats 2000000 in
theorem law_go {nm : String} {L : Nat} {M : Nat → Nat → Int32} {N : Nat → Nat → Int64} (hL : L ≤ 384) (hM : M 1000001 0 = nI L) : Go (mmL nm) 31 202 3854 0 [(0, .ref 1000000)] [] ([], M, N) (fun r _ => r = some (.int 1)) := by
  refine y_new (mm := mmL nm) (sk := []) (p := 0) (ci := 11) (vs := [.null, .null, .null, .null, .null, .null, .int 0, .null, .null, .null, .null]) (mcr := 201) (msr := 3843) (pc' := 3) rfl dL_law_0 nL_7 (by omega) rfl ?_
  refine g_dup (pc' := 4) dL_law_3 rfl rfl ?_
  refine g_callI (my := mX11_init) (k := 0) (st := [.ref 0]) (av := []) (mcr := 13) (msr := 2074) (mc := 188) (ms := 1769) (pc' := 7) dL_law_4 kX11_init wL_9 rfl (Nat.le_of_ble_eq_true rfl) (by decide) i_X11 rfl ?_
  rintro _ _ ⟨M1, N1, rfl, rfl, F6, G, P1, P2, TT, S, FF⟩
  show Go (mmL nm) _ 13 2074 7 [(0, .ref 1000000)] [.ref 0] (SKF, M1, N1) _
  refine g_astore_n (L' := [(0, .ref 1000000), (1, .ref 0)]) (pc' := 8) dL_law_7 (Nat.le_of_ble_eq_true rfl) rfl rfl ?_
  refine y_new (mm := mmL nm) (sk := SKF) (p := 189) (ci := 12) (vs := [.null, .null, .null, .null, .int 0, .null, .int 0, .null, .null, .null, .null, .null, .null, .int 0, .int 0, .null]) (mcr := 12) (msr := 2058) (pc' := 11) SKF_len dL_law_8 nL_10 (by omega) rfl ?_
  refine g_dup (pc' := 12) dL_law_11 rfl rfl ?_
  refine g_callI (my := mX12_init) (k := 189) (st := [.ref 189]) (av := []) (mcr := 0) (msr := 0) (mc := 12) (ms := 2058) (pc' := 15) dL_law_12 kX12_init wL_12 rfl (Nat.le_of_ble_eq_true rfl) (by decide) (i_X12 (sk0 := SKF) (p := 189) SKF_len (by omega) zI_at zI_at) rfl ?_
  rintro _ _ ⟨M2, N2, rfl, rfl, k4, k6, hb, hs, hf⟩
  rw [SK_whole]
  show Go (mmL nm) _ 0 0 15 [(0, .ref 1000000), (1, .ref 0)] [.ref 189] (SK, M2, N2) _
  refine g_astore_n (L' := [(0, .ref 1000000), (1, .ref 0), (2, .ref 189)]) (pc' := 16) dL_law_15 (Nat.le_of_ble_eq_true rfl) rfl rfl ?_
  refine g_iconst (v := 0) (pc' := 17) dL_law_16 (by decide) rfl ?_
  refine g_istore_n (L' := [(0, .ref 1000000), (1, .ref 0), (2, .ref 189), (3, .int (nI 0))]) (pc' := 18) dL_law_17 (Nat.le_of_ble_eq_true rfl) rfl rfl ?_
  have e : ∀ a, a < 189 → M2 a = M1 a := fun a ha => (hf a (by omega)).trans (zI_ne (by omega))
  have e2 : ∀ a, 1000 ≤ a → M2 a = M a := fun a ha => ((hf a (by omega)).trans (zI_ne (by omega))).trans ((FF a ha).trans (zI_ne (by omega)))
  refine law_loop hL 64 0 A0s M2 N2 (by omega) (by omega) (by rw [e2 1000001 (by omega)]; exact hM) A0s_ok ⟨⟨⟨?_, ?_, ?_, ?_, ?_, fun m hm => absurd hm (Nat.not_lt_zero _), fun i hi => absurd hi (Nat.not_lt_zero _)⟩, 0, by omega, ?_, ?_, fun i Q hi => by cases hi⟩, ?_, ⟨?_, fun j x hj => by cases hj⟩, fun i hi => ?_⟩ ⟨⟨fun j hj => hb j (by omega), hb 47 (by omega), fun i Q hi => by cases hi⟩, k4, ⟨k6, fun j x hj => by cases hj⟩, fun i hi => ?_⟩
  · rw [e 14 (by omega)]; exact G.1
  · rw [e 14 (by omega)]; exact G.2.1
  · rw [e 14 (by omega)]; exact G.2.2.1
  · rw [e 14 (by omega)]; exact G.2.2.2.1
  · rw [e 14 (by omega)]; exact G.2.2.2.2
  · rw [e 22 (by omega)]; exact P1
  · rw [e 22 (by omega)]; exact P2
  · show M2 0 6 = 0
    rw [e 0 (by omega)]; exact F6
  · rw [e 170 (by omega)]; exact TT
  · show M2 (181 + 2 * i) 0 = 1
    rw [e _ (by omega)]
    rcases (show i = 0 ∨ i = 1 ∨ i = 2 ∨ i = 3 by omega) with rfl | rfl | rfl | rfl
    · exact S.1
    · exact S.2.1
    · exact S.2.2.1
    · exact S.2.2.2
  · show M2 196 i = -1
    rcases (show i = 0 ∨ i = 1 ∨ i = 2 ∨ i = 3 by omega) with rfl | rfl | rfl | rfl
    · exact hs.1
    · exact hs.2.1
    · exact hs.2.2.1
    · exact hs.2.2.2
