/-! ===== the law ===== -/
abbrev mmL (nm : String) : MM := (⟨RL, nm, "([I)Z"⟩, cL_law, 4, some .boolean)
theorem RI.same {M M' : Nat → Nat → Int32} {N N' : Nat → Nat → Int64} {A : AS} (h : RI M N A) (he : ∀ a, 189 ≤ a → M' a = M a ∧ N' a = N a) : RI M' N' A := by
  obtain ⟨y, kp, tp, sh⟩ := A
  obtain ⟨g1, g2, g3, g4⟩ := h
  refine ⟨g1.keep (he 190 (by omega)).1, ?_, ⟨by rw [(he 189 (by omega)).1]; exact g3.1, fun j x hj => by rw [(he 194 (by omega)).1]; exact g3.2 j x hj⟩, fun i hi => ?_⟩
  · cases kp with
    | none => show M' 189 4 = 0; rw [(he 189 (by omega)).1]; exact g2
    | some z => exact ⟨by rw [(he 189 (by omega)).1]; exact g2.1, g2.2.keep (he 193 (by omega)).1⟩
  · have h9 := g4 i hi
    dsimp only at h9 ⊢
    cases hB : sh i with
    | none => rw [hB] at h9; show M' 196 i = -1; rw [(he 196 (by omega)).1]; exact h9
    | some z =>
      obtain ⟨la, ln, f⟩ := z
      rw [hB] at h9
      exact ⟨by rw [(he 196 (by omega)).1]; exact h9.1, by rw [(he 195 (by omega)).1]; exact h9.2.1, fun j hj => by rw [(he 197 (by omega)).2]; exact h9.2.2 j hj⟩
theorem CI.same {M M' : Nat → Nat → Int32} {N N' : Nat → Nat → Int64} {A : AS} (h : CI M N A) (he : ∀ a, a < 189 → M' a = M a ∧ N' a = N a) : CI M' N' A :=
  ⟨h.1.keep (fun a _ _ => (he a (by omega)).1) (fun a _ _ => (he a (by omega)).1), h.2.1.keep (he 0 (by omega)).1 (fun a _ _ => (he a (by omega)).1), h.2.2.1.keep (he 170 (by omega)).1 (he 171 (by omega)).1, fun i hi => (h.2.2.2 i hi).keep (he _ (by omega)).1 (he _ (by omega)).2⟩
theorem lw_lt {L i : Nat} (hL : L ≤ 384) (hi : i ≤ 1000) : nI L - 6 < nI i ↔ L < i + 6 := by
  have e : (nI L - 6).toInt = (L : Int) - 6 := pk_sub_toInt (a := L) (b := 6) (by omega) (by omega)
  rw [Int32.lt_iff_toInt_lt, e, nI_toInt (by omega)]
  omega
set_option maxRecDepth 100000 in
set_option maxHeartbeats 1000000 in
theorem lc_0 {nm : String} {L i : Nat} {M : Nat → Nat → Int32} {N : Nat → Nat → Int64} {A : AS} {Q : AQ} (hi : i + 6 ≤ L) (hL : L ≤ 384) (hM : M 1000001 0 = nI L) (hA : AOk A) (hC : CI M N A) (hR : RI M N A) (kk : ∀ (A' : AS) (M' : Nat → Nat → Int32) (N' : Nat → Nat → Int64), AOk A' → CI M' N' A' → RI M' N' A' → (∀ a, 202 ≤ a → M' a = M a) → Go (mmL nm) 31 0 0 18 [(0, .ref 1000000), (1, .ref 0), (2, .ref 189), (3, .int (nI (i + 6)))] [] (SK, M', N') Q) : Go (mmL nm) 31 0 0 33 [(0, .ref 1000000), (1, .ref 0), (2, .ref 189), (3, .int (nI i))] [.int (nI 0)] (SK, M, N) Q := by
  refine g_tblIn (off := 143) (tgt := 176) dL_law_33 (by decide) (by decide) (by decide) (by decide) ?_
  refine g_aload_n (j := 1) (pc' := 177) dL_law_176 rfl rfl ?_
  refine g_aload_n (j := 0) (pc' := 178) dL_law_177 rfl rfl ?_
  refine g_iload_n (j := 3) (pc' := 179) dL_law_178 rfl rfl ?_
  refine g_iconst (v := 1) (pc' := 180) dL_law_179 (by decide) rfl ?_
  refine g_iadd (pc' := 181) dL_law_180 rfl ?_
  refine g_sld (n := i + 1) (pc' := 182) dL_law_181 hM (by omega) (nI_addE rfl rfl) (by omega) rfl ?_
  refine g_aload_n (j := 0) (pc' := 183) dL_law_182 rfl rfl ?_
  refine g_iload_n (j := 3) (pc' := 184) dL_law_183 rfl rfl ?_
  refine g_iconst (v := 2) (pc' := 185) dL_law_184 (by decide) rfl ?_
  refine g_iadd (pc' := 186) dL_law_185 rfl ?_
  refine g_sld (n := i + 2) (pc' := 187) dL_law_186 hM (by omega) (nI_addE rfl rfl) (by omega) rfl ?_
  refine g_aload_n (j := 0) (pc' := 188) dL_law_187 rfl rfl ?_
  refine g_iload_n (j := 3) (pc' := 189) dL_law_188 rfl rfl ?_
  refine g_iconst (v := 3) (pc' := 190) dL_law_189 (by decide) rfl ?_
  refine g_iadd (pc' := 191) dL_law_190 rfl ?_
  refine g_sld (n := i + 3) (pc' := 192) dL_law_191 hM (by omega) (nI_addE rfl rfl) (by omega) rfl ?_
  obtain ⟨r, A2, hc, hr, hA2⟩ := op_man hA (M 1000000 (i + 1)) (M 1000000 (i + 2)) (M 1000000 (i + 3))
  refine g_callV (my := mX11_man) (k := 0) (st := []) (av := [.int (M 1000000 (i + 1)), .int (M 1000000 (i + 2)), .int (M 1000000 (i + 3))]) (mcr := 0) (msr := 0) (mc := 0) (ms := 0) (pc' := 195) dL_law_192 kX11_man wL_13 rfl ⟨rfl, rfl⟩ rfl (Nat.le_of_ble_eq_true rfl) (by decide) (hc M N hC) rfl ?_
  rintro _ _ ⟨M1, N1, rfl, rfl, hC1, hf0⟩
  show Go (mmL nm) _ _ _ 195 [(0, .ref 1000000), (1, .ref 0), (2, .ref 189), (3, .int (nI i))] [.int r] (SK, M1, N1) _
  have hf1 : ∀ a, 189 ≤ a → M1 a = M a := fun a ha => (hf0 a ha).1
  have hM1 : M1 1000001 0 = nI L := by rw [hf1 1000001 (by omega)]; exact hM
  refine g_aload_n (j := 2) (pc' := 196) dL_law_195 rfl rfl ?_
  refine g_aload_n (j := 0) (pc' := 197) dL_law_196 rfl rfl ?_
  refine g_iload_n (j := 3) (pc' := 198) dL_law_197 rfl rfl ?_
  refine g_iconst (v := 1) (pc' := 199) dL_law_198 (by decide) rfl ?_
  refine g_iadd (pc' := 200) dL_law_199 rfl ?_
  refine g_sld (n := i + 1) (pc' := 201) dL_law_200 hM1 (by omega) (nI_addE rfl rfl) (by omega) rfl ?_
  refine g_top (y := M 1000000 (i + 1)) (by rw [hf1 1000000 (by omega)]) ?_
  refine g_aload_n (j := 0) (pc' := 202) dL_law_201 rfl rfl ?_
  refine g_iload_n (j := 3) (pc' := 203) dL_law_202 rfl rfl ?_
  refine g_iconst (v := 2) (pc' := 204) dL_law_203 (by decide) rfl ?_
  refine g_iadd (pc' := 205) dL_law_204 rfl ?_
  refine g_sld (n := i + 2) (pc' := 206) dL_law_205 hM1 (by omega) (nI_addE rfl rfl) (by omega) rfl ?_
  refine g_top (y := M 1000000 (i + 2)) (by rw [hf1 1000000 (by omega)]) ?_
  refine g_aload_n (j := 0) (pc' := 207) dL_law_206 rfl rfl ?_
  refine g_iload_n (j := 3) (pc' := 208) dL_law_207 rfl rfl ?_
  refine g_iconst (v := 3) (pc' := 209) dL_law_208 (by decide) rfl ?_
  refine g_iadd (pc' := 210) dL_law_209 rfl ?_
  refine g_sld (n := i + 3) (pc' := 211) dL_law_210 hM1 (by omega) (nI_addE rfl rfl) (by omega) rfl ?_
  refine g_top (y := M 1000000 (i + 3)) (by rw [hf1 1000000 (by omega)]) ?_
  refine g_callV (my := mX12_man) (k := 189) (st := [.int r]) (av := [.int (M 1000000 (i + 1)), .int (M 1000000 (i + 2)), .int (M 1000000 (i + 3))]) (mcr := 0) (msr := 0) (mc := 0) (ms := 0) (pc' := 214) dL_law_211 kX12_man wL_17 rfl ⟨rfl, rfl⟩ rfl (Nat.le_of_ble_eq_true rfl) (by decide) (hr M1 N1 (hR.same hf0)) rfl ?_
  rintro _ _ ⟨M2, N2, rfl, rfl, hR2, hf2⟩
  show Go (mmL nm) _ _ _ 214 [(0, .ref 1000000), (1, .ref 0), (2, .ref 189), (3, .int (nI i))] [.int r, .int r] (SK, M2, N2) _
  refine g_icmp_eq (tgt := 1232) (pc' := 217) dL_law_214 (by decide) rfl (fun hc => ?_) (fun hc => (absurd rfl hc))
  refine g_iinc (j := 3) (v := nI (i + 6)) (L' := [(0, .ref 1000000), (1, .ref 0), (2, .ref 189), (3, .int (nI (i + 6)))]) (pc' := 1235) dL_law_1232 rfl (nI_add i 6) (Nat.le_of_ble_eq_true rfl) rfl rfl ?_
  refine g_goto (tgt := 18) dL_law_1235 (by decide) ?_
  exact kk A2 M2 N2 hA2 (hC1.same (fun a ha => hf2 a (Or.inl ha))) hR2 (fun a ha => ((hf2 a (Or.inr ha)).1).trans (hf1 a (by omega)))
set_option maxRecDepth 100000 in
set_option maxHeartbeats 1000000 in
theorem lc_1 {nm : String} {L i : Nat} {M : Nat → Nat → Int32} {N : Nat → Nat → Int64} {A : AS} {Q : AQ} (hi : i + 6 ≤ L) (hL : L ≤ 384) (hM : M 1000001 0 = nI L) (hA : AOk A) (hC : CI M N A) (hR : RI M N A) (kk : ∀ (A' : AS) (M' : Nat → Nat → Int32) (N' : Nat → Nat → Int64), AOk A' → CI M' N' A' → RI M' N' A' → (∀ a, 202 ≤ a → M' a = M a) → Go (mmL nm) 31 0 0 18 [(0, .ref 1000000), (1, .ref 0), (2, .ref 189), (3, .int (nI (i + 6)))] [] (SK, M', N') Q) : Go (mmL nm) 31 0 0 33 [(0, .ref 1000000), (1, .ref 0), (2, .ref 189), (3, .int (nI i))] [.int (nI 1)] (SK, M, N) Q := by
  refine g_tblIn (off := 186) (tgt := 219) dL_law_33 (by decide) (by decide) (by decide) (by decide) ?_
  refine g_aload_n (j := 1) (pc' := 220) dL_law_219 rfl rfl ?_
  refine g_aload_n (j := 0) (pc' := 221) dL_law_220 rfl rfl ?_
  refine g_iload_n (j := 3) (pc' := 222) dL_law_221 rfl rfl ?_
  refine g_iconst (v := 1) (pc' := 223) dL_law_222 (by decide) rfl ?_
  refine g_iadd (pc' := 224) dL_law_223 rfl ?_
  refine g_sld (n := i + 1) (pc' := 225) dL_law_224 hM (by omega) (nI_addE rfl rfl) (by omega) rfl ?_
  refine g_aload_n (j := 0) (pc' := 226) dL_law_225 rfl rfl ?_
  refine g_iload_n (j := 3) (pc' := 227) dL_law_226 rfl rfl ?_
  refine g_iconst (v := 2) (pc' := 228) dL_law_227 (by decide) rfl ?_
  refine g_iadd (pc' := 229) dL_law_228 rfl ?_
  refine g_sld (n := i + 2) (pc' := 230) dL_law_229 hM (by omega) (nI_addE rfl rfl) (by omega) rfl ?_
  obtain ⟨r, A2, hc, hr, hA2⟩ := op_name hA (M 1000000 (i + 1)) (M 1000000 (i + 2))
  refine g_callV (my := mX11_name) (k := 0) (st := []) (av := [.int (M 1000000 (i + 1)), .int (M 1000000 (i + 2))]) (mcr := 0) (msr := 0) (mc := 0) (ms := 0) (pc' := 233) dL_law_230 kX11_name wL_18 rfl ⟨rfl, rfl⟩ rfl (Nat.le_of_ble_eq_true rfl) (by decide) (hc M N hC) rfl ?_
  rintro _ _ ⟨M1, N1, rfl, rfl, hC1, hf0⟩
  show Go (mmL nm) _ _ _ 233 [(0, .ref 1000000), (1, .ref 0), (2, .ref 189), (3, .int (nI i))] [.int r] (SK, M1, N1) _
  have hf1 : ∀ a, 189 ≤ a → M1 a = M a := fun a ha => (hf0 a ha).1
  have hM1 : M1 1000001 0 = nI L := by rw [hf1 1000001 (by omega)]; exact hM
  refine g_aload_n (j := 2) (pc' := 234) dL_law_233 rfl rfl ?_
  refine g_aload_n (j := 0) (pc' := 235) dL_law_234 rfl rfl ?_
  refine g_iload_n (j := 3) (pc' := 236) dL_law_235 rfl rfl ?_
  refine g_iconst (v := 1) (pc' := 237) dL_law_236 (by decide) rfl ?_
  refine g_iadd (pc' := 238) dL_law_237 rfl ?_
  refine g_sld (n := i + 1) (pc' := 239) dL_law_238 hM1 (by omega) (nI_addE rfl rfl) (by omega) rfl ?_
  refine g_top (y := M 1000000 (i + 1)) (by rw [hf1 1000000 (by omega)]) ?_
  refine g_aload_n (j := 0) (pc' := 240) dL_law_239 rfl rfl ?_
  refine g_iload_n (j := 3) (pc' := 241) dL_law_240 rfl rfl ?_
  refine g_iconst (v := 2) (pc' := 242) dL_law_241 (by decide) rfl ?_
  refine g_iadd (pc' := 243) dL_law_242 rfl ?_
  refine g_sld (n := i + 2) (pc' := 244) dL_law_243 hM1 (by omega) (nI_addE rfl rfl) (by omega) rfl ?_
  refine g_top (y := M 1000000 (i + 2)) (by rw [hf1 1000000 (by omega)]) ?_
  refine g_callV (my := mX12_name) (k := 189) (st := [.int r]) (av := [.int (M 1000000 (i + 1)), .int (M 1000000 (i + 2))]) (mcr := 0) (msr := 0) (mc := 0) (ms := 0) (pc' := 247) dL_law_244 kX12_name wL_22 rfl ⟨rfl, rfl⟩ rfl (Nat.le_of_ble_eq_true rfl) (by decide) (hr M1 N1 (hR.same hf0)) rfl ?_
  rintro _ _ ⟨M2, N2, rfl, rfl, hR2, hf2⟩
  show Go (mmL nm) _ _ _ 247 [(0, .ref 1000000), (1, .ref 0), (2, .ref 189), (3, .int (nI i))] [.int r, .int r] (SK, M2, N2) _
  refine g_icmp_eq (tgt := 1232) (pc' := 250) dL_law_247 (by decide) rfl (fun hc => ?_) (fun hc => (absurd rfl hc))
  refine g_iinc (j := 3) (v := nI (i + 6)) (L' := [(0, .ref 1000000), (1, .ref 0), (2, .ref 189), (3, .int (nI (i + 6)))]) (pc' := 1235) dL_law_1232 rfl (nI_add i 6) (Nat.le_of_ble_eq_true rfl) rfl rfl ?_
  refine g_goto (tgt := 18) dL_law_1235 (by decide) ?_
  exact kk A2 M2 N2 hA2 (hC1.same (fun a ha => hf2 a (Or.inl ha))) hR2 (fun a ha => ((hf2 a (Or.inr ha)).1).trans (hf1 a (by omega)))
set_option maxRecDepth 100000 in
set_option maxHeartbeats 1000000 in
theorem lc_2 {nm : String} {L i : Nat} {M : Nat → Nat → Int32} {N : Nat → Nat → Int64} {A : AS} {Q : AQ} (hi : i + 6 ≤ L) (hL : L ≤ 384) (hM : M 1000001 0 = nI L) (hA : AOk A) (hC : CI M N A) (hR : RI M N A) (kk : ∀ (A' : AS) (M' : Nat → Nat → Int32) (N' : Nat → Nat → Int64), AOk A' → CI M' N' A' → RI M' N' A' → (∀ a, 202 ≤ a → M' a = M a) → Go (mmL nm) 31 0 0 18 [(0, .ref 1000000), (1, .ref 0), (2, .ref 189), (3, .int (nI (i + 6)))] [] (SK, M', N') Q) : Go (mmL nm) 31 0 0 33 [(0, .ref 1000000), (1, .ref 0), (2, .ref 189), (3, .int (nI i))] [.int (nI 2)] (SK, M, N) Q := by
  refine g_tblIn (off := 219) (tgt := 252) dL_law_33 (by decide) (by decide) (by decide) (by decide) ?_
  refine g_aload_n (j := 1) (pc' := 253) dL_law_252 rfl rfl ?_
  refine g_aload_n (j := 0) (pc' := 254) dL_law_253 rfl rfl ?_
  refine g_iload_n (j := 3) (pc' := 255) dL_law_254 rfl rfl ?_
  refine g_iconst (v := 1) (pc' := 256) dL_law_255 (by decide) rfl ?_
  refine g_iadd (pc' := 257) dL_law_256 rfl ?_
  refine g_sld (n := i + 1) (pc' := 258) dL_law_257 hM (by omega) (nI_addE rfl rfl) (by omega) rfl ?_
  refine g_aload_n (j := 0) (pc' := 259) dL_law_258 rfl rfl ?_
  refine g_iload_n (j := 3) (pc' := 260) dL_law_259 rfl rfl ?_
  refine g_iconst (v := 2) (pc' := 261) dL_law_260 (by decide) rfl ?_
  refine g_iadd (pc' := 262) dL_law_261 rfl ?_
  refine g_sld (n := i + 2) (pc' := 263) dL_law_262 hM (by omega) (nI_addE rfl rfl) (by omega) rfl ?_
  obtain ⟨r, A2, hc, hr, hA2⟩ := op_of hA (M 1000000 (i + 1)) (M 1000000 (i + 2))
  refine g_callV (my := mX11_of) (k := 0) (st := []) (av := [.int (M 1000000 (i + 1)), .int (M 1000000 (i + 2))]) (mcr := 0) (msr := 0) (mc := 0) (ms := 0) (pc' := 266) dL_law_263 kX11_of wL_23 rfl ⟨rfl, rfl⟩ rfl (Nat.le_of_ble_eq_true rfl) (by decide) (hc M N hC) rfl ?_
  rintro _ _ ⟨M1, N1, rfl, rfl, hC1, hf0⟩
  show Go (mmL nm) _ _ _ 266 [(0, .ref 1000000), (1, .ref 0), (2, .ref 189), (3, .int (nI i))] [.int r] (SK, M1, N1) _
  have hf1 : ∀ a, 189 ≤ a → M1 a = M a := fun a ha => (hf0 a ha).1
  have hM1 : M1 1000001 0 = nI L := by rw [hf1 1000001 (by omega)]; exact hM
  refine g_aload_n (j := 2) (pc' := 267) dL_law_266 rfl rfl ?_
  refine g_aload_n (j := 0) (pc' := 268) dL_law_267 rfl rfl ?_
  refine g_iload_n (j := 3) (pc' := 269) dL_law_268 rfl rfl ?_
  refine g_iconst (v := 1) (pc' := 270) dL_law_269 (by decide) rfl ?_
  refine g_iadd (pc' := 271) dL_law_270 rfl ?_
  refine g_sld (n := i + 1) (pc' := 272) dL_law_271 hM1 (by omega) (nI_addE rfl rfl) (by omega) rfl ?_
  refine g_top (y := M 1000000 (i + 1)) (by rw [hf1 1000000 (by omega)]) ?_
  refine g_aload_n (j := 0) (pc' := 273) dL_law_272 rfl rfl ?_
  refine g_iload_n (j := 3) (pc' := 274) dL_law_273 rfl rfl ?_
  refine g_iconst (v := 2) (pc' := 275) dL_law_274 (by decide) rfl ?_
  refine g_iadd (pc' := 276) dL_law_275 rfl ?_
  refine g_sld (n := i + 2) (pc' := 277) dL_law_276 hM1 (by omega) (nI_addE rfl rfl) (by omega) rfl ?_
  refine g_top (y := M 1000000 (i + 2)) (by rw [hf1 1000000 (by omega)]) ?_
  refine g_callV (my := mX12_of) (k := 189) (st := [.int r]) (av := [.int (M 1000000 (i + 1)), .int (M 1000000 (i + 2))]) (mcr := 0) (msr := 0) (mc := 0) (ms := 0) (pc' := 280) dL_law_277 kX12_of wL_26 rfl ⟨rfl, rfl⟩ rfl (Nat.le_of_ble_eq_true rfl) (by decide) (hr M1 N1 (hR.same hf0)) rfl ?_
  rintro _ _ ⟨M2, N2, rfl, rfl, hR2, hf2⟩
  show Go (mmL nm) _ _ _ 280 [(0, .ref 1000000), (1, .ref 0), (2, .ref 189), (3, .int (nI i))] [.int r, .int r] (SK, M2, N2) _
  refine g_icmp_eq (tgt := 1232) (pc' := 283) dL_law_280 (by decide) rfl (fun hc => ?_) (fun hc => (absurd rfl hc))
  refine g_iinc (j := 3) (v := nI (i + 6)) (L' := [(0, .ref 1000000), (1, .ref 0), (2, .ref 189), (3, .int (nI (i + 6)))]) (pc' := 1235) dL_law_1232 rfl (nI_add i 6) (Nat.le_of_ble_eq_true rfl) rfl rfl ?_
  refine g_goto (tgt := 18) dL_law_1235 (by decide) ?_
  exact kk A2 M2 N2 hA2 (hC1.same (fun a ha => hf2 a (Or.inl ha))) hR2 (fun a ha => ((hf2 a (Or.inr ha)).1).trans (hf1 a (by omega)))
set_option maxRecDepth 100000 in
set_option maxHeartbeats 1000000 in
theorem lc_3 {nm : String} {L i : Nat} {M : Nat → Nat → Int32} {N : Nat → Nat → Int64} {A : AS} {Q : AQ} (hi : i + 6 ≤ L) (hL : L ≤ 384) (hM : M 1000001 0 = nI L) (hA : AOk A) (hC : CI M N A) (hR : RI M N A) (kk : ∀ (A' : AS) (M' : Nat → Nat → Int32) (N' : Nat → Nat → Int64), AOk A' → CI M' N' A' → RI M' N' A' → (∀ a, 202 ≤ a → M' a = M a) → Go (mmL nm) 31 0 0 18 [(0, .ref 1000000), (1, .ref 0), (2, .ref 189), (3, .int (nI (i + 6)))] [] (SK, M', N') Q) : Go (mmL nm) 31 0 0 33 [(0, .ref 1000000), (1, .ref 0), (2, .ref 189), (3, .int (nI i))] [.int (nI 3)] (SK, M, N) Q := by
  refine g_tblIn (off := 252) (tgt := 285) dL_law_33 (by decide) (by decide) (by decide) (by decide) ?_
  refine g_aload_n (j := 1) (pc' := 286) dL_law_285 rfl rfl ?_
  refine g_aload_n (j := 0) (pc' := 287) dL_law_286 rfl rfl ?_
  refine g_iload_n (j := 3) (pc' := 288) dL_law_287 rfl rfl ?_
  refine g_iconst (v := 1) (pc' := 289) dL_law_288 (by decide) rfl ?_
  refine g_iadd (pc' := 290) dL_law_289 rfl ?_
  refine g_sld (n := i + 1) (pc' := 291) dL_law_290 hM (by omega) (nI_addE rfl rfl) (by omega) rfl ?_
  refine g_aload_n (j := 0) (pc' := 292) dL_law_291 rfl rfl ?_
  refine g_iload_n (j := 3) (pc' := 293) dL_law_292 rfl rfl ?_
  refine g_iconst (v := 2) (pc' := 294) dL_law_293 (by decide) rfl ?_
  refine g_iadd (pc' := 295) dL_law_294 rfl ?_
  refine g_sld (n := i + 2) (pc' := 296) dL_law_295 hM (by omega) (nI_addE rfl rfl) (by omega) rfl ?_
  obtain ⟨r, A2, hc, hr, hA2⟩ := op_named hA (M 1000000 (i + 1)) (M 1000000 (i + 2))
  refine g_callV (my := mX11_named) (k := 0) (st := []) (av := [.int (M 1000000 (i + 1)), .int (M 1000000 (i + 2))]) (mcr := 0) (msr := 0) (mc := 0) (ms := 0) (pc' := 299) dL_law_296 kX11_named wL_27 rfl ⟨rfl, rfl⟩ rfl (Nat.le_of_ble_eq_true rfl) (by decide) (hc M N hC) rfl ?_
  rintro _ _ ⟨M1, N1, rfl, rfl, hC1, hf0⟩
  show Go (mmL nm) _ _ _ 299 [(0, .ref 1000000), (1, .ref 0), (2, .ref 189), (3, .int (nI i))] [.int r] (SK, M1, N1) _
  have hf1 : ∀ a, 189 ≤ a → M1 a = M a := fun a ha => (hf0 a ha).1
  have hM1 : M1 1000001 0 = nI L := by rw [hf1 1000001 (by omega)]; exact hM
  refine g_aload_n (j := 2) (pc' := 300) dL_law_299 rfl rfl ?_
  refine g_aload_n (j := 0) (pc' := 301) dL_law_300 rfl rfl ?_
  refine g_iload_n (j := 3) (pc' := 302) dL_law_301 rfl rfl ?_
  refine g_iconst (v := 1) (pc' := 303) dL_law_302 (by decide) rfl ?_
  refine g_iadd (pc' := 304) dL_law_303 rfl ?_
  refine g_sld (n := i + 1) (pc' := 305) dL_law_304 hM1 (by omega) (nI_addE rfl rfl) (by omega) rfl ?_
  refine g_top (y := M 1000000 (i + 1)) (by rw [hf1 1000000 (by omega)]) ?_
  refine g_aload_n (j := 0) (pc' := 306) dL_law_305 rfl rfl ?_
  refine g_iload_n (j := 3) (pc' := 307) dL_law_306 rfl rfl ?_
  refine g_iconst (v := 2) (pc' := 308) dL_law_307 (by decide) rfl ?_
  refine g_iadd (pc' := 309) dL_law_308 rfl ?_
  refine g_sld (n := i + 2) (pc' := 310) dL_law_309 hM1 (by omega) (nI_addE rfl rfl) (by omega) rfl ?_
  refine g_top (y := M 1000000 (i + 2)) (by rw [hf1 1000000 (by omega)]) ?_
  refine g_callV (my := mX12_named) (k := 189) (st := [.int r]) (av := [.int (M 1000000 (i + 1)), .int (M 1000000 (i + 2))]) (mcr := 0) (msr := 0) (mc := 0) (ms := 0) (pc' := 313) dL_law_310 kX12_named wL_30 rfl ⟨rfl, rfl⟩ rfl (Nat.le_of_ble_eq_true rfl) (by decide) (hr M1 N1 (hR.same hf0)) rfl ?_
  rintro _ _ ⟨M2, N2, rfl, rfl, hR2, hf2⟩
  show Go (mmL nm) _ _ _ 313 [(0, .ref 1000000), (1, .ref 0), (2, .ref 189), (3, .int (nI i))] [.int r, .int r] (SK, M2, N2) _
  refine g_icmp_eq (tgt := 1232) (pc' := 316) dL_law_313 (by decide) rfl (fun hc => ?_) (fun hc => (absurd rfl hc))
  refine g_iinc (j := 3) (v := nI (i + 6)) (L' := [(0, .ref 1000000), (1, .ref 0), (2, .ref 189), (3, .int (nI (i + 6)))]) (pc' := 1235) dL_law_1232 rfl (nI_add i 6) (Nat.le_of_ble_eq_true rfl) rfl rfl ?_
  refine g_goto (tgt := 18) dL_law_1235 (by decide) ?_
  exact kk A2 M2 N2 hA2 (hC1.same (fun a ha => hf2 a (Or.inl ha))) hR2 (fun a ha => ((hf2 a (Or.inr ha)).1).trans (hf1 a (by omega)))
set_option maxRecDepth 100000 in
set_option maxHeartbeats 1000000 in
theorem lc_4 {nm : String} {L i : Nat} {M : Nat → Nat → Int32} {N : Nat → Nat → Int64} {A : AS} {Q : AQ} (hi : i + 6 ≤ L) (hL : L ≤ 384) (hM : M 1000001 0 = nI L) (hA : AOk A) (hC : CI M N A) (hR : RI M N A) (kk : ∀ (A' : AS) (M' : Nat → Nat → Int32) (N' : Nat → Nat → Int64), AOk A' → CI M' N' A' → RI M' N' A' → (∀ a, 202 ≤ a → M' a = M a) → Go (mmL nm) 31 0 0 18 [(0, .ref 1000000), (1, .ref 0), (2, .ref 189), (3, .int (nI (i + 6)))] [] (SK, M', N') Q) : Go (mmL nm) 31 0 0 33 [(0, .ref 1000000), (1, .ref 0), (2, .ref 189), (3, .int (nI i))] [.int (nI 4)] (SK, M, N) Q := by
  refine g_tblIn (off := 285) (tgt := 318) dL_law_33 (by decide) (by decide) (by decide) (by decide) ?_
  refine g_aload_n (j := 1) (pc' := 319) dL_law_318 rfl rfl ?_
  refine g_aload_n (j := 0) (pc' := 320) dL_law_319 rfl rfl ?_
  refine g_iload_n (j := 3) (pc' := 321) dL_law_320 rfl rfl ?_
  refine g_iconst (v := 1) (pc' := 322) dL_law_321 (by decide) rfl ?_
  refine g_iadd (pc' := 323) dL_law_322 rfl ?_
  refine g_sld (n := i + 1) (pc' := 324) dL_law_323 hM (by omega) (nI_addE rfl rfl) (by omega) rfl ?_
  refine g_aload_n (j := 0) (pc' := 325) dL_law_324 rfl rfl ?_
  refine g_iload_n (j := 3) (pc' := 326) dL_law_325 rfl rfl ?_
  refine g_iconst (v := 2) (pc' := 327) dL_law_326 (by decide) rfl ?_
  refine g_iadd (pc' := 328) dL_law_327 rfl ?_
  refine g_sld (n := i + 2) (pc' := 329) dL_law_328 hM (by omega) (nI_addE rfl rfl) (by omega) rfl ?_
  obtain ⟨r, A2, hc, hr, hA2⟩ := op_values hA (M 1000000 (i + 1)) (M 1000000 (i + 2))
  refine g_callV (my := mX11_values) (k := 0) (st := []) (av := [.int (M 1000000 (i + 1)), .int (M 1000000 (i + 2))]) (mcr := 0) (msr := 0) (mc := 0) (ms := 0) (pc' := 332) dL_law_329 kX11_values wL_31 rfl ⟨rfl, rfl⟩ rfl (Nat.le_of_ble_eq_true rfl) (by decide) (hc M N hC) rfl ?_
  rintro _ _ ⟨M1, N1, rfl, rfl, hC1, hf0⟩
  show Go (mmL nm) _ _ _ 332 [(0, .ref 1000000), (1, .ref 0), (2, .ref 189), (3, .int (nI i))] [.int r] (SK, M1, N1) _
  have hf1 : ∀ a, 189 ≤ a → M1 a = M a := fun a ha => (hf0 a ha).1
  have hM1 : M1 1000001 0 = nI L := by rw [hf1 1000001 (by omega)]; exact hM
  refine g_aload_n (j := 2) (pc' := 333) dL_law_332 rfl rfl ?_
  refine g_aload_n (j := 0) (pc' := 334) dL_law_333 rfl rfl ?_
  refine g_iload_n (j := 3) (pc' := 335) dL_law_334 rfl rfl ?_
  refine g_iconst (v := 1) (pc' := 336) dL_law_335 (by decide) rfl ?_
  refine g_iadd (pc' := 337) dL_law_336 rfl ?_
  refine g_sld (n := i + 1) (pc' := 338) dL_law_337 hM1 (by omega) (nI_addE rfl rfl) (by omega) rfl ?_
  refine g_top (y := M 1000000 (i + 1)) (by rw [hf1 1000000 (by omega)]) ?_
  refine g_aload_n (j := 0) (pc' := 339) dL_law_338 rfl rfl ?_
  refine g_iload_n (j := 3) (pc' := 340) dL_law_339 rfl rfl ?_
  refine g_iconst (v := 2) (pc' := 341) dL_law_340 (by decide) rfl ?_
  refine g_iadd (pc' := 342) dL_law_341 rfl ?_
  refine g_sld (n := i + 2) (pc' := 343) dL_law_342 hM1 (by omega) (nI_addE rfl rfl) (by omega) rfl ?_
  refine g_top (y := M 1000000 (i + 2)) (by rw [hf1 1000000 (by omega)]) ?_
  refine g_callV (my := mX12_values) (k := 189) (st := [.int r]) (av := [.int (M 1000000 (i + 1)), .int (M 1000000 (i + 2))]) (mcr := 0) (msr := 0) (mc := 0) (ms := 0) (pc' := 346) dL_law_343 kX12_values wL_34 rfl ⟨rfl, rfl⟩ rfl (Nat.le_of_ble_eq_true rfl) (by decide) (hr M1 N1 (hR.same hf0)) rfl ?_
  rintro _ _ ⟨M2, N2, rfl, rfl, hR2, hf2⟩
  show Go (mmL nm) _ _ _ 346 [(0, .ref 1000000), (1, .ref 0), (2, .ref 189), (3, .int (nI i))] [.int r, .int r] (SK, M2, N2) _
  refine g_icmp_eq (tgt := 1232) (pc' := 349) dL_law_346 (by decide) rfl (fun hc => ?_) (fun hc => (absurd rfl hc))
  refine g_iinc (j := 3) (v := nI (i + 6)) (L' := [(0, .ref 1000000), (1, .ref 0), (2, .ref 189), (3, .int (nI (i + 6)))]) (pc' := 1235) dL_law_1232 rfl (nI_add i 6) (Nat.le_of_ble_eq_true rfl) rfl rfl ?_
  refine g_goto (tgt := 18) dL_law_1235 (by decide) ?_
  exact kk A2 M2 N2 hA2 (hC1.same (fun a ha => hf2 a (Or.inl ha))) hR2 (fun a ha => ((hf2 a (Or.inr ha)).1).trans (hf1 a (by omega)))
set_option maxRecDepth 100000 in
set_option maxHeartbeats 1000000 in
theorem lc_5 {nm : String} {L i : Nat} {M : Nat → Nat → Int32} {N : Nat → Nat → Int64} {A : AS} {Q : AQ} (hi : i + 6 ≤ L) (hL : L ≤ 384) (hM : M 1000001 0 = nI L) (hA : AOk A) (hC : CI M N A) (hR : RI M N A) (kk : ∀ (A' : AS) (M' : Nat → Nat → Int32) (N' : Nat → Nat → Int64), AOk A' → CI M' N' A' → RI M' N' A' → (∀ a, 202 ≤ a → M' a = M a) → Go (mmL nm) 31 0 0 18 [(0, .ref 1000000), (1, .ref 0), (2, .ref 189), (3, .int (nI (i + 6)))] [] (SK, M', N') Q) : Go (mmL nm) 31 0 0 33 [(0, .ref 1000000), (1, .ref 0), (2, .ref 189), (3, .int (nI i))] [.int (nI 5)] (SK, M, N) Q := by
  refine g_tblIn (off := 318) (tgt := 351) dL_law_33 (by decide) (by decide) (by decide) (by decide) ?_
  refine g_aload_n (j := 1) (pc' := 352) dL_law_351 rfl rfl ?_
  refine g_aload_n (j := 0) (pc' := 353) dL_law_352 rfl rfl ?_
  refine g_iload_n (j := 3) (pc' := 354) dL_law_353 rfl rfl ?_
  refine g_iconst (v := 1) (pc' := 355) dL_law_354 (by decide) rfl ?_
  refine g_iadd (pc' := 356) dL_law_355 rfl ?_
  refine g_sld (n := i + 1) (pc' := 357) dL_law_356 hM (by omega) (nI_addE rfl rfl) (by omega) rfl ?_
  obtain ⟨r, A2, hc, hr, hA2⟩ := op_stones hA (M 1000000 (i + 1))
  refine g_callV (my := mX11_stones) (k := 0) (st := []) (av := [.int (M 1000000 (i + 1))]) (mcr := 0) (msr := 0) (mc := 0) (ms := 0) (pc' := 360) dL_law_357 kX11_stones wL_35 rfl ⟨rfl, rfl⟩ rfl (Nat.le_of_ble_eq_true rfl) (by decide) (hc M N hC) rfl ?_
  rintro _ _ ⟨M1, N1, rfl, rfl, hC1, hf0⟩
  show Go (mmL nm) _ _ _ 360 [(0, .ref 1000000), (1, .ref 0), (2, .ref 189), (3, .int (nI i))] [.int r] (SK, M1, N1) _
  have hf1 : ∀ a, 189 ≤ a → M1 a = M a := fun a ha => (hf0 a ha).1
  have hM1 : M1 1000001 0 = nI L := by rw [hf1 1000001 (by omega)]; exact hM
  refine g_aload_n (j := 2) (pc' := 361) dL_law_360 rfl rfl ?_
  refine g_aload_n (j := 0) (pc' := 362) dL_law_361 rfl rfl ?_
  refine g_iload_n (j := 3) (pc' := 363) dL_law_362 rfl rfl ?_
  refine g_iconst (v := 1) (pc' := 364) dL_law_363 (by decide) rfl ?_
  refine g_iadd (pc' := 365) dL_law_364 rfl ?_
  refine g_sld (n := i + 1) (pc' := 366) dL_law_365 hM1 (by omega) (nI_addE rfl rfl) (by omega) rfl ?_
  refine g_top (y := M 1000000 (i + 1)) (by rw [hf1 1000000 (by omega)]) ?_
  refine g_callV (my := mX12_stones) (k := 189) (st := [.int r]) (av := [.int (M 1000000 (i + 1))]) (mcr := 0) (msr := 0) (mc := 0) (ms := 0) (pc' := 369) dL_law_366 kX12_stones wL_39 rfl ⟨rfl, rfl⟩ rfl (Nat.le_of_ble_eq_true rfl) (by decide) (hr M1 N1 (hR.same hf0)) rfl ?_
  rintro _ _ ⟨M2, N2, rfl, rfl, hR2, hf2⟩
  show Go (mmL nm) _ _ _ 369 [(0, .ref 1000000), (1, .ref 0), (2, .ref 189), (3, .int (nI i))] [.int r, .int r] (SK, M2, N2) _
  refine g_icmp_eq (tgt := 1232) (pc' := 372) dL_law_369 (by decide) rfl (fun hc => ?_) (fun hc => (absurd rfl hc))
  refine g_iinc (j := 3) (v := nI (i + 6)) (L' := [(0, .ref 1000000), (1, .ref 0), (2, .ref 189), (3, .int (nI (i + 6)))]) (pc' := 1235) dL_law_1232 rfl (nI_add i 6) (Nat.le_of_ble_eq_true rfl) rfl rfl ?_
  refine g_goto (tgt := 18) dL_law_1235 (by decide) ?_
  exact kk A2 M2 N2 hA2 (hC1.same (fun a ha => hf2 a (Or.inl ha))) hR2 (fun a ha => ((hf2 a (Or.inr ha)).1).trans (hf1 a (by omega)))
set_option maxRecDepth 100000 in
set_option maxHeartbeats 1000000 in
theorem lc_6 {nm : String} {L i : Nat} {M : Nat → Nat → Int32} {N : Nat → Nat → Int64} {A : AS} {Q : AQ} (hi : i + 6 ≤ L) (hL : L ≤ 384) (hM : M 1000001 0 = nI L) (hA : AOk A) (hC : CI M N A) (hR : RI M N A) (kk : ∀ (A' : AS) (M' : Nat → Nat → Int32) (N' : Nat → Nat → Int64), AOk A' → CI M' N' A' → RI M' N' A' → (∀ a, 202 ≤ a → M' a = M a) → Go (mmL nm) 31 0 0 18 [(0, .ref 1000000), (1, .ref 0), (2, .ref 189), (3, .int (nI (i + 6)))] [] (SK, M', N') Q) : Go (mmL nm) 31 0 0 33 [(0, .ref 1000000), (1, .ref 0), (2, .ref 189), (3, .int (nI i))] [.int (nI 6)] (SK, M, N) Q := by
  refine g_tblIn (off := 341) (tgt := 374) dL_law_33 (by decide) (by decide) (by decide) (by decide) ?_
  refine g_aload_n (j := 1) (pc' := 375) dL_law_374 rfl rfl ?_
  refine g_aload_n (j := 0) (pc' := 376) dL_law_375 rfl rfl ?_
  refine g_iload_n (j := 3) (pc' := 377) dL_law_376 rfl rfl ?_
  refine g_iconst (v := 1) (pc' := 378) dL_law_377 (by decide) rfl ?_
  refine g_iadd (pc' := 379) dL_law_378 rfl ?_
  refine g_sld (n := i + 1) (pc' := 380) dL_law_379 hM (by omega) (nI_addE rfl rfl) (by omega) rfl ?_
  obtain ⟨r, A2, hc, hr, hA2⟩ := op_type hA (M 1000000 (i + 1))
  refine g_callV (my := mX11_type) (k := 0) (st := []) (av := [.int (M 1000000 (i + 1))]) (mcr := 0) (msr := 0) (mc := 0) (ms := 0) (pc' := 383) dL_law_380 kX11_type wL_40 rfl ⟨rfl, rfl⟩ rfl (Nat.le_of_ble_eq_true rfl) (by decide) (hc M N hC) rfl ?_
  rintro _ _ ⟨M1, N1, rfl, rfl, hC1, hf0⟩
  show Go (mmL nm) _ _ _ 383 [(0, .ref 1000000), (1, .ref 0), (2, .ref 189), (3, .int (nI i))] [.int r] (SK, M1, N1) _
  have hf1 : ∀ a, 189 ≤ a → M1 a = M a := fun a ha => (hf0 a ha).1
  have hM1 : M1 1000001 0 = nI L := by rw [hf1 1000001 (by omega)]; exact hM
  refine g_aload_n (j := 2) (pc' := 384) dL_law_383 rfl rfl ?_
  refine g_aload_n (j := 0) (pc' := 385) dL_law_384 rfl rfl ?_
  refine g_iload_n (j := 3) (pc' := 386) dL_law_385 rfl rfl ?_
  refine g_iconst (v := 1) (pc' := 387) dL_law_386 (by decide) rfl ?_
  refine g_iadd (pc' := 388) dL_law_387 rfl ?_
  refine g_sld (n := i + 1) (pc' := 389) dL_law_388 hM1 (by omega) (nI_addE rfl rfl) (by omega) rfl ?_
  refine g_top (y := M 1000000 (i + 1)) (by rw [hf1 1000000 (by omega)]) ?_
  refine g_callV (my := mX12_type) (k := 189) (st := [.int r]) (av := [.int (M 1000000 (i + 1))]) (mcr := 0) (msr := 0) (mc := 0) (ms := 0) (pc' := 392) dL_law_389 kX12_type wL_43 rfl ⟨rfl, rfl⟩ rfl (Nat.le_of_ble_eq_true rfl) (by decide) (hr M1 N1 (hR.same hf0)) rfl ?_
  rintro _ _ ⟨M2, N2, rfl, rfl, hR2, hf2⟩
  show Go (mmL nm) _ _ _ 392 [(0, .ref 1000000), (1, .ref 0), (2, .ref 189), (3, .int (nI i))] [.int r, .int r] (SK, M2, N2) _
  refine g_icmp_eq (tgt := 1232) (pc' := 395) dL_law_392 (by decide) rfl (fun hc => ?_) (fun hc => (absurd rfl hc))
  refine g_iinc (j := 3) (v := nI (i + 6)) (L' := [(0, .ref 1000000), (1, .ref 0), (2, .ref 189), (3, .int (nI (i + 6)))]) (pc' := 1235) dL_law_1232 rfl (nI_add i 6) (Nat.le_of_ble_eq_true rfl) rfl rfl ?_
  refine g_goto (tgt := 18) dL_law_1235 (by decide) ?_
  exact kk A2 M2 N2 hA2 (hC1.same (fun a ha => hf2 a (Or.inl ha))) hR2 (fun a ha => ((hf2 a (Or.inr ha)).1).trans (hf1 a (by omega)))
set_option maxRecDepth 100000 in
set_option maxHeartbeats 1000000 in
theorem lc_7 {nm : String} {L i : Nat} {M : Nat → Nat → Int32} {N : Nat → Nat → Int64} {A : AS} {Q : AQ} (hi : i + 6 ≤ L) (hL : L ≤ 384) (hM : M 1000001 0 = nI L) (hA : AOk A) (hC : CI M N A) (hR : RI M N A) (kk : ∀ (A' : AS) (M' : Nat → Nat → Int32) (N' : Nat → Nat → Int64), AOk A' → CI M' N' A' → RI M' N' A' → (∀ a, 202 ≤ a → M' a = M a) → Go (mmL nm) 31 0 0 18 [(0, .ref 1000000), (1, .ref 0), (2, .ref 189), (3, .int (nI (i + 6)))] [] (SK, M', N') Q) : Go (mmL nm) 31 0 0 33 [(0, .ref 1000000), (1, .ref 0), (2, .ref 189), (3, .int (nI i))] [.int (nI 7)] (SK, M, N) Q := by
  refine g_tblIn (off := 364) (tgt := 397) dL_law_33 (by decide) (by decide) (by decide) (by decide) ?_
  refine g_aload_n (j := 1) (pc' := 398) dL_law_397 rfl rfl ?_
  obtain ⟨r, A2, hc, hr, hA2⟩ := op_parish hA 
  refine g_callV (my := mX11_parish) (k := 0) (st := []) (av := []) (mcr := 0) (msr := 0) (mc := 0) (ms := 0) (pc' := 401) dL_law_398 kX11_parish wL_44 rfl ⟨rfl, rfl⟩ rfl (Nat.le_of_ble_eq_true rfl) (by decide) (hc M N hC) rfl ?_
  rintro _ _ ⟨M1, N1, rfl, rfl, hC1, hf0⟩
  show Go (mmL nm) _ _ _ 401 [(0, .ref 1000000), (1, .ref 0), (2, .ref 189), (3, .int (nI i))] [.int r] (SK, M1, N1) _
  have hf1 : ∀ a, 189 ≤ a → M1 a = M a := fun a ha => (hf0 a ha).1
  have hM1 : M1 1000001 0 = nI L := by rw [hf1 1000001 (by omega)]; exact hM
  refine g_aload_n (j := 2) (pc' := 402) dL_law_401 rfl rfl ?_
  refine g_callV (my := mX12_parish) (k := 189) (st := [.int r]) (av := []) (mcr := 0) (msr := 0) (mc := 0) (ms := 0) (pc' := 405) dL_law_402 kX12_parish wL_48 rfl ⟨rfl, rfl⟩ rfl (Nat.le_of_ble_eq_true rfl) (by decide) (hr M1 N1 (hR.same hf0)) rfl ?_
  rintro _ _ ⟨M2, N2, rfl, rfl, hR2, hf2⟩
  show Go (mmL nm) _ _ _ 405 [(0, .ref 1000000), (1, .ref 0), (2, .ref 189), (3, .int (nI i))] [.int r, .int r] (SK, M2, N2) _
  refine g_icmp_eq (tgt := 1232) (pc' := 408) dL_law_405 (by decide) rfl (fun hc => ?_) (fun hc => (absurd rfl hc))
  refine g_iinc (j := 3) (v := nI (i + 6)) (L' := [(0, .ref 1000000), (1, .ref 0), (2, .ref 189), (3, .int (nI (i + 6)))]) (pc' := 1235) dL_law_1232 rfl (nI_add i 6) (Nat.le_of_ble_eq_true rfl) rfl rfl ?_
  refine g_goto (tgt := 18) dL_law_1235 (by decide) ?_
  exact kk A2 M2 N2 hA2 (hC1.same (fun a ha => hf2 a (Or.inl ha))) hR2 (fun a ha => ((hf2 a (Or.inr ha)).1).trans (hf1 a (by omega)))
set_option maxRecDepth 100000 in
set_option maxHeartbeats 1000000 in
theorem lc_8 {nm : String} {L i : Nat} {M : Nat → Nat → Int32} {N : Nat → Nat → Int64} {A : AS} {Q : AQ} (hi : i + 6 ≤ L) (hL : L ≤ 384) (hM : M 1000001 0 = nI L) (hA : AOk A) (hC : CI M N A) (hR : RI M N A) (kk : ∀ (A' : AS) (M' : Nat → Nat → Int32) (N' : Nat → Nat → Int64), AOk A' → CI M' N' A' → RI M' N' A' → (∀ a, 202 ≤ a → M' a = M a) → Go (mmL nm) 31 0 0 18 [(0, .ref 1000000), (1, .ref 0), (2, .ref 189), (3, .int (nI (i + 6)))] [] (SK, M', N') Q) : Go (mmL nm) 31 0 0 33 [(0, .ref 1000000), (1, .ref 0), (2, .ref 189), (3, .int (nI i))] [.int (nI 8)] (SK, M, N) Q := by
  refine g_tblIn (off := 377) (tgt := 410) dL_law_33 (by decide) (by decide) (by decide) (by decide) ?_
  refine g_aload_n (j := 1) (pc' := 411) dL_law_410 rfl rfl ?_
  refine g_aload_n (j := 0) (pc' := 412) dL_law_411 rfl rfl ?_
  refine g_iload_n (j := 3) (pc' := 413) dL_law_412 rfl rfl ?_
  refine g_iconst (v := 1) (pc' := 414) dL_law_413 (by decide) rfl ?_
  refine g_iadd (pc' := 415) dL_law_414 rfl ?_
  refine g_sld (n := i + 1) (pc' := 416) dL_law_415 hM (by omega) (nI_addE rfl rfl) (by omega) rfl ?_
  obtain ⟨r, A2, hc, hr, hA2⟩ := op_count hA (M 1000000 (i + 1))
  refine g_callV (my := mX11_count) (k := 0) (st := []) (av := [.int (M 1000000 (i + 1))]) (mcr := 0) (msr := 0) (mc := 0) (ms := 0) (pc' := 419) dL_law_416 kX11_count wL_49 rfl ⟨rfl, rfl⟩ rfl (Nat.le_of_ble_eq_true rfl) (by decide) (hc M N hC) rfl ?_
  rintro _ _ ⟨M1, N1, rfl, rfl, hC1, hf0⟩
  show Go (mmL nm) _ _ _ 419 [(0, .ref 1000000), (1, .ref 0), (2, .ref 189), (3, .int (nI i))] [.int r] (SK, M1, N1) _
  have hf1 : ∀ a, 189 ≤ a → M1 a = M a := fun a ha => (hf0 a ha).1
  have hM1 : M1 1000001 0 = nI L := by rw [hf1 1000001 (by omega)]; exact hM
  refine g_aload_n (j := 2) (pc' := 420) dL_law_419 rfl rfl ?_
  refine g_aload_n (j := 0) (pc' := 421) dL_law_420 rfl rfl ?_
  refine g_iload_n (j := 3) (pc' := 422) dL_law_421 rfl rfl ?_
  refine g_iconst (v := 1) (pc' := 423) dL_law_422 (by decide) rfl ?_
  refine g_iadd (pc' := 424) dL_law_423 rfl ?_
  refine g_sld (n := i + 1) (pc' := 425) dL_law_424 hM1 (by omega) (nI_addE rfl rfl) (by omega) rfl ?_
  refine g_top (y := M 1000000 (i + 1)) (by rw [hf1 1000000 (by omega)]) ?_
  refine g_callV (my := mX12_count) (k := 189) (st := [.int r]) (av := [.int (M 1000000 (i + 1))]) (mcr := 0) (msr := 0) (mc := 0) (ms := 0) (pc' := 428) dL_law_425 kX12_count wL_52 rfl ⟨rfl, rfl⟩ rfl (Nat.le_of_ble_eq_true rfl) (by decide) (hr M1 N1 (hR.same hf0)) rfl ?_
  rintro _ _ ⟨M2, N2, rfl, rfl, hR2, hf2⟩
  show Go (mmL nm) _ _ _ 428 [(0, .ref 1000000), (1, .ref 0), (2, .ref 189), (3, .int (nI i))] [.int r, .int r] (SK, M2, N2) _
  refine g_icmp_eq (tgt := 1232) (pc' := 431) dL_law_428 (by decide) rfl (fun hc => ?_) (fun hc => (absurd rfl hc))
  refine g_iinc (j := 3) (v := nI (i + 6)) (L' := [(0, .ref 1000000), (1, .ref 0), (2, .ref 189), (3, .int (nI (i + 6)))]) (pc' := 1235) dL_law_1232 rfl (nI_add i 6) (Nat.le_of_ble_eq_true rfl) rfl rfl ?_
  refine g_goto (tgt := 18) dL_law_1235 (by decide) ?_
  exact kk A2 M2 N2 hA2 (hC1.same (fun a ha => hf2 a (Or.inl ha))) hR2 (fun a ha => ((hf2 a (Or.inr ha)).1).trans (hf1 a (by omega)))
set_option maxRecDepth 100000 in
set_option maxHeartbeats 1000000 in
theorem lc_9 {nm : String} {L i : Nat} {M : Nat → Nat → Int32} {N : Nat → Nat → Int64} {A : AS} {Q : AQ} (hi : i + 6 ≤ L) (hL : L ≤ 384) (hM : M 1000001 0 = nI L) (hA : AOk A) (hC : CI M N A) (hR : RI M N A) (kk : ∀ (A' : AS) (M' : Nat → Nat → Int32) (N' : Nat → Nat → Int64), AOk A' → CI M' N' A' → RI M' N' A' → (∀ a, 202 ≤ a → M' a = M a) → Go (mmL nm) 31 0 0 18 [(0, .ref 1000000), (1, .ref 0), (2, .ref 189), (3, .int (nI (i + 6)))] [] (SK, M', N') Q) : Go (mmL nm) 31 0 0 33 [(0, .ref 1000000), (1, .ref 0), (2, .ref 189), (3, .int (nI i))] [.int (nI 9)] (SK, M, N) Q := by
  refine g_tblIn (off := 400) (tgt := 433) dL_law_33 (by decide) (by decide) (by decide) (by decide) ?_
  refine g_aload_n (j := 1) (pc' := 434) dL_law_433 rfl rfl ?_
  refine g_aload_n (j := 0) (pc' := 435) dL_law_434 rfl rfl ?_
  refine g_iload_n (j := 3) (pc' := 436) dL_law_435 rfl rfl ?_
  refine g_iconst (v := 1) (pc' := 437) dL_law_436 (by decide) rfl ?_
  refine g_iadd (pc' := 438) dL_law_437 rfl ?_
  refine g_sld (n := i + 1) (pc' := 439) dL_law_438 hM (by omega) (nI_addE rfl rfl) (by omega) rfl ?_
  obtain ⟨r, A2, hc, hr, hA2⟩ := op_marches hA (M 1000000 (i + 1))
  refine g_callV (my := mX11_marches) (k := 0) (st := []) (av := [.int (M 1000000 (i + 1))]) (mcr := 0) (msr := 0) (mc := 0) (ms := 0) (pc' := 442) dL_law_439 kX11_marches wL_53 rfl ⟨rfl, rfl⟩ rfl (Nat.le_of_ble_eq_true rfl) (by decide) (hc M N hC) rfl ?_
  rintro _ _ ⟨M1, N1, rfl, rfl, hC1, hf0⟩
  show Go (mmL nm) _ _ _ 442 [(0, .ref 1000000), (1, .ref 0), (2, .ref 189), (3, .int (nI i))] [.int r] (SK, M1, N1) _
  have hf1 : ∀ a, 189 ≤ a → M1 a = M a := fun a ha => (hf0 a ha).1
  have hM1 : M1 1000001 0 = nI L := by rw [hf1 1000001 (by omega)]; exact hM
  refine g_aload_n (j := 2) (pc' := 443) dL_law_442 rfl rfl ?_
  refine g_aload_n (j := 0) (pc' := 444) dL_law_443 rfl rfl ?_
  refine g_iload_n (j := 3) (pc' := 445) dL_law_444 rfl rfl ?_
  refine g_iconst (v := 1) (pc' := 446) dL_law_445 (by decide) rfl ?_
  refine g_iadd (pc' := 447) dL_law_446 rfl ?_
  refine g_sld (n := i + 1) (pc' := 448) dL_law_447 hM1 (by omega) (nI_addE rfl rfl) (by omega) rfl ?_
  refine g_top (y := M 1000000 (i + 1)) (by rw [hf1 1000000 (by omega)]) ?_
  refine g_callV (my := mX12_marches) (k := 189) (st := [.int r]) (av := [.int (M 1000000 (i + 1))]) (mcr := 0) (msr := 0) (mc := 0) (ms := 0) (pc' := 451) dL_law_448 kX12_marches wL_56 rfl ⟨rfl, rfl⟩ rfl (Nat.le_of_ble_eq_true rfl) (by decide) (hr M1 N1 (hR.same hf0)) rfl ?_
  rintro _ _ ⟨M2, N2, rfl, rfl, hR2, hf2⟩
  show Go (mmL nm) _ _ _ 451 [(0, .ref 1000000), (1, .ref 0), (2, .ref 189), (3, .int (nI i))] [.int r, .int r] (SK, M2, N2) _
  refine g_icmp_eq (tgt := 1232) (pc' := 454) dL_law_451 (by decide) rfl (fun hc => ?_) (fun hc => (absurd rfl hc))
  refine g_iinc (j := 3) (v := nI (i + 6)) (L' := [(0, .ref 1000000), (1, .ref 0), (2, .ref 189), (3, .int (nI (i + 6)))]) (pc' := 1235) dL_law_1232 rfl (nI_add i 6) (Nat.le_of_ble_eq_true rfl) rfl rfl ?_
  refine g_goto (tgt := 18) dL_law_1235 (by decide) ?_
  exact kk A2 M2 N2 hA2 (hC1.same (fun a ha => hf2 a (Or.inl ha))) hR2 (fun a ha => ((hf2 a (Or.inr ha)).1).trans (hf1 a (by omega)))
set_option maxRecDepth 100000 in
set_option maxHeartbeats 1000000 in
theorem lc_10 {nm : String} {L i : Nat} {M : Nat → Nat → Int32} {N : Nat → Nat → Int64} {A : AS} {Q : AQ} (hi : i + 6 ≤ L) (hL : L ≤ 384) (hM : M 1000001 0 = nI L) (hA : AOk A) (hC : CI M N A) (hR : RI M N A) (kk : ∀ (A' : AS) (M' : Nat → Nat → Int32) (N' : Nat → Nat → Int64), AOk A' → CI M' N' A' → RI M' N' A' → (∀ a, 202 ≤ a → M' a = M a) → Go (mmL nm) 31 0 0 18 [(0, .ref 1000000), (1, .ref 0), (2, .ref 189), (3, .int (nI (i + 6)))] [] (SK, M', N') Q) : Go (mmL nm) 31 0 0 33 [(0, .ref 1000000), (1, .ref 0), (2, .ref 189), (3, .int (nI i))] [.int (nI 10)] (SK, M, N) Q := by
  refine g_tblIn (off := 423) (tgt := 456) dL_law_33 (by decide) (by decide) (by decide) (by decide) ?_
  refine g_aload_n (j := 1) (pc' := 457) dL_law_456 rfl rfl ?_
  refine g_aload_n (j := 0) (pc' := 458) dL_law_457 rfl rfl ?_
  refine g_iload_n (j := 3) (pc' := 459) dL_law_458 rfl rfl ?_
  refine g_iconst (v := 1) (pc' := 460) dL_law_459 (by decide) rfl ?_
  refine g_iadd (pc' := 461) dL_law_460 rfl ?_
  refine g_sld (n := i + 1) (pc' := 462) dL_law_461 hM (by omega) (nI_addE rfl rfl) (by omega) rfl ?_
  obtain ⟨r, A2, hc, hr, hA2⟩ := op_train hA (M 1000000 (i + 1))
  refine g_callV (my := mX11_train) (k := 0) (st := []) (av := [.int (M 1000000 (i + 1))]) (mcr := 0) (msr := 0) (mc := 0) (ms := 0) (pc' := 465) dL_law_462 kX11_train wL_57 rfl ⟨rfl, rfl⟩ rfl (Nat.le_of_ble_eq_true rfl) (by decide) (hc M N hC) rfl ?_
  rintro _ _ ⟨M1, N1, rfl, rfl, hC1, hf0⟩
  show Go (mmL nm) _ _ _ 465 [(0, .ref 1000000), (1, .ref 0), (2, .ref 189), (3, .int (nI i))] [.int r] (SK, M1, N1) _
  have hf1 : ∀ a, 189 ≤ a → M1 a = M a := fun a ha => (hf0 a ha).1
  have hM1 : M1 1000001 0 = nI L := by rw [hf1 1000001 (by omega)]; exact hM
  refine g_aload_n (j := 2) (pc' := 466) dL_law_465 rfl rfl ?_
  refine g_aload_n (j := 0) (pc' := 467) dL_law_466 rfl rfl ?_
  refine g_iload_n (j := 3) (pc' := 468) dL_law_467 rfl rfl ?_
  refine g_iconst (v := 1) (pc' := 469) dL_law_468 (by decide) rfl ?_
  refine g_iadd (pc' := 470) dL_law_469 rfl ?_
  refine g_sld (n := i + 1) (pc' := 471) dL_law_470 hM1 (by omega) (nI_addE rfl rfl) (by omega) rfl ?_
  refine g_top (y := M 1000000 (i + 1)) (by rw [hf1 1000000 (by omega)]) ?_
  refine g_callV (my := mX12_train) (k := 189) (st := [.int r]) (av := [.int (M 1000000 (i + 1))]) (mcr := 0) (msr := 0) (mc := 0) (ms := 0) (pc' := 474) dL_law_471 kX12_train wL_60 rfl ⟨rfl, rfl⟩ rfl (Nat.le_of_ble_eq_true rfl) (by decide) (hr M1 N1 (hR.same hf0)) rfl ?_
  rintro _ _ ⟨M2, N2, rfl, rfl, hR2, hf2⟩
  show Go (mmL nm) _ _ _ 474 [(0, .ref 1000000), (1, .ref 0), (2, .ref 189), (3, .int (nI i))] [.int r, .int r] (SK, M2, N2) _
  refine g_icmp_eq (tgt := 1232) (pc' := 477) dL_law_474 (by decide) rfl (fun hc => ?_) (fun hc => (absurd rfl hc))
  refine g_iinc (j := 3) (v := nI (i + 6)) (L' := [(0, .ref 1000000), (1, .ref 0), (2, .ref 189), (3, .int (nI (i + 6)))]) (pc' := 1235) dL_law_1232 rfl (nI_add i 6) (Nat.le_of_ble_eq_true rfl) rfl rfl ?_
  refine g_goto (tgt := 18) dL_law_1235 (by decide) ?_
  exact kk A2 M2 N2 hA2 (hC1.same (fun a ha => hf2 a (Or.inl ha))) hR2 (fun a ha => ((hf2 a (Or.inr ha)).1).trans (hf1 a (by omega)))
set_option maxRecDepth 100000 in
set_option maxHeartbeats 1000000 in
theorem lc_11 {nm : String} {L i : Nat} {M : Nat → Nat → Int32} {N : Nat → Nat → Int64} {A : AS} {Q : AQ} (hi : i + 6 ≤ L) (hL : L ≤ 384) (hM : M 1000001 0 = nI L) (hA : AOk A) (hC : CI M N A) (hR : RI M N A) (kk : ∀ (A' : AS) (M' : Nat → Nat → Int32) (N' : Nat → Nat → Int64), AOk A' → CI M' N' A' → RI M' N' A' → (∀ a, 202 ≤ a → M' a = M a) → Go (mmL nm) 31 0 0 18 [(0, .ref 1000000), (1, .ref 0), (2, .ref 189), (3, .int (nI (i + 6)))] [] (SK, M', N') Q) : Go (mmL nm) 31 0 0 33 [(0, .ref 1000000), (1, .ref 0), (2, .ref 189), (3, .int (nI i))] [.int (nI 11)] (SK, M, N) Q := by
  refine g_tblIn (off := 446) (tgt := 479) dL_law_33 (by decide) (by decide) (by decide) (by decide) ?_
  refine g_aload_n (j := 1) (pc' := 480) dL_law_479 rfl rfl ?_
  refine g_aload_n (j := 0) (pc' := 481) dL_law_480 rfl rfl ?_
  refine g_iload_n (j := 3) (pc' := 482) dL_law_481 rfl rfl ?_
  refine g_iconst (v := 1) (pc' := 483) dL_law_482 (by decide) rfl ?_
  refine g_iadd (pc' := 484) dL_law_483 rfl ?_
  refine g_sld (n := i + 1) (pc' := 485) dL_law_484 hM (by omega) (nI_addE rfl rfl) (by omega) rfl ?_
  refine g_aload_n (j := 0) (pc' := 486) dL_law_485 rfl rfl ?_
  refine g_iload_n (j := 3) (pc' := 487) dL_law_486 rfl rfl ?_
  refine g_iconst (v := 2) (pc' := 488) dL_law_487 (by decide) rfl ?_
  refine g_iadd (pc' := 489) dL_law_488 rfl ?_
  refine g_sld (n := i + 2) (pc' := 490) dL_law_489 hM (by omega) (nI_addE rfl rfl) (by omega) rfl ?_
  obtain ⟨r, A2, hc, hr, hA2⟩ := op_hire hA (M 1000000 (i + 1)) (M 1000000 (i + 2))
  refine g_callV (my := mX11_hire) (k := 0) (st := []) (av := [.int (M 1000000 (i + 1)), .int (M 1000000 (i + 2))]) (mcr := 0) (msr := 0) (mc := 0) (ms := 0) (pc' := 493) dL_law_490 kX11_hire wL_61 rfl ⟨rfl, rfl⟩ rfl (Nat.le_of_ble_eq_true rfl) (by decide) (hc M N hC) rfl ?_
  rintro _ _ ⟨M1, N1, rfl, rfl, hC1, hf0⟩
  show Go (mmL nm) _ _ _ 493 [(0, .ref 1000000), (1, .ref 0), (2, .ref 189), (3, .int (nI i))] [.int r] (SK, M1, N1) _
  have hf1 : ∀ a, 189 ≤ a → M1 a = M a := fun a ha => (hf0 a ha).1
  have hM1 : M1 1000001 0 = nI L := by rw [hf1 1000001 (by omega)]; exact hM
  refine g_aload_n (j := 2) (pc' := 494) dL_law_493 rfl rfl ?_
  refine g_aload_n (j := 0) (pc' := 495) dL_law_494 rfl rfl ?_
  refine g_iload_n (j := 3) (pc' := 496) dL_law_495 rfl rfl ?_
  refine g_iconst (v := 1) (pc' := 497) dL_law_496 (by decide) rfl ?_
  refine g_iadd (pc' := 498) dL_law_497 rfl ?_
  refine g_sld (n := i + 1) (pc' := 499) dL_law_498 hM1 (by omega) (nI_addE rfl rfl) (by omega) rfl ?_
  refine g_top (y := M 1000000 (i + 1)) (by rw [hf1 1000000 (by omega)]) ?_
  refine g_aload_n (j := 0) (pc' := 500) dL_law_499 rfl rfl ?_
  refine g_iload_n (j := 3) (pc' := 501) dL_law_500 rfl rfl ?_
  refine g_iconst (v := 2) (pc' := 502) dL_law_501 (by decide) rfl ?_
  refine g_iadd (pc' := 503) dL_law_502 rfl ?_
  refine g_sld (n := i + 2) (pc' := 504) dL_law_503 hM1 (by omega) (nI_addE rfl rfl) (by omega) rfl ?_
  refine g_top (y := M 1000000 (i + 2)) (by rw [hf1 1000000 (by omega)]) ?_
  refine g_callV (my := mX12_hire) (k := 189) (st := [.int r]) (av := [.int (M 1000000 (i + 1)), .int (M 1000000 (i + 2))]) (mcr := 0) (msr := 0) (mc := 0) (ms := 0) (pc' := 507) dL_law_504 kX12_hire wL_64 rfl ⟨rfl, rfl⟩ rfl (Nat.le_of_ble_eq_true rfl) (by decide) (hr M1 N1 (hR.same hf0)) rfl ?_
  rintro _ _ ⟨M2, N2, rfl, rfl, hR2, hf2⟩
  show Go (mmL nm) _ _ _ 507 [(0, .ref 1000000), (1, .ref 0), (2, .ref 189), (3, .int (nI i))] [.int r, .int r] (SK, M2, N2) _
  refine g_icmp_eq (tgt := 1232) (pc' := 510) dL_law_507 (by decide) rfl (fun hc => ?_) (fun hc => (absurd rfl hc))
  refine g_iinc (j := 3) (v := nI (i + 6)) (L' := [(0, .ref 1000000), (1, .ref 0), (2, .ref 189), (3, .int (nI (i + 6)))]) (pc' := 1235) dL_law_1232 rfl (nI_add i 6) (Nat.le_of_ble_eq_true rfl) rfl rfl ?_
  refine g_goto (tgt := 18) dL_law_1235 (by decide) ?_
  exact kk A2 M2 N2 hA2 (hC1.same (fun a ha => hf2 a (Or.inl ha))) hR2 (fun a ha => ((hf2 a (Or.inr ha)).1).trans (hf1 a (by omega)))
set_option maxRecDepth 100000 in
set_option maxHeartbeats 1000000 in
theorem lc_12 {nm : String} {L i : Nat} {M : Nat → Nat → Int32} {N : Nat → Nat → Int64} {A : AS} {Q : AQ} (hi : i + 6 ≤ L) (hL : L ≤ 384) (hM : M 1000001 0 = nI L) (hA : AOk A) (hC : CI M N A) (hR : RI M N A) (kk : ∀ (A' : AS) (M' : Nat → Nat → Int32) (N' : Nat → Nat → Int64), AOk A' → CI M' N' A' → RI M' N' A' → (∀ a, 202 ≤ a → M' a = M a) → Go (mmL nm) 31 0 0 18 [(0, .ref 1000000), (1, .ref 0), (2, .ref 189), (3, .int (nI (i + 6)))] [] (SK, M', N') Q) : Go (mmL nm) 31 0 0 33 [(0, .ref 1000000), (1, .ref 0), (2, .ref 189), (3, .int (nI i))] [.int (nI 12)] (SK, M, N) Q := by
  refine g_tblIn (off := 479) (tgt := 512) dL_law_33 (by decide) (by decide) (by decide) (by decide) ?_
  refine g_aload_n (j := 1) (pc' := 513) dL_law_512 rfl rfl ?_
  refine g_aload_n (j := 0) (pc' := 514) dL_law_513 rfl rfl ?_
  refine g_iload_n (j := 3) (pc' := 515) dL_law_514 rfl rfl ?_
  refine g_iconst (v := 1) (pc' := 516) dL_law_515 (by decide) rfl ?_
  refine g_iadd (pc' := 517) dL_law_516 rfl ?_
  refine g_sld (n := i + 1) (pc' := 518) dL_law_517 hM (by omega) (nI_addE rfl rfl) (by omega) rfl ?_
  refine g_aload_n (j := 0) (pc' := 519) dL_law_518 rfl rfl ?_
  refine g_iload_n (j := 3) (pc' := 520) dL_law_519 rfl rfl ?_
  refine g_iconst (v := 2) (pc' := 521) dL_law_520 (by decide) rfl ?_
  refine g_iadd (pc' := 522) dL_law_521 rfl ?_
  refine g_sld (n := i + 2) (pc' := 523) dL_law_522 hM (by omega) (nI_addE rfl rfl) (by omega) rfl ?_
  obtain ⟨r, A2, hc, hr, hA2⟩ := op_swap hA (M 1000000 (i + 1)) (M 1000000 (i + 2))
  refine g_callV (my := mX11_swap) (k := 0) (st := []) (av := [.int (M 1000000 (i + 1)), .int (M 1000000 (i + 2))]) (mcr := 0) (msr := 0) (mc := 0) (ms := 0) (pc' := 526) dL_law_523 kX11_swap wL_65 rfl ⟨rfl, rfl⟩ rfl (Nat.le_of_ble_eq_true rfl) (by decide) (hc M N hC) rfl ?_
  rintro _ _ ⟨M1, N1, rfl, rfl, hC1, hf0⟩
  show Go (mmL nm) _ _ _ 526 [(0, .ref 1000000), (1, .ref 0), (2, .ref 189), (3, .int (nI i))] [.int r] (SK, M1, N1) _
  have hf1 : ∀ a, 189 ≤ a → M1 a = M a := fun a ha => (hf0 a ha).1
  have hM1 : M1 1000001 0 = nI L := by rw [hf1 1000001 (by omega)]; exact hM
  refine g_aload_n (j := 2) (pc' := 527) dL_law_526 rfl rfl ?_
  refine g_aload_n (j := 0) (pc' := 528) dL_law_527 rfl rfl ?_
  refine g_iload_n (j := 3) (pc' := 529) dL_law_528 rfl rfl ?_
  refine g_iconst (v := 1) (pc' := 530) dL_law_529 (by decide) rfl ?_
  refine g_iadd (pc' := 531) dL_law_530 rfl ?_
  refine g_sld (n := i + 1) (pc' := 532) dL_law_531 hM1 (by omega) (nI_addE rfl rfl) (by omega) rfl ?_
  refine g_top (y := M 1000000 (i + 1)) (by rw [hf1 1000000 (by omega)]) ?_
  refine g_aload_n (j := 0) (pc' := 533) dL_law_532 rfl rfl ?_
  refine g_iload_n (j := 3) (pc' := 534) dL_law_533 rfl rfl ?_
  refine g_iconst (v := 2) (pc' := 535) dL_law_534 (by decide) rfl ?_
  refine g_iadd (pc' := 536) dL_law_535 rfl ?_
  refine g_sld (n := i + 2) (pc' := 537) dL_law_536 hM1 (by omega) (nI_addE rfl rfl) (by omega) rfl ?_
  refine g_top (y := M 1000000 (i + 2)) (by rw [hf1 1000000 (by omega)]) ?_
  refine g_callV (my := mX12_swap) (k := 189) (st := [.int r]) (av := [.int (M 1000000 (i + 1)), .int (M 1000000 (i + 2))]) (mcr := 0) (msr := 0) (mc := 0) (ms := 0) (pc' := 540) dL_law_537 kX12_swap wL_68 rfl ⟨rfl, rfl⟩ rfl (Nat.le_of_ble_eq_true rfl) (by decide) (hr M1 N1 (hR.same hf0)) rfl ?_
  rintro _ _ ⟨M2, N2, rfl, rfl, hR2, hf2⟩
  show Go (mmL nm) _ _ _ 540 [(0, .ref 1000000), (1, .ref 0), (2, .ref 189), (3, .int (nI i))] [.int r, .int r] (SK, M2, N2) _
  refine g_icmp_eq (tgt := 1232) (pc' := 543) dL_law_540 (by decide) rfl (fun hc => ?_) (fun hc => (absurd rfl hc))
  refine g_iinc (j := 3) (v := nI (i + 6)) (L' := [(0, .ref 1000000), (1, .ref 0), (2, .ref 189), (3, .int (nI (i + 6)))]) (pc' := 1235) dL_law_1232 rfl (nI_add i 6) (Nat.le_of_ble_eq_true rfl) rfl rfl ?_
  refine g_goto (tgt := 18) dL_law_1235 (by decide) ?_
  exact kk A2 M2 N2 hA2 (hC1.same (fun a ha => hf2 a (Or.inl ha))) hR2 (fun a ha => ((hf2 a (Or.inr ha)).1).trans (hf1 a (by omega)))
set_option maxRecDepth 100000 in
set_option maxHeartbeats 1000000 in
theorem lc_13 {nm : String} {L i : Nat} {M : Nat → Nat → Int32} {N : Nat → Nat → Int64} {A : AS} {Q : AQ} (hi : i + 6 ≤ L) (hL : L ≤ 384) (hM : M 1000001 0 = nI L) (hA : AOk A) (hC : CI M N A) (hR : RI M N A) (kk : ∀ (A' : AS) (M' : Nat → Nat → Int32) (N' : Nat → Nat → Int64), AOk A' → CI M' N' A' → RI M' N' A' → (∀ a, 202 ≤ a → M' a = M a) → Go (mmL nm) 31 0 0 18 [(0, .ref 1000000), (1, .ref 0), (2, .ref 189), (3, .int (nI (i + 6)))] [] (SK, M', N') Q) : Go (mmL nm) 31 0 0 33 [(0, .ref 1000000), (1, .ref 0), (2, .ref 189), (3, .int (nI i))] [.int (nI 13)] (SK, M, N) Q := by
  refine g_tblIn (off := 512) (tgt := 545) dL_law_33 (by decide) (by decide) (by decide) (by decide) ?_
  refine g_aload_n (j := 1) (pc' := 546) dL_law_545 rfl rfl ?_
  refine g_aload_n (j := 0) (pc' := 547) dL_law_546 rfl rfl ?_
  refine g_iload_n (j := 3) (pc' := 548) dL_law_547 rfl rfl ?_
  refine g_iconst (v := 1) (pc' := 549) dL_law_548 (by decide) rfl ?_
  refine g_iadd (pc' := 550) dL_law_549 rfl ?_
  refine g_sld (n := i + 1) (pc' := 551) dL_law_550 hM (by omega) (nI_addE rfl rfl) (by omega) rfl ?_
  obtain ⟨r, A2, hc, hr, hA2⟩ := op_drift hA (M 1000000 (i + 1))
  refine g_callV (my := mX11_drift) (k := 0) (st := []) (av := [.int (M 1000000 (i + 1))]) (mcr := 0) (msr := 0) (mc := 0) (ms := 0) (pc' := 554) dL_law_551 kX11_drift wL_69 rfl ⟨rfl, rfl⟩ rfl (Nat.le_of_ble_eq_true rfl) (by decide) (hc M N hC) rfl ?_
  rintro _ _ ⟨M1, N1, rfl, rfl, hC1, hf0⟩
  show Go (mmL nm) _ _ _ 554 [(0, .ref 1000000), (1, .ref 0), (2, .ref 189), (3, .int (nI i))] [.int r] (SK, M1, N1) _
  have hf1 : ∀ a, 189 ≤ a → M1 a = M a := fun a ha => (hf0 a ha).1
  have hM1 : M1 1000001 0 = nI L := by rw [hf1 1000001 (by omega)]; exact hM
  refine g_aload_n (j := 2) (pc' := 555) dL_law_554 rfl rfl ?_
  refine g_aload_n (j := 0) (pc' := 556) dL_law_555 rfl rfl ?_
  refine g_iload_n (j := 3) (pc' := 557) dL_law_556 rfl rfl ?_
  refine g_iconst (v := 1) (pc' := 558) dL_law_557 (by decide) rfl ?_
  refine g_iadd (pc' := 559) dL_law_558 rfl ?_
  refine g_sld (n := i + 1) (pc' := 560) dL_law_559 hM1 (by omega) (nI_addE rfl rfl) (by omega) rfl ?_
  refine g_top (y := M 1000000 (i + 1)) (by rw [hf1 1000000 (by omega)]) ?_
  refine g_callV (my := mX12_drift) (k := 189) (st := [.int r]) (av := [.int (M 1000000 (i + 1))]) (mcr := 0) (msr := 0) (mc := 0) (ms := 0) (pc' := 563) dL_law_560 kX12_drift wL_72 rfl ⟨rfl, rfl⟩ rfl (Nat.le_of_ble_eq_true rfl) (by decide) (hr M1 N1 (hR.same hf0)) rfl ?_
  rintro _ _ ⟨M2, N2, rfl, rfl, hR2, hf2⟩
  show Go (mmL nm) _ _ _ 563 [(0, .ref 1000000), (1, .ref 0), (2, .ref 189), (3, .int (nI i))] [.int r, .int r] (SK, M2, N2) _
  refine g_icmp_eq (tgt := 1232) (pc' := 566) dL_law_563 (by decide) rfl (fun hc => ?_) (fun hc => (absurd rfl hc))
  refine g_iinc (j := 3) (v := nI (i + 6)) (L' := [(0, .ref 1000000), (1, .ref 0), (2, .ref 189), (3, .int (nI (i + 6)))]) (pc' := 1235) dL_law_1232 rfl (nI_add i 6) (Nat.le_of_ble_eq_true rfl) rfl rfl ?_
  refine g_goto (tgt := 18) dL_law_1235 (by decide) ?_
  exact kk A2 M2 N2 hA2 (hC1.same (fun a ha => hf2 a (Or.inl ha))) hR2 (fun a ha => ((hf2 a (Or.inr ha)).1).trans (hf1 a (by omega)))
set_option maxRecDepth 100000 in
set_option maxHeartbeats 1000000 in
theorem lc_14 {nm : String} {L i : Nat} {M : Nat → Nat → Int32} {N : Nat → Nat → Int64} {A : AS} {Q : AQ} (hi : i + 6 ≤ L) (hL : L ≤ 384) (hM : M 1000001 0 = nI L) (hA : AOk A) (hC : CI M N A) (hR : RI M N A) (kk : ∀ (A' : AS) (M' : Nat → Nat → Int32) (N' : Nat → Nat → Int64), AOk A' → CI M' N' A' → RI M' N' A' → (∀ a, 202 ≤ a → M' a = M a) → Go (mmL nm) 31 0 0 18 [(0, .ref 1000000), (1, .ref 0), (2, .ref 189), (3, .int (nI (i + 6)))] [] (SK, M', N') Q) : Go (mmL nm) 31 0 0 33 [(0, .ref 1000000), (1, .ref 0), (2, .ref 189), (3, .int (nI i))] [.int (nI 14)] (SK, M, N) Q := by
  refine g_tblIn (off := 535) (tgt := 568) dL_law_33 (by decide) (by decide) (by decide) (by decide) ?_
  refine g_aload_n (j := 1) (pc' := 569) dL_law_568 rfl rfl ?_
  obtain ⟨r, A2, hc, hr, hA2⟩ := op_undo hA 
  refine g_callV (my := mX11_undo) (k := 0) (st := []) (av := []) (mcr := 0) (msr := 0) (mc := 0) (ms := 0) (pc' := 572) dL_law_569 kX11_undo wL_73 rfl ⟨rfl, rfl⟩ rfl (Nat.le_of_ble_eq_true rfl) (by decide) (hc M N hC) rfl ?_
  rintro _ _ ⟨M1, N1, rfl, rfl, hC1, hf0⟩
  show Go (mmL nm) _ _ _ 572 [(0, .ref 1000000), (1, .ref 0), (2, .ref 189), (3, .int (nI i))] [.int r] (SK, M1, N1) _
  have hf1 : ∀ a, 189 ≤ a → M1 a = M a := fun a ha => (hf0 a ha).1
  have hM1 : M1 1000001 0 = nI L := by rw [hf1 1000001 (by omega)]; exact hM
  refine g_aload_n (j := 2) (pc' := 573) dL_law_572 rfl rfl ?_
  refine g_callV (my := mX12_undo) (k := 189) (st := [.int r]) (av := []) (mcr := 0) (msr := 0) (mc := 0) (ms := 0) (pc' := 576) dL_law_573 kX12_undo wL_76 rfl ⟨rfl, rfl⟩ rfl (Nat.le_of_ble_eq_true rfl) (by decide) (hr M1 N1 (hR.same hf0)) rfl ?_
  rintro _ _ ⟨M2, N2, rfl, rfl, hR2, hf2⟩
  show Go (mmL nm) _ _ _ 576 [(0, .ref 1000000), (1, .ref 0), (2, .ref 189), (3, .int (nI i))] [.int r, .int r] (SK, M2, N2) _
  refine g_icmp_eq (tgt := 1232) (pc' := 579) dL_law_576 (by decide) rfl (fun hc => ?_) (fun hc => (absurd rfl hc))
  refine g_iinc (j := 3) (v := nI (i + 6)) (L' := [(0, .ref 1000000), (1, .ref 0), (2, .ref 189), (3, .int (nI (i + 6)))]) (pc' := 1235) dL_law_1232 rfl (nI_add i 6) (Nat.le_of_ble_eq_true rfl) rfl rfl ?_
  refine g_goto (tgt := 18) dL_law_1235 (by decide) ?_
  exact kk A2 M2 N2 hA2 (hC1.same (fun a ha => hf2 a (Or.inl ha))) hR2 (fun a ha => ((hf2 a (Or.inr ha)).1).trans (hf1 a (by omega)))
set_option maxRecDepth 100000 in
set_option maxHeartbeats 1000000 in
theorem lc_15 {nm : String} {L i : Nat} {M : Nat → Nat → Int32} {N : Nat → Nat → Int64} {A : AS} {Q : AQ} (hi : i + 6 ≤ L) (hL : L ≤ 384) (hM : M 1000001 0 = nI L) (hA : AOk A) (hC : CI M N A) (hR : RI M N A) (kk : ∀ (A' : AS) (M' : Nat → Nat → Int32) (N' : Nat → Nat → Int64), AOk A' → CI M' N' A' → RI M' N' A' → (∀ a, 202 ≤ a → M' a = M a) → Go (mmL nm) 31 0 0 18 [(0, .ref 1000000), (1, .ref 0), (2, .ref 189), (3, .int (nI (i + 6)))] [] (SK, M', N') Q) : Go (mmL nm) 31 0 0 33 [(0, .ref 1000000), (1, .ref 0), (2, .ref 189), (3, .int (nI i))] [.int (nI 15)] (SK, M, N) Q := by
  refine g_tblIn (off := 548) (tgt := 581) dL_law_33 (by decide) (by decide) (by decide) (by decide) ?_
  refine g_aload_n (j := 1) (pc' := 582) dL_law_581 rfl rfl ?_
  refine g_aload_n (j := 0) (pc' := 583) dL_law_582 rfl rfl ?_
  refine g_iload_n (j := 3) (pc' := 584) dL_law_583 rfl rfl ?_
  refine g_iconst (v := 1) (pc' := 585) dL_law_584 (by decide) rfl ?_
  refine g_iadd (pc' := 586) dL_law_585 rfl ?_
  refine g_sld (n := i + 1) (pc' := 587) dL_law_586 hM (by omega) (nI_addE rfl rfl) (by omega) rfl ?_
  obtain ⟨r, A2, hc, hr, hA2⟩ := op_seed hA (M 1000000 (i + 1))
  refine g_callV (my := mX11_seed) (k := 0) (st := []) (av := [.int (M 1000000 (i + 1))]) (mcr := 0) (msr := 0) (mc := 0) (ms := 0) (pc' := 590) dL_law_587 kX11_seed wL_77 rfl ⟨rfl, rfl⟩ rfl (Nat.le_of_ble_eq_true rfl) (by decide) (hc M N hC) rfl ?_
  rintro _ _ ⟨M1, N1, rfl, rfl, hC1, hf0⟩
  show Go (mmL nm) _ _ _ 590 [(0, .ref 1000000), (1, .ref 0), (2, .ref 189), (3, .int (nI i))] [.int r] (SK, M1, N1) _
  have hf1 : ∀ a, 189 ≤ a → M1 a = M a := fun a ha => (hf0 a ha).1
  have hM1 : M1 1000001 0 = nI L := by rw [hf1 1000001 (by omega)]; exact hM
  refine g_aload_n (j := 2) (pc' := 591) dL_law_590 rfl rfl ?_
  refine g_aload_n (j := 0) (pc' := 592) dL_law_591 rfl rfl ?_
  refine g_iload_n (j := 3) (pc' := 593) dL_law_592 rfl rfl ?_
  refine g_iconst (v := 1) (pc' := 594) dL_law_593 (by decide) rfl ?_
  refine g_iadd (pc' := 595) dL_law_594 rfl ?_
  refine g_sld (n := i + 1) (pc' := 596) dL_law_595 hM1 (by omega) (nI_addE rfl rfl) (by omega) rfl ?_
  refine g_top (y := M 1000000 (i + 1)) (by rw [hf1 1000000 (by omega)]) ?_
  refine g_callV (my := mX12_seed) (k := 189) (st := [.int r]) (av := [.int (M 1000000 (i + 1))]) (mcr := 0) (msr := 0) (mc := 0) (ms := 0) (pc' := 599) dL_law_596 kX12_seed wL_80 rfl ⟨rfl, rfl⟩ rfl (Nat.le_of_ble_eq_true rfl) (by decide) (hr M1 N1 (hR.same hf0)) rfl ?_
  rintro _ _ ⟨M2, N2, rfl, rfl, hR2, hf2⟩
  show Go (mmL nm) _ _ _ 599 [(0, .ref 1000000), (1, .ref 0), (2, .ref 189), (3, .int (nI i))] [.int r, .int r] (SK, M2, N2) _
  refine g_icmp_eq (tgt := 1232) (pc' := 602) dL_law_599 (by decide) rfl (fun hc => ?_) (fun hc => (absurd rfl hc))
  refine g_iinc (j := 3) (v := nI (i + 6)) (L' := [(0, .ref 1000000), (1, .ref 0), (2, .ref 189), (3, .int (nI (i + 6)))]) (pc' := 1235) dL_law_1232 rfl (nI_add i 6) (Nat.le_of_ble_eq_true rfl) rfl rfl ?_
  refine g_goto (tgt := 18) dL_law_1235 (by decide) ?_
  exact kk A2 M2 N2 hA2 (hC1.same (fun a ha => hf2 a (Or.inl ha))) hR2 (fun a ha => ((hf2 a (Or.inr ha)).1).trans (hf1 a (by omega)))
set_option maxRecDepth 100000 in
set_option maxHeartbeats 1000000 in
theorem lc_16 {nm : String} {L i : Nat} {M : Nat → Nat → Int32} {N : Nat → Nat → Int64} {A : AS} {Q : AQ} (hi : i + 6 ≤ L) (hL : L ≤ 384) (hM : M 1000001 0 = nI L) (hA : AOk A) (hC : CI M N A) (hR : RI M N A) (kk : ∀ (A' : AS) (M' : Nat → Nat → Int32) (N' : Nat → Nat → Int64), AOk A' → CI M' N' A' → RI M' N' A' → (∀ a, 202 ≤ a → M' a = M a) → Go (mmL nm) 31 0 0 18 [(0, .ref 1000000), (1, .ref 0), (2, .ref 189), (3, .int (nI (i + 6)))] [] (SK, M', N') Q) : Go (mmL nm) 31 0 0 33 [(0, .ref 1000000), (1, .ref 0), (2, .ref 189), (3, .int (nI i))] [.int (nI 16)] (SK, M, N) Q := by
  refine g_tblIn (off := 571) (tgt := 604) dL_law_33 (by decide) (by decide) (by decide) (by decide) ?_
  refine g_aload_n (j := 1) (pc' := 605) dL_law_604 rfl rfl ?_
  refine g_aload_n (j := 0) (pc' := 606) dL_law_605 rfl rfl ?_
  refine g_iload_n (j := 3) (pc' := 607) dL_law_606 rfl rfl ?_
  refine g_iconst (v := 1) (pc' := 608) dL_law_607 (by decide) rfl ?_
  refine g_iadd (pc' := 609) dL_law_608 rfl ?_
  refine g_sld (n := i + 1) (pc' := 610) dL_law_609 hM (by omega) (nI_addE rfl rfl) (by omega) rfl ?_
  refine g_aload_n (j := 0) (pc' := 611) dL_law_610 rfl rfl ?_
  refine g_iload_n (j := 3) (pc' := 612) dL_law_611 rfl rfl ?_
  refine g_iconst (v := 2) (pc' := 613) dL_law_612 (by decide) rfl ?_
  refine g_iadd (pc' := 614) dL_law_613 rfl ?_
  refine g_sld (n := i + 2) (pc' := 615) dL_law_614 hM (by omega) (nI_addE rfl rfl) (by omega) rfl ?_
  refine g_aload_n (j := 0) (pc' := 616) dL_law_615 rfl rfl ?_
  refine g_iload_n (j := 3) (pc' := 617) dL_law_616 rfl rfl ?_
  refine g_iconst (v := 3) (pc' := 618) dL_law_617 (by decide) rfl ?_
  refine g_iadd (pc' := 619) dL_law_618 rfl ?_
  refine g_sld (n := i + 3) (pc' := 620) dL_law_619 hM (by omega) (nI_addE rfl rfl) (by omega) rfl ?_
  obtain ⟨r, A2, hc, hr, hA2⟩ := op_ahead hA (M 1000000 (i + 1)) (M 1000000 (i + 2)) (M 1000000 (i + 3))
  refine g_callV (my := mX11_ahead) (k := 0) (st := []) (av := [.int (M 1000000 (i + 1)), .int (M 1000000 (i + 2)), .int (M 1000000 (i + 3))]) (mcr := 0) (msr := 0) (mc := 0) (ms := 0) (pc' := 623) dL_law_620 kX11_ahead wL_81 rfl ⟨rfl, rfl⟩ rfl (Nat.le_of_ble_eq_true rfl) (by decide) (hc M N hC) rfl ?_
  rintro _ _ ⟨M1, N1, rfl, rfl, hC1, hf0⟩
  show Go (mmL nm) _ _ _ 623 [(0, .ref 1000000), (1, .ref 0), (2, .ref 189), (3, .int (nI i))] [.int r] (SK, M1, N1) _
  have hf1 : ∀ a, 189 ≤ a → M1 a = M a := fun a ha => (hf0 a ha).1
  have hM1 : M1 1000001 0 = nI L := by rw [hf1 1000001 (by omega)]; exact hM
  refine g_aload_n (j := 2) (pc' := 624) dL_law_623 rfl rfl ?_
  refine g_aload_n (j := 0) (pc' := 625) dL_law_624 rfl rfl ?_
  refine g_iload_n (j := 3) (pc' := 626) dL_law_625 rfl rfl ?_
  refine g_iconst (v := 1) (pc' := 627) dL_law_626 (by decide) rfl ?_
  refine g_iadd (pc' := 628) dL_law_627 rfl ?_
  refine g_sld (n := i + 1) (pc' := 629) dL_law_628 hM1 (by omega) (nI_addE rfl rfl) (by omega) rfl ?_
  refine g_top (y := M 1000000 (i + 1)) (by rw [hf1 1000000 (by omega)]) ?_
  refine g_aload_n (j := 0) (pc' := 630) dL_law_629 rfl rfl ?_
  refine g_iload_n (j := 3) (pc' := 631) dL_law_630 rfl rfl ?_
  refine g_iconst (v := 2) (pc' := 632) dL_law_631 (by decide) rfl ?_
  refine g_iadd (pc' := 633) dL_law_632 rfl ?_
  refine g_sld (n := i + 2) (pc' := 634) dL_law_633 hM1 (by omega) (nI_addE rfl rfl) (by omega) rfl ?_
  refine g_top (y := M 1000000 (i + 2)) (by rw [hf1 1000000 (by omega)]) ?_
  refine g_aload_n (j := 0) (pc' := 635) dL_law_634 rfl rfl ?_
  refine g_iload_n (j := 3) (pc' := 636) dL_law_635 rfl rfl ?_
  refine g_iconst (v := 3) (pc' := 637) dL_law_636 (by decide) rfl ?_
  refine g_iadd (pc' := 638) dL_law_637 rfl ?_
  refine g_sld (n := i + 3) (pc' := 639) dL_law_638 hM1 (by omega) (nI_addE rfl rfl) (by omega) rfl ?_
  refine g_top (y := M 1000000 (i + 3)) (by rw [hf1 1000000 (by omega)]) ?_
  refine g_callV (my := mX12_ahead) (k := 189) (st := [.int r]) (av := [.int (M 1000000 (i + 1)), .int (M 1000000 (i + 2)), .int (M 1000000 (i + 3))]) (mcr := 0) (msr := 0) (mc := 0) (ms := 0) (pc' := 642) dL_law_639 kX12_ahead wL_84 rfl ⟨rfl, rfl⟩ rfl (Nat.le_of_ble_eq_true rfl) (by decide) (hr M1 N1 (hR.same hf0)) rfl ?_
  rintro _ _ ⟨M2, N2, rfl, rfl, hR2, hf2⟩
  show Go (mmL nm) _ _ _ 642 [(0, .ref 1000000), (1, .ref 0), (2, .ref 189), (3, .int (nI i))] [.int r, .int r] (SK, M2, N2) _
  refine g_icmp_eq (tgt := 1232) (pc' := 645) dL_law_642 (by decide) rfl (fun hc => ?_) (fun hc => (absurd rfl hc))
  refine g_iinc (j := 3) (v := nI (i + 6)) (L' := [(0, .ref 1000000), (1, .ref 0), (2, .ref 189), (3, .int (nI (i + 6)))]) (pc' := 1235) dL_law_1232 rfl (nI_add i 6) (Nat.le_of_ble_eq_true rfl) rfl rfl ?_
  refine g_goto (tgt := 18) dL_law_1235 (by decide) ?_
  exact kk A2 M2 N2 hA2 (hC1.same (fun a ha => hf2 a (Or.inl ha))) hR2 (fun a ha => ((hf2 a (Or.inr ha)).1).trans (hf1 a (by omega)))
set_option maxRecDepth 100000 in
set_option maxHeartbeats 1000000 in
theorem lc_17 {nm : String} {L i : Nat} {M : Nat → Nat → Int32} {N : Nat → Nat → Int64} {A : AS} {Q : AQ} (hi : i + 6 ≤ L) (hL : L ≤ 384) (hM : M 1000001 0 = nI L) (hA : AOk A) (hC : CI M N A) (hR : RI M N A) (kk : ∀ (A' : AS) (M' : Nat → Nat → Int32) (N' : Nat → Nat → Int64), AOk A' → CI M' N' A' → RI M' N' A' → (∀ a, 202 ≤ a → M' a = M a) → Go (mmL nm) 31 0 0 18 [(0, .ref 1000000), (1, .ref 0), (2, .ref 189), (3, .int (nI (i + 6)))] [] (SK, M', N') Q) : Go (mmL nm) 31 0 0 33 [(0, .ref 1000000), (1, .ref 0), (2, .ref 189), (3, .int (nI i))] [.int (nI 17)] (SK, M, N) Q := by
  refine g_tblIn (off := 614) (tgt := 647) dL_law_33 (by decide) (by decide) (by decide) (by decide) ?_
  refine g_aload_n (j := 1) (pc' := 648) dL_law_647 rfl rfl ?_
  refine g_aload_n (j := 0) (pc' := 649) dL_law_648 rfl rfl ?_
  refine g_iload_n (j := 3) (pc' := 650) dL_law_649 rfl rfl ?_
  refine g_iconst (v := 1) (pc' := 651) dL_law_650 (by decide) rfl ?_
  refine g_iadd (pc' := 652) dL_law_651 rfl ?_
  refine g_sld (n := i + 1) (pc' := 653) dL_law_652 hM (by omega) (nI_addE rfl rfl) (by omega) rfl ?_
  refine g_aload_n (j := 0) (pc' := 654) dL_law_653 rfl rfl ?_
  refine g_iload_n (j := 3) (pc' := 655) dL_law_654 rfl rfl ?_
  refine g_iconst (v := 2) (pc' := 656) dL_law_655 (by decide) rfl ?_
  refine g_iadd (pc' := 657) dL_law_656 rfl ?_
  refine g_sld (n := i + 2) (pc' := 658) dL_law_657 hM (by omega) (nI_addE rfl rfl) (by omega) rfl ?_
  refine g_aload_n (j := 0) (pc' := 659) dL_law_658 rfl rfl ?_
  refine g_iload_n (j := 3) (pc' := 660) dL_law_659 rfl rfl ?_
  refine g_iconst (v := 3) (pc' := 661) dL_law_660 (by decide) rfl ?_
  refine g_iadd (pc' := 662) dL_law_661 rfl ?_
  refine g_sld (n := i + 3) (pc' := 663) dL_law_662 hM (by omega) (nI_addE rfl rfl) (by omega) rfl ?_
  obtain ⟨r, A2, hc, hr, hA2⟩ := op_nameAhead hA (M 1000000 (i + 1)) (M 1000000 (i + 2)) (M 1000000 (i + 3))
  refine g_callV (my := mX11_nameAhead) (k := 0) (st := []) (av := [.int (M 1000000 (i + 1)), .int (M 1000000 (i + 2)), .int (M 1000000 (i + 3))]) (mcr := 0) (msr := 0) (mc := 0) (ms := 0) (pc' := 666) dL_law_663 kX11_nameAhead wL_85 rfl ⟨rfl, rfl⟩ rfl (Nat.le_of_ble_eq_true rfl) (by decide) (hc M N hC) rfl ?_
  rintro _ _ ⟨M1, N1, rfl, rfl, hC1, hf0⟩
  show Go (mmL nm) _ _ _ 666 [(0, .ref 1000000), (1, .ref 0), (2, .ref 189), (3, .int (nI i))] [.int r] (SK, M1, N1) _
  have hf1 : ∀ a, 189 ≤ a → M1 a = M a := fun a ha => (hf0 a ha).1
  have hM1 : M1 1000001 0 = nI L := by rw [hf1 1000001 (by omega)]; exact hM
  refine g_aload_n (j := 2) (pc' := 667) dL_law_666 rfl rfl ?_
  refine g_aload_n (j := 0) (pc' := 668) dL_law_667 rfl rfl ?_
  refine g_iload_n (j := 3) (pc' := 669) dL_law_668 rfl rfl ?_
  refine g_iconst (v := 1) (pc' := 670) dL_law_669 (by decide) rfl ?_
  refine g_iadd (pc' := 671) dL_law_670 rfl ?_
  refine g_sld (n := i + 1) (pc' := 672) dL_law_671 hM1 (by omega) (nI_addE rfl rfl) (by omega) rfl ?_
  refine g_top (y := M 1000000 (i + 1)) (by rw [hf1 1000000 (by omega)]) ?_
  refine g_aload_n (j := 0) (pc' := 673) dL_law_672 rfl rfl ?_
  refine g_iload_n (j := 3) (pc' := 674) dL_law_673 rfl rfl ?_
  refine g_iconst (v := 2) (pc' := 675) dL_law_674 (by decide) rfl ?_
  refine g_iadd (pc' := 676) dL_law_675 rfl ?_
  refine g_sld (n := i + 2) (pc' := 677) dL_law_676 hM1 (by omega) (nI_addE rfl rfl) (by omega) rfl ?_
  refine g_top (y := M 1000000 (i + 2)) (by rw [hf1 1000000 (by omega)]) ?_
  refine g_aload_n (j := 0) (pc' := 678) dL_law_677 rfl rfl ?_
  refine g_iload_n (j := 3) (pc' := 679) dL_law_678 rfl rfl ?_
  refine g_iconst (v := 3) (pc' := 680) dL_law_679 (by decide) rfl ?_
  refine g_iadd (pc' := 681) dL_law_680 rfl ?_
  refine g_sld (n := i + 3) (pc' := 682) dL_law_681 hM1 (by omega) (nI_addE rfl rfl) (by omega) rfl ?_
  refine g_top (y := M 1000000 (i + 3)) (by rw [hf1 1000000 (by omega)]) ?_
  refine g_callV (my := mX12_nameAhead) (k := 189) (st := [.int r]) (av := [.int (M 1000000 (i + 1)), .int (M 1000000 (i + 2)), .int (M 1000000 (i + 3))]) (mcr := 0) (msr := 0) (mc := 0) (ms := 0) (pc' := 685) dL_law_682 kX12_nameAhead wL_88 rfl ⟨rfl, rfl⟩ rfl (Nat.le_of_ble_eq_true rfl) (by decide) (hr M1 N1 (hR.same hf0)) rfl ?_
  rintro _ _ ⟨M2, N2, rfl, rfl, hR2, hf2⟩
  show Go (mmL nm) _ _ _ 685 [(0, .ref 1000000), (1, .ref 0), (2, .ref 189), (3, .int (nI i))] [.int r, .int r] (SK, M2, N2) _
  refine g_icmp_eq (tgt := 1232) (pc' := 688) dL_law_685 (by decide) rfl (fun hc => ?_) (fun hc => (absurd rfl hc))
  refine g_iinc (j := 3) (v := nI (i + 6)) (L' := [(0, .ref 1000000), (1, .ref 0), (2, .ref 189), (3, .int (nI (i + 6)))]) (pc' := 1235) dL_law_1232 rfl (nI_add i 6) (Nat.le_of_ble_eq_true rfl) rfl rfl ?_
  refine g_goto (tgt := 18) dL_law_1235 (by decide) ?_
  exact kk A2 M2 N2 hA2 (hC1.same (fun a ha => hf2 a (Or.inl ha))) hR2 (fun a ha => ((hf2 a (Or.inr ha)).1).trans (hf1 a (by omega)))
set_option maxRecDepth 100000 in
set_option maxHeartbeats 1000000 in
theorem lc_18 {nm : String} {L i : Nat} {M : Nat → Nat → Int32} {N : Nat → Nat → Int64} {A : AS} {Q : AQ} (hi : i + 6 ≤ L) (hL : L ≤ 384) (hM : M 1000001 0 = nI L) (hA : AOk A) (hC : CI M N A) (hR : RI M N A) (kk : ∀ (A' : AS) (M' : Nat → Nat → Int32) (N' : Nat → Nat → Int64), AOk A' → CI M' N' A' → RI M' N' A' → (∀ a, 202 ≤ a → M' a = M a) → Go (mmL nm) 31 0 0 18 [(0, .ref 1000000), (1, .ref 0), (2, .ref 189), (3, .int (nI (i + 6)))] [] (SK, M', N') Q) : Go (mmL nm) 31 0 0 33 [(0, .ref 1000000), (1, .ref 0), (2, .ref 189), (3, .int (nI i))] [.int (nI 18)] (SK, M, N) Q := by
  refine g_tblIn (off := 657) (tgt := 690) dL_law_33 (by decide) (by decide) (by decide) (by decide) ?_
  refine g_aload_n (j := 1) (pc' := 691) dL_law_690 rfl rfl ?_
  refine g_aload_n (j := 0) (pc' := 692) dL_law_691 rfl rfl ?_
  refine g_iload_n (j := 3) (pc' := 693) dL_law_692 rfl rfl ?_
  refine g_iconst (v := 1) (pc' := 694) dL_law_693 (by decide) rfl ?_
  refine g_iadd (pc' := 695) dL_law_694 rfl ?_
  refine g_sld (n := i + 1) (pc' := 696) dL_law_695 hM (by omega) (nI_addE rfl rfl) (by omega) rfl ?_
  refine g_aload_n (j := 0) (pc' := 697) dL_law_696 rfl rfl ?_
  refine g_iload_n (j := 3) (pc' := 698) dL_law_697 rfl rfl ?_
  refine g_iconst (v := 2) (pc' := 699) dL_law_698 (by decide) rfl ?_
  refine g_iadd (pc' := 700) dL_law_699 rfl ?_
  refine g_sld (n := i + 2) (pc' := 701) dL_law_700 hM (by omega) (nI_addE rfl rfl) (by omega) rfl ?_
  obtain ⟨r, A2, hc, hr, hA2⟩ := op_needs hA (M 1000000 (i + 1)) (M 1000000 (i + 2))
  refine g_callV (my := mX11_needs) (k := 0) (st := []) (av := [.int (M 1000000 (i + 1)), .int (M 1000000 (i + 2))]) (mcr := 0) (msr := 0) (mc := 0) (ms := 0) (pc' := 704) dL_law_701 kX11_needs wL_89 rfl ⟨rfl, rfl⟩ rfl (Nat.le_of_ble_eq_true rfl) (by decide) (hc M N hC) rfl ?_
  rintro _ _ ⟨M1, N1, rfl, rfl, hC1, hf0⟩
  show Go (mmL nm) _ _ _ 704 [(0, .ref 1000000), (1, .ref 0), (2, .ref 189), (3, .int (nI i))] [.int r] (SK, M1, N1) _
  have hf1 : ∀ a, 189 ≤ a → M1 a = M a := fun a ha => (hf0 a ha).1
  have hM1 : M1 1000001 0 = nI L := by rw [hf1 1000001 (by omega)]; exact hM
  refine g_aload_n (j := 2) (pc' := 705) dL_law_704 rfl rfl ?_
  refine g_aload_n (j := 0) (pc' := 706) dL_law_705 rfl rfl ?_
  refine g_iload_n (j := 3) (pc' := 707) dL_law_706 rfl rfl ?_
  refine g_iconst (v := 1) (pc' := 708) dL_law_707 (by decide) rfl ?_
  refine g_iadd (pc' := 709) dL_law_708 rfl ?_
  refine g_sld (n := i + 1) (pc' := 710) dL_law_709 hM1 (by omega) (nI_addE rfl rfl) (by omega) rfl ?_
  refine g_top (y := M 1000000 (i + 1)) (by rw [hf1 1000000 (by omega)]) ?_
  refine g_aload_n (j := 0) (pc' := 711) dL_law_710 rfl rfl ?_
  refine g_iload_n (j := 3) (pc' := 712) dL_law_711 rfl rfl ?_
  refine g_iconst (v := 2) (pc' := 713) dL_law_712 (by decide) rfl ?_
  refine g_iadd (pc' := 714) dL_law_713 rfl ?_
  refine g_sld (n := i + 2) (pc' := 715) dL_law_714 hM1 (by omega) (nI_addE rfl rfl) (by omega) rfl ?_
  refine g_top (y := M 1000000 (i + 2)) (by rw [hf1 1000000 (by omega)]) ?_
  refine g_callV (my := mX12_needs) (k := 189) (st := [.int r]) (av := [.int (M 1000000 (i + 1)), .int (M 1000000 (i + 2))]) (mcr := 0) (msr := 0) (mc := 0) (ms := 0) (pc' := 718) dL_law_715 kX12_needs wL_92 rfl ⟨rfl, rfl⟩ rfl (Nat.le_of_ble_eq_true rfl) (by decide) (hr M1 N1 (hR.same hf0)) rfl ?_
  rintro _ _ ⟨M2, N2, rfl, rfl, hR2, hf2⟩
  show Go (mmL nm) _ _ _ 718 [(0, .ref 1000000), (1, .ref 0), (2, .ref 189), (3, .int (nI i))] [.int r, .int r] (SK, M2, N2) _
  refine g_icmp_eq (tgt := 1232) (pc' := 721) dL_law_718 (by decide) rfl (fun hc => ?_) (fun hc => (absurd rfl hc))
  refine g_iinc (j := 3) (v := nI (i + 6)) (L' := [(0, .ref 1000000), (1, .ref 0), (2, .ref 189), (3, .int (nI (i + 6)))]) (pc' := 1235) dL_law_1232 rfl (nI_add i 6) (Nat.le_of_ble_eq_true rfl) rfl rfl ?_
  refine g_goto (tgt := 18) dL_law_1235 (by decide) ?_
  exact kk A2 M2 N2 hA2 (hC1.same (fun a ha => hf2 a (Or.inl ha))) hR2 (fun a ha => ((hf2 a (Or.inr ha)).1).trans (hf1 a (by omega)))
set_option maxRecDepth 100000 in
set_option maxHeartbeats 1000000 in
theorem lc_19 {nm : String} {L i : Nat} {M : Nat → Nat → Int32} {N : Nat → Nat → Int64} {A : AS} {Q : AQ} (hi : i + 6 ≤ L) (hL : L ≤ 384) (hM : M 1000001 0 = nI L) (hA : AOk A) (hC : CI M N A) (hR : RI M N A) (kk : ∀ (A' : AS) (M' : Nat → Nat → Int32) (N' : Nat → Nat → Int64), AOk A' → CI M' N' A' → RI M' N' A' → (∀ a, 202 ≤ a → M' a = M a) → Go (mmL nm) 31 0 0 18 [(0, .ref 1000000), (1, .ref 0), (2, .ref 189), (3, .int (nI (i + 6)))] [] (SK, M', N') Q) : Go (mmL nm) 31 0 0 33 [(0, .ref 1000000), (1, .ref 0), (2, .ref 189), (3, .int (nI i))] [.int (nI 19)] (SK, M, N) Q := by
  refine g_tblIn (off := 690) (tgt := 723) dL_law_33 (by decide) (by decide) (by decide) (by decide) ?_
  refine g_aload_n (j := 1) (pc' := 724) dL_law_723 rfl rfl ?_
  refine g_aload_n (j := 0) (pc' := 725) dL_law_724 rfl rfl ?_
  refine g_iload_n (j := 3) (pc' := 726) dL_law_725 rfl rfl ?_
  refine g_iconst (v := 1) (pc' := 727) dL_law_726 (by decide) rfl ?_
  refine g_iadd (pc' := 728) dL_law_727 rfl ?_
  refine g_sld (n := i + 1) (pc' := 729) dL_law_728 hM (by omega) (nI_addE rfl rfl) (by omega) rfl ?_
  obtain ⟨r, A2, hc, hr, hA2⟩ := op_field hA (M 1000000 (i + 1))
  refine g_callV (my := mX11_field) (k := 0) (st := []) (av := [.int (M 1000000 (i + 1))]) (mcr := 0) (msr := 0) (mc := 0) (ms := 0) (pc' := 732) dL_law_729 kX11_field wL_93 rfl ⟨rfl, rfl⟩ rfl (Nat.le_of_ble_eq_true rfl) (by decide) (hc M N hC) rfl ?_
  rintro _ _ ⟨M1, N1, rfl, rfl, hC1, hf0⟩
  show Go (mmL nm) _ _ _ 732 [(0, .ref 1000000), (1, .ref 0), (2, .ref 189), (3, .int (nI i))] [.int r] (SK, M1, N1) _
  have hf1 : ∀ a, 189 ≤ a → M1 a = M a := fun a ha => (hf0 a ha).1
  have hM1 : M1 1000001 0 = nI L := by rw [hf1 1000001 (by omega)]; exact hM
  refine g_aload_n (j := 2) (pc' := 733) dL_law_732 rfl rfl ?_
  refine g_aload_n (j := 0) (pc' := 734) dL_law_733 rfl rfl ?_
  refine g_iload_n (j := 3) (pc' := 735) dL_law_734 rfl rfl ?_
  refine g_iconst (v := 1) (pc' := 736) dL_law_735 (by decide) rfl ?_
  refine g_iadd (pc' := 737) dL_law_736 rfl ?_
  refine g_sld (n := i + 1) (pc' := 738) dL_law_737 hM1 (by omega) (nI_addE rfl rfl) (by omega) rfl ?_
  refine g_top (y := M 1000000 (i + 1)) (by rw [hf1 1000000 (by omega)]) ?_
  refine g_callV (my := mX12_field) (k := 189) (st := [.int r]) (av := [.int (M 1000000 (i + 1))]) (mcr := 0) (msr := 0) (mc := 0) (ms := 0) (pc' := 741) dL_law_738 kX12_field wL_96 rfl ⟨rfl, rfl⟩ rfl (Nat.le_of_ble_eq_true rfl) (by decide) (hr M1 N1 (hR.same hf0)) rfl ?_
  rintro _ _ ⟨M2, N2, rfl, rfl, hR2, hf2⟩
  show Go (mmL nm) _ _ _ 741 [(0, .ref 1000000), (1, .ref 0), (2, .ref 189), (3, .int (nI i))] [.int r, .int r] (SK, M2, N2) _
  refine g_icmp_eq (tgt := 1232) (pc' := 744) dL_law_741 (by decide) rfl (fun hc => ?_) (fun hc => (absurd rfl hc))
  refine g_iinc (j := 3) (v := nI (i + 6)) (L' := [(0, .ref 1000000), (1, .ref 0), (2, .ref 189), (3, .int (nI (i + 6)))]) (pc' := 1235) dL_law_1232 rfl (nI_add i 6) (Nat.le_of_ble_eq_true rfl) rfl rfl ?_
  refine g_goto (tgt := 18) dL_law_1235 (by decide) ?_
  exact kk A2 M2 N2 hA2 (hC1.same (fun a ha => hf2 a (Or.inl ha))) hR2 (fun a ha => ((hf2 a (Or.inr ha)).1).trans (hf1 a (by omega)))
set_option maxRecDepth 100000 in
set_option maxHeartbeats 1000000 in
theorem lc_20 {nm : String} {L i : Nat} {M : Nat → Nat → Int32} {N : Nat → Nat → Int64} {A : AS} {Q : AQ} (hi : i + 6 ≤ L) (hL : L ≤ 384) (hM : M 1000001 0 = nI L) (hA : AOk A) (hC : CI M N A) (hR : RI M N A) (kk : ∀ (A' : AS) (M' : Nat → Nat → Int32) (N' : Nat → Nat → Int64), AOk A' → CI M' N' A' → RI M' N' A' → (∀ a, 202 ≤ a → M' a = M a) → Go (mmL nm) 31 0 0 18 [(0, .ref 1000000), (1, .ref 0), (2, .ref 189), (3, .int (nI (i + 6)))] [] (SK, M', N') Q) : Go (mmL nm) 31 0 0 33 [(0, .ref 1000000), (1, .ref 0), (2, .ref 189), (3, .int (nI i))] [.int (nI 20)] (SK, M, N) Q := by
  refine g_tblIn (off := 713) (tgt := 746) dL_law_33 (by decide) (by decide) (by decide) (by decide) ?_
  refine g_aload_n (j := 1) (pc' := 747) dL_law_746 rfl rfl ?_
  refine g_aload_n (j := 0) (pc' := 748) dL_law_747 rfl rfl ?_
  refine g_iload_n (j := 3) (pc' := 749) dL_law_748 rfl rfl ?_
  refine g_iconst (v := 1) (pc' := 750) dL_law_749 (by decide) rfl ?_
  refine g_iadd (pc' := 751) dL_law_750 rfl ?_
  refine g_sld (n := i + 1) (pc' := 752) dL_law_751 hM (by omega) (nI_addE rfl rfl) (by omega) rfl ?_
  obtain ⟨r, A2, hc, hr, hA2⟩ := op_parting hA (M 1000000 (i + 1))
  refine g_callV (my := mX11_parting) (k := 0) (st := []) (av := [.int (M 1000000 (i + 1))]) (mcr := 0) (msr := 0) (mc := 0) (ms := 0) (pc' := 755) dL_law_752 kX11_parting wL_97 rfl ⟨rfl, rfl⟩ rfl (Nat.le_of_ble_eq_true rfl) (by decide) (hc M N hC) rfl ?_
  rintro _ _ ⟨M1, N1, rfl, rfl, hC1, hf0⟩
  show Go (mmL nm) _ _ _ 755 [(0, .ref 1000000), (1, .ref 0), (2, .ref 189), (3, .int (nI i))] [.int r] (SK, M1, N1) _
  have hf1 : ∀ a, 189 ≤ a → M1 a = M a := fun a ha => (hf0 a ha).1
  have hM1 : M1 1000001 0 = nI L := by rw [hf1 1000001 (by omega)]; exact hM
  refine g_aload_n (j := 2) (pc' := 756) dL_law_755 rfl rfl ?_
  refine g_aload_n (j := 0) (pc' := 757) dL_law_756 rfl rfl ?_
  refine g_iload_n (j := 3) (pc' := 758) dL_law_757 rfl rfl ?_
  refine g_iconst (v := 1) (pc' := 759) dL_law_758 (by decide) rfl ?_
  refine g_iadd (pc' := 760) dL_law_759 rfl ?_
  refine g_sld (n := i + 1) (pc' := 761) dL_law_760 hM1 (by omega) (nI_addE rfl rfl) (by omega) rfl ?_
  refine g_top (y := M 1000000 (i + 1)) (by rw [hf1 1000000 (by omega)]) ?_
  refine g_callV (my := mX12_parting) (k := 189) (st := [.int r]) (av := [.int (M 1000000 (i + 1))]) (mcr := 0) (msr := 0) (mc := 0) (ms := 0) (pc' := 764) dL_law_761 kX12_parting wL_100 rfl ⟨rfl, rfl⟩ rfl (Nat.le_of_ble_eq_true rfl) (by decide) (hr M1 N1 (hR.same hf0)) rfl ?_
  rintro _ _ ⟨M2, N2, rfl, rfl, hR2, hf2⟩
  show Go (mmL nm) _ _ _ 764 [(0, .ref 1000000), (1, .ref 0), (2, .ref 189), (3, .int (nI i))] [.int r, .int r] (SK, M2, N2) _
  refine g_icmp_eq (tgt := 1232) (pc' := 767) dL_law_764 (by decide) rfl (fun hc => ?_) (fun hc => (absurd rfl hc))
  refine g_iinc (j := 3) (v := nI (i + 6)) (L' := [(0, .ref 1000000), (1, .ref 0), (2, .ref 189), (3, .int (nI (i + 6)))]) (pc' := 1235) dL_law_1232 rfl (nI_add i 6) (Nat.le_of_ble_eq_true rfl) rfl rfl ?_
  refine g_goto (tgt := 18) dL_law_1235 (by decide) ?_
  exact kk A2 M2 N2 hA2 (hC1.same (fun a ha => hf2 a (Or.inl ha))) hR2 (fun a ha => ((hf2 a (Or.inr ha)).1).trans (hf1 a (by omega)))
set_option maxRecDepth 100000 in
set_option maxHeartbeats 1000000 in
theorem lc_21 {nm : String} {L i : Nat} {M : Nat → Nat → Int32} {N : Nat → Nat → Int64} {A : AS} {Q : AQ} (hi : i + 6 ≤ L) (hL : L ≤ 384) (hM : M 1000001 0 = nI L) (hA : AOk A) (hC : CI M N A) (hR : RI M N A) (kk : ∀ (A' : AS) (M' : Nat → Nat → Int32) (N' : Nat → Nat → Int64), AOk A' → CI M' N' A' → RI M' N' A' → (∀ a, 202 ≤ a → M' a = M a) → Go (mmL nm) 31 0 0 18 [(0, .ref 1000000), (1, .ref 0), (2, .ref 189), (3, .int (nI (i + 6)))] [] (SK, M', N') Q) : Go (mmL nm) 31 0 0 33 [(0, .ref 1000000), (1, .ref 0), (2, .ref 189), (3, .int (nI i))] [.int (nI 21)] (SK, M, N) Q := by
  refine g_tblIn (off := 736) (tgt := 769) dL_law_33 (by decide) (by decide) (by decide) (by decide) ?_
  refine g_aload_n (j := 1) (pc' := 770) dL_law_769 rfl rfl ?_
  refine g_aload_n (j := 0) (pc' := 771) dL_law_770 rfl rfl ?_
  refine g_iload_n (j := 3) (pc' := 772) dL_law_771 rfl rfl ?_
  refine g_iconst (v := 1) (pc' := 773) dL_law_772 (by decide) rfl ?_
  refine g_iadd (pc' := 774) dL_law_773 rfl ?_
  refine g_sld (n := i + 1) (pc' := 775) dL_law_774 hM (by omega) (nI_addE rfl rfl) (by omega) rfl ?_
  obtain ⟨r, A2, hc, hr, hA2⟩ := op_change hA (M 1000000 (i + 1))
  refine g_callV (my := mX11_change) (k := 0) (st := []) (av := [.int (M 1000000 (i + 1))]) (mcr := 0) (msr := 0) (mc := 0) (ms := 0) (pc' := 778) dL_law_775 kX11_change wL_101 rfl ⟨rfl, rfl⟩ rfl (Nat.le_of_ble_eq_true rfl) (by decide) (hc M N hC) rfl ?_
  rintro _ _ ⟨M1, N1, rfl, rfl, hC1, hf0⟩
  show Go (mmL nm) _ _ _ 778 [(0, .ref 1000000), (1, .ref 0), (2, .ref 189), (3, .int (nI i))] [.int r] (SK, M1, N1) _
  have hf1 : ∀ a, 189 ≤ a → M1 a = M a := fun a ha => (hf0 a ha).1
  have hM1 : M1 1000001 0 = nI L := by rw [hf1 1000001 (by omega)]; exact hM
  refine g_aload_n (j := 2) (pc' := 779) dL_law_778 rfl rfl ?_
  refine g_aload_n (j := 0) (pc' := 780) dL_law_779 rfl rfl ?_
  refine g_iload_n (j := 3) (pc' := 781) dL_law_780 rfl rfl ?_
  refine g_iconst (v := 1) (pc' := 782) dL_law_781 (by decide) rfl ?_
  refine g_iadd (pc' := 783) dL_law_782 rfl ?_
  refine g_sld (n := i + 1) (pc' := 784) dL_law_783 hM1 (by omega) (nI_addE rfl rfl) (by omega) rfl ?_
  refine g_top (y := M 1000000 (i + 1)) (by rw [hf1 1000000 (by omega)]) ?_
  refine g_callV (my := mX12_change) (k := 189) (st := [.int r]) (av := [.int (M 1000000 (i + 1))]) (mcr := 0) (msr := 0) (mc := 0) (ms := 0) (pc' := 787) dL_law_784 kX12_change wL_104 rfl ⟨rfl, rfl⟩ rfl (Nat.le_of_ble_eq_true rfl) (by decide) (hr M1 N1 (hR.same hf0)) rfl ?_
  rintro _ _ ⟨M2, N2, rfl, rfl, hR2, hf2⟩
  show Go (mmL nm) _ _ _ 787 [(0, .ref 1000000), (1, .ref 0), (2, .ref 189), (3, .int (nI i))] [.int r, .int r] (SK, M2, N2) _
  refine g_icmp_eq (tgt := 1232) (pc' := 790) dL_law_787 (by decide) rfl (fun hc => ?_) (fun hc => (absurd rfl hc))
  refine g_iinc (j := 3) (v := nI (i + 6)) (L' := [(0, .ref 1000000), (1, .ref 0), (2, .ref 189), (3, .int (nI (i + 6)))]) (pc' := 1235) dL_law_1232 rfl (nI_add i 6) (Nat.le_of_ble_eq_true rfl) rfl rfl ?_
  refine g_goto (tgt := 18) dL_law_1235 (by decide) ?_
  exact kk A2 M2 N2 hA2 (hC1.same (fun a ha => hf2 a (Or.inl ha))) hR2 (fun a ha => ((hf2 a (Or.inr ha)).1).trans (hf1 a (by omega)))
set_option maxRecDepth 100000 in
set_option maxHeartbeats 1000000 in
theorem lc_22 {nm : String} {L i : Nat} {M : Nat → Nat → Int32} {N : Nat → Nat → Int64} {A : AS} {Q : AQ} (hi : i + 6 ≤ L) (hL : L ≤ 384) (hM : M 1000001 0 = nI L) (hA : AOk A) (hC : CI M N A) (hR : RI M N A) (kk : ∀ (A' : AS) (M' : Nat → Nat → Int32) (N' : Nat → Nat → Int64), AOk A' → CI M' N' A' → RI M' N' A' → (∀ a, 202 ≤ a → M' a = M a) → Go (mmL nm) 31 0 0 18 [(0, .ref 1000000), (1, .ref 0), (2, .ref 189), (3, .int (nI (i + 6)))] [] (SK, M', N') Q) : Go (mmL nm) 31 0 0 33 [(0, .ref 1000000), (1, .ref 0), (2, .ref 189), (3, .int (nI i))] [.int (nI 22)] (SK, M, N) Q := by
  refine g_tblIn (off := 759) (tgt := 792) dL_law_33 (by decide) (by decide) (by decide) (by decide) ?_
  refine g_aload_n (j := 1) (pc' := 793) dL_law_792 rfl rfl ?_
  refine g_aload_n (j := 0) (pc' := 794) dL_law_793 rfl rfl ?_
  refine g_iload_n (j := 3) (pc' := 795) dL_law_794 rfl rfl ?_
  refine g_iconst (v := 1) (pc' := 796) dL_law_795 (by decide) rfl ?_
  refine g_iadd (pc' := 797) dL_law_796 rfl ?_
  refine g_sld (n := i + 1) (pc' := 798) dL_law_797 hM (by omega) (nI_addE rfl rfl) (by omega) rfl ?_
  refine g_aload_n (j := 0) (pc' := 799) dL_law_798 rfl rfl ?_
  refine g_iload_n (j := 3) (pc' := 800) dL_law_799 rfl rfl ?_
  refine g_iconst (v := 2) (pc' := 801) dL_law_800 (by decide) rfl ?_
  refine g_iadd (pc' := 802) dL_law_801 rfl ?_
  refine g_sld (n := i + 2) (pc' := 803) dL_law_802 hM (by omega) (nI_addE rfl rfl) (by omega) rfl ?_
  refine g_aload_n (j := 0) (pc' := 804) dL_law_803 rfl rfl ?_
  refine g_iload_n (j := 3) (pc' := 805) dL_law_804 rfl rfl ?_
  refine g_iconst (v := 3) (pc' := 806) dL_law_805 (by decide) rfl ?_
  refine g_iadd (pc' := 807) dL_law_806 rfl ?_
  refine g_sld (n := i + 3) (pc' := 808) dL_law_807 hM (by omega) (nI_addE rfl rfl) (by omega) rfl ?_
  obtain ⟨r, A2, hc, hr, hA2⟩ := op_luck hA (M 1000000 (i + 1)) (M 1000000 (i + 2)) (M 1000000 (i + 3))
  refine g_callV (my := mX11_luck) (k := 0) (st := []) (av := [.int (M 1000000 (i + 1)), .int (M 1000000 (i + 2)), .int (M 1000000 (i + 3))]) (mcr := 0) (msr := 0) (mc := 0) (ms := 0) (pc' := 811) dL_law_808 kX11_luck wL_105 rfl ⟨rfl, rfl⟩ rfl (Nat.le_of_ble_eq_true rfl) (by decide) (hc M N hC) rfl ?_
  rintro _ _ ⟨M1, N1, rfl, rfl, hC1, hf0⟩
  show Go (mmL nm) _ _ _ 811 [(0, .ref 1000000), (1, .ref 0), (2, .ref 189), (3, .int (nI i))] [.int r] (SK, M1, N1) _
  have hf1 : ∀ a, 189 ≤ a → M1 a = M a := fun a ha => (hf0 a ha).1
  have hM1 : M1 1000001 0 = nI L := by rw [hf1 1000001 (by omega)]; exact hM
  refine g_aload_n (j := 2) (pc' := 812) dL_law_811 rfl rfl ?_
  refine g_aload_n (j := 0) (pc' := 813) dL_law_812 rfl rfl ?_
  refine g_iload_n (j := 3) (pc' := 814) dL_law_813 rfl rfl ?_
  refine g_iconst (v := 1) (pc' := 815) dL_law_814 (by decide) rfl ?_
  refine g_iadd (pc' := 816) dL_law_815 rfl ?_
  refine g_sld (n := i + 1) (pc' := 817) dL_law_816 hM1 (by omega) (nI_addE rfl rfl) (by omega) rfl ?_
  refine g_top (y := M 1000000 (i + 1)) (by rw [hf1 1000000 (by omega)]) ?_
  refine g_aload_n (j := 0) (pc' := 818) dL_law_817 rfl rfl ?_
  refine g_iload_n (j := 3) (pc' := 819) dL_law_818 rfl rfl ?_
  refine g_iconst (v := 2) (pc' := 820) dL_law_819 (by decide) rfl ?_
  refine g_iadd (pc' := 821) dL_law_820 rfl ?_
  refine g_sld (n := i + 2) (pc' := 822) dL_law_821 hM1 (by omega) (nI_addE rfl rfl) (by omega) rfl ?_
  refine g_top (y := M 1000000 (i + 2)) (by rw [hf1 1000000 (by omega)]) ?_
  refine g_aload_n (j := 0) (pc' := 823) dL_law_822 rfl rfl ?_
  refine g_iload_n (j := 3) (pc' := 824) dL_law_823 rfl rfl ?_
  refine g_iconst (v := 3) (pc' := 825) dL_law_824 (by decide) rfl ?_
  refine g_iadd (pc' := 826) dL_law_825 rfl ?_
  refine g_sld (n := i + 3) (pc' := 827) dL_law_826 hM1 (by omega) (nI_addE rfl rfl) (by omega) rfl ?_
  refine g_top (y := M 1000000 (i + 3)) (by rw [hf1 1000000 (by omega)]) ?_
  refine g_callV (my := mX12_luck) (k := 189) (st := [.int r]) (av := [.int (M 1000000 (i + 1)), .int (M 1000000 (i + 2)), .int (M 1000000 (i + 3))]) (mcr := 0) (msr := 0) (mc := 0) (ms := 0) (pc' := 830) dL_law_827 kX12_luck wL_108 rfl ⟨rfl, rfl⟩ rfl (Nat.le_of_ble_eq_true rfl) (by decide) (hr M1 N1 (hR.same hf0)) rfl ?_
  rintro _ _ ⟨M2, N2, rfl, rfl, hR2, hf2⟩
  show Go (mmL nm) _ _ _ 830 [(0, .ref 1000000), (1, .ref 0), (2, .ref 189), (3, .int (nI i))] [.int r, .int r] (SK, M2, N2) _
  refine g_icmp_eq (tgt := 1232) (pc' := 833) dL_law_830 (by decide) rfl (fun hc => ?_) (fun hc => (absurd rfl hc))
  refine g_iinc (j := 3) (v := nI (i + 6)) (L' := [(0, .ref 1000000), (1, .ref 0), (2, .ref 189), (3, .int (nI (i + 6)))]) (pc' := 1235) dL_law_1232 rfl (nI_add i 6) (Nat.le_of_ble_eq_true rfl) rfl rfl ?_
  refine g_goto (tgt := 18) dL_law_1235 (by decide) ?_
  exact kk A2 M2 N2 hA2 (hC1.same (fun a ha => hf2 a (Or.inl ha))) hR2 (fun a ha => ((hf2 a (Or.inr ha)).1).trans (hf1 a (by omega)))
set_option maxRecDepth 100000 in
set_option maxHeartbeats 1000000 in
theorem lc_23 {nm : String} {L i : Nat} {M : Nat → Nat → Int32} {N : Nat → Nat → Int64} {A : AS} {Q : AQ} (hi : i + 6 ≤ L) (hL : L ≤ 384) (hM : M 1000001 0 = nI L) (hA : AOk A) (hC : CI M N A) (hR : RI M N A) (kk : ∀ (A' : AS) (M' : Nat → Nat → Int32) (N' : Nat → Nat → Int64), AOk A' → CI M' N' A' → RI M' N' A' → (∀ a, 202 ≤ a → M' a = M a) → Go (mmL nm) 31 0 0 18 [(0, .ref 1000000), (1, .ref 0), (2, .ref 189), (3, .int (nI (i + 6)))] [] (SK, M', N') Q) : Go (mmL nm) 31 0 0 33 [(0, .ref 1000000), (1, .ref 0), (2, .ref 189), (3, .int (nI i))] [.int (nI 23)] (SK, M, N) Q := by
  refine g_tblIn (off := 802) (tgt := 835) dL_law_33 (by decide) (by decide) (by decide) (by decide) ?_
  refine g_aload_n (j := 1) (pc' := 836) dL_law_835 rfl rfl ?_
  refine g_aload_n (j := 0) (pc' := 837) dL_law_836 rfl rfl ?_
  refine g_iload_n (j := 3) (pc' := 838) dL_law_837 rfl rfl ?_
  refine g_iconst (v := 1) (pc' := 839) dL_law_838 (by decide) rfl ?_
  refine g_iadd (pc' := 840) dL_law_839 rfl ?_
  refine g_sld (n := i + 1) (pc' := 841) dL_law_840 hM (by omega) (nI_addE rfl rfl) (by omega) rfl ?_
  refine g_aload_n (j := 0) (pc' := 842) dL_law_841 rfl rfl ?_
  refine g_iload_n (j := 3) (pc' := 843) dL_law_842 rfl rfl ?_
  refine g_iconst (v := 2) (pc' := 844) dL_law_843 (by decide) rfl ?_
  refine g_iadd (pc' := 845) dL_law_844 rfl ?_
  refine g_sld (n := i + 2) (pc' := 846) dL_law_845 hM (by omega) (nI_addE rfl rfl) (by omega) rfl ?_
  obtain ⟨r, A2, hc, hr, hA2⟩ := op_top hA (M 1000000 (i + 1)) (M 1000000 (i + 2))
  refine g_callV (my := mX11_top) (k := 0) (st := []) (av := [.int (M 1000000 (i + 1)), .int (M 1000000 (i + 2))]) (mcr := 0) (msr := 0) (mc := 0) (ms := 0) (pc' := 849) dL_law_846 kX11_top wL_109 rfl ⟨rfl, rfl⟩ rfl (Nat.le_of_ble_eq_true rfl) (by decide) (hc M N hC) rfl ?_
  rintro _ _ ⟨M1, N1, rfl, rfl, hC1, hf0⟩
  show Go (mmL nm) _ _ _ 849 [(0, .ref 1000000), (1, .ref 0), (2, .ref 189), (3, .int (nI i))] [.int r] (SK, M1, N1) _
  have hf1 : ∀ a, 189 ≤ a → M1 a = M a := fun a ha => (hf0 a ha).1
  have hM1 : M1 1000001 0 = nI L := by rw [hf1 1000001 (by omega)]; exact hM
  refine g_aload_n (j := 2) (pc' := 850) dL_law_849 rfl rfl ?_
  refine g_aload_n (j := 0) (pc' := 851) dL_law_850 rfl rfl ?_
  refine g_iload_n (j := 3) (pc' := 852) dL_law_851 rfl rfl ?_
  refine g_iconst (v := 1) (pc' := 853) dL_law_852 (by decide) rfl ?_
  refine g_iadd (pc' := 854) dL_law_853 rfl ?_
  refine g_sld (n := i + 1) (pc' := 855) dL_law_854 hM1 (by omega) (nI_addE rfl rfl) (by omega) rfl ?_
  refine g_top (y := M 1000000 (i + 1)) (by rw [hf1 1000000 (by omega)]) ?_
  refine g_aload_n (j := 0) (pc' := 856) dL_law_855 rfl rfl ?_
  refine g_iload_n (j := 3) (pc' := 857) dL_law_856 rfl rfl ?_
  refine g_iconst (v := 2) (pc' := 858) dL_law_857 (by decide) rfl ?_
  refine g_iadd (pc' := 859) dL_law_858 rfl ?_
  refine g_sld (n := i + 2) (pc' := 860) dL_law_859 hM1 (by omega) (nI_addE rfl rfl) (by omega) rfl ?_
  refine g_top (y := M 1000000 (i + 2)) (by rw [hf1 1000000 (by omega)]) ?_
  refine g_callV (my := mX12_top) (k := 189) (st := [.int r]) (av := [.int (M 1000000 (i + 1)), .int (M 1000000 (i + 2))]) (mcr := 0) (msr := 0) (mc := 0) (ms := 0) (pc' := 863) dL_law_860 kX12_top wL_112 rfl ⟨rfl, rfl⟩ rfl (Nat.le_of_ble_eq_true rfl) (by decide) (hr M1 N1 (hR.same hf0)) rfl ?_
  rintro _ _ ⟨M2, N2, rfl, rfl, hR2, hf2⟩
  show Go (mmL nm) _ _ _ 863 [(0, .ref 1000000), (1, .ref 0), (2, .ref 189), (3, .int (nI i))] [.int r, .int r] (SK, M2, N2) _
  refine g_icmp_eq (tgt := 1232) (pc' := 866) dL_law_863 (by decide) rfl (fun hc => ?_) (fun hc => (absurd rfl hc))
  refine g_iinc (j := 3) (v := nI (i + 6)) (L' := [(0, .ref 1000000), (1, .ref 0), (2, .ref 189), (3, .int (nI (i + 6)))]) (pc' := 1235) dL_law_1232 rfl (nI_add i 6) (Nat.le_of_ble_eq_true rfl) rfl rfl ?_
  refine g_goto (tgt := 18) dL_law_1235 (by decide) ?_
  exact kk A2 M2 N2 hA2 (hC1.same (fun a ha => hf2 a (Or.inl ha))) hR2 (fun a ha => ((hf2 a (Or.inr ha)).1).trans (hf1 a (by omega)))
set_option maxRecDepth 100000 in
set_option maxHeartbeats 1000000 in
theorem lc_24 {nm : String} {L i : Nat} {M : Nat → Nat → Int32} {N : Nat → Nat → Int64} {A : AS} {Q : AQ} (hi : i + 6 ≤ L) (hL : L ≤ 384) (hM : M 1000001 0 = nI L) (hA : AOk A) (hC : CI M N A) (hR : RI M N A) (kk : ∀ (A' : AS) (M' : Nat → Nat → Int32) (N' : Nat → Nat → Int64), AOk A' → CI M' N' A' → RI M' N' A' → (∀ a, 202 ≤ a → M' a = M a) → Go (mmL nm) 31 0 0 18 [(0, .ref 1000000), (1, .ref 0), (2, .ref 189), (3, .int (nI (i + 6)))] [] (SK, M', N') Q) : Go (mmL nm) 31 0 0 33 [(0, .ref 1000000), (1, .ref 0), (2, .ref 189), (3, .int (nI i))] [.int (nI 24)] (SK, M, N) Q := by
  refine g_tblIn (off := 835) (tgt := 868) dL_law_33 (by decide) (by decide) (by decide) (by decide) ?_
  refine g_aload_n (j := 1) (pc' := 869) dL_law_868 rfl rfl ?_
  obtain ⟨r, A2, hc, hr, hA2⟩ := op_image hA 
  refine g_callV (my := mX11_image) (k := 0) (st := []) (av := []) (mcr := 0) (msr := 0) (mc := 0) (ms := 0) (pc' := 872) dL_law_869 kX11_image wL_113 rfl ⟨rfl, rfl⟩ rfl (Nat.le_of_ble_eq_true rfl) (by decide) (hc M N hC) rfl ?_
  rintro _ _ ⟨M1, N1, rfl, rfl, hC1, hf0⟩
  show Go (mmL nm) _ _ _ 872 [(0, .ref 1000000), (1, .ref 0), (2, .ref 189), (3, .int (nI i))] [.int r] (SK, M1, N1) _
  have hf1 : ∀ a, 189 ≤ a → M1 a = M a := fun a ha => (hf0 a ha).1
  have hM1 : M1 1000001 0 = nI L := by rw [hf1 1000001 (by omega)]; exact hM
  refine g_aload_n (j := 2) (pc' := 873) dL_law_872 rfl rfl ?_
  refine g_callV (my := mX12_image) (k := 189) (st := [.int r]) (av := []) (mcr := 0) (msr := 0) (mc := 0) (ms := 0) (pc' := 876) dL_law_873 kX12_image wL_116 rfl ⟨rfl, rfl⟩ rfl (Nat.le_of_ble_eq_true rfl) (by decide) (hr M1 N1 (hR.same hf0)) rfl ?_
  rintro _ _ ⟨M2, N2, rfl, rfl, hR2, hf2⟩
  show Go (mmL nm) _ _ _ 876 [(0, .ref 1000000), (1, .ref 0), (2, .ref 189), (3, .int (nI i))] [.int r, .int r] (SK, M2, N2) _
  refine g_icmp_eq (tgt := 1232) (pc' := 879) dL_law_876 (by decide) rfl (fun hc => ?_) (fun hc => (absurd rfl hc))
  refine g_iinc (j := 3) (v := nI (i + 6)) (L' := [(0, .ref 1000000), (1, .ref 0), (2, .ref 189), (3, .int (nI (i + 6)))]) (pc' := 1235) dL_law_1232 rfl (nI_add i 6) (Nat.le_of_ble_eq_true rfl) rfl rfl ?_
  refine g_goto (tgt := 18) dL_law_1235 (by decide) ?_
  exact kk A2 M2 N2 hA2 (hC1.same (fun a ha => hf2 a (Or.inl ha))) hR2 (fun a ha => ((hf2 a (Or.inr ha)).1).trans (hf1 a (by omega)))
set_option maxRecDepth 100000 in
set_option maxHeartbeats 1000000 in
theorem lc_25 {nm : String} {L i : Nat} {M : Nat → Nat → Int32} {N : Nat → Nat → Int64} {A : AS} {Q : AQ} (hi : i + 6 ≤ L) (hL : L ≤ 384) (hM : M 1000001 0 = nI L) (hA : AOk A) (hC : CI M N A) (hR : RI M N A) (kk : ∀ (A' : AS) (M' : Nat → Nat → Int32) (N' : Nat → Nat → Int64), AOk A' → CI M' N' A' → RI M' N' A' → (∀ a, 202 ≤ a → M' a = M a) → Go (mmL nm) 31 0 0 18 [(0, .ref 1000000), (1, .ref 0), (2, .ref 189), (3, .int (nI (i + 6)))] [] (SK, M', N') Q) : Go (mmL nm) 31 0 0 33 [(0, .ref 1000000), (1, .ref 0), (2, .ref 189), (3, .int (nI i))] [.int (nI 25)] (SK, M, N) Q := by
  refine g_tblIn (off := 848) (tgt := 881) dL_law_33 (by decide) (by decide) (by decide) (by decide) ?_
  refine g_aload_n (j := 1) (pc' := 882) dL_law_881 rfl rfl ?_
  obtain ⟨r, A2, hc, hr, hA2⟩ := op_restore hA 
  refine g_callV (my := mX11_restore) (k := 0) (st := []) (av := []) (mcr := 0) (msr := 0) (mc := 0) (ms := 0) (pc' := 885) dL_law_882 kX11_restore wL_117 rfl ⟨rfl, rfl⟩ rfl (Nat.le_of_ble_eq_true rfl) (by decide) (hc M N hC) rfl ?_
  rintro _ _ ⟨M1, N1, rfl, rfl, hC1, hf0⟩
  show Go (mmL nm) _ _ _ 885 [(0, .ref 1000000), (1, .ref 0), (2, .ref 189), (3, .int (nI i))] [.int r] (SK, M1, N1) _
  have hf1 : ∀ a, 189 ≤ a → M1 a = M a := fun a ha => (hf0 a ha).1
  have hM1 : M1 1000001 0 = nI L := by rw [hf1 1000001 (by omega)]; exact hM
  refine g_aload_n (j := 2) (pc' := 886) dL_law_885 rfl rfl ?_
  refine g_callV (my := mX12_restore) (k := 189) (st := [.int r]) (av := []) (mcr := 0) (msr := 0) (mc := 0) (ms := 0) (pc' := 889) dL_law_886 kX12_restore wL_120 rfl ⟨rfl, rfl⟩ rfl (Nat.le_of_ble_eq_true rfl) (by decide) (hr M1 N1 (hR.same hf0)) rfl ?_
  rintro _ _ ⟨M2, N2, rfl, rfl, hR2, hf2⟩
  show Go (mmL nm) _ _ _ 889 [(0, .ref 1000000), (1, .ref 0), (2, .ref 189), (3, .int (nI i))] [.int r, .int r] (SK, M2, N2) _
  refine g_icmp_eq (tgt := 1232) (pc' := 892) dL_law_889 (by decide) rfl (fun hc => ?_) (fun hc => (absurd rfl hc))
  refine g_iinc (j := 3) (v := nI (i + 6)) (L' := [(0, .ref 1000000), (1, .ref 0), (2, .ref 189), (3, .int (nI (i + 6)))]) (pc' := 1235) dL_law_1232 rfl (nI_add i 6) (Nat.le_of_ble_eq_true rfl) rfl rfl ?_
  refine g_goto (tgt := 18) dL_law_1235 (by decide) ?_
  exact kk A2 M2 N2 hA2 (hC1.same (fun a ha => hf2 a (Or.inl ha))) hR2 (fun a ha => ((hf2 a (Or.inr ha)).1).trans (hf1 a (by omega)))
set_option maxRecDepth 100000 in
set_option maxHeartbeats 1000000 in
theorem lc_26 {nm : String} {L i : Nat} {M : Nat → Nat → Int32} {N : Nat → Nat → Int64} {A : AS} {Q : AQ} (hi : i + 6 ≤ L) (hL : L ≤ 384) (hM : M 1000001 0 = nI L) (hA : AOk A) (hC : CI M N A) (hR : RI M N A) (kk : ∀ (A' : AS) (M' : Nat → Nat → Int32) (N' : Nat → Nat → Int64), AOk A' → CI M' N' A' → RI M' N' A' → (∀ a, 202 ≤ a → M' a = M a) → Go (mmL nm) 31 0 0 18 [(0, .ref 1000000), (1, .ref 0), (2, .ref 189), (3, .int (nI (i + 6)))] [] (SK, M', N') Q) : Go (mmL nm) 31 0 0 33 [(0, .ref 1000000), (1, .ref 0), (2, .ref 189), (3, .int (nI i))] [.int (nI 26)] (SK, M, N) Q := by
  refine g_tblIn (off := 861) (tgt := 894) dL_law_33 (by decide) (by decide) (by decide) (by decide) ?_
  refine g_aload_n (j := 1) (pc' := 895) dL_law_894 rfl rfl ?_
  refine g_aload_n (j := 0) (pc' := 896) dL_law_895 rfl rfl ?_
  refine g_iload_n (j := 3) (pc' := 897) dL_law_896 rfl rfl ?_
  refine g_iconst (v := 1) (pc' := 898) dL_law_897 (by decide) rfl ?_
  refine g_iadd (pc' := 899) dL_law_898 rfl ?_
  refine g_sld (n := i + 1) (pc' := 900) dL_law_899 hM (by omega) (nI_addE rfl rfl) (by omega) rfl ?_
  refine g_aload_n (j := 0) (pc' := 901) dL_law_900 rfl rfl ?_
  refine g_iload_n (j := 3) (pc' := 902) dL_law_901 rfl rfl ?_
  refine g_iconst (v := 2) (pc' := 903) dL_law_902 (by decide) rfl ?_
  refine g_iadd (pc' := 904) dL_law_903 rfl ?_
  refine g_sld (n := i + 2) (pc' := 905) dL_law_904 hM (by omega) (nI_addE rfl rfl) (by omega) rfl ?_
  refine g_aload_n (j := 0) (pc' := 906) dL_law_905 rfl rfl ?_
  refine g_iload_n (j := 3) (pc' := 907) dL_law_906 rfl rfl ?_
  refine g_iconst (v := 3) (pc' := 908) dL_law_907 (by decide) rfl ?_
  refine g_iadd (pc' := 909) dL_law_908 rfl ?_
  refine g_sld (n := i + 3) (pc' := 910) dL_law_909 hM (by omega) (nI_addE rfl rfl) (by omega) rfl ?_
  refine g_aload_n (j := 0) (pc' := 911) dL_law_910 rfl rfl ?_
  refine g_iload_n (j := 3) (pc' := 912) dL_law_911 rfl rfl ?_
  refine g_iconst (v := 4) (pc' := 913) dL_law_912 (by decide) rfl ?_
  refine g_iadd (pc' := 914) dL_law_913 rfl ?_
  refine g_sld (n := i + 4) (pc' := 915) dL_law_914 hM (by omega) (nI_addE rfl rfl) (by omega) rfl ?_
  refine g_aload_n (j := 0) (pc' := 916) dL_law_915 rfl rfl ?_
  refine g_iload_n (j := 3) (pc' := 917) dL_law_916 rfl rfl ?_
  refine g_iconst (v := 5) (pc' := 918) dL_law_917 (by decide) rfl ?_
  refine g_iadd (pc' := 919) dL_law_918 rfl ?_
  refine g_sld (n := i + 5) (pc' := 920) dL_law_919 hM (by omega) (nI_addE rfl rfl) (by omega) rfl ?_
  obtain ⟨r, A2, hc, hr, hA2⟩ := op_ledger hA (M 1000000 (i + 1)) (M 1000000 (i + 2)) (M 1000000 (i + 3)) (M 1000000 (i + 4)) (M 1000000 (i + 5))
  refine g_callV (my := mX11_ledger) (k := 0) (st := []) (av := [.int (M 1000000 (i + 1)), .int (M 1000000 (i + 2)), .int (M 1000000 (i + 3)), .int (M 1000000 (i + 4)), .int (M 1000000 (i + 5))]) (mcr := 0) (msr := 0) (mc := 0) (ms := 0) (pc' := 923) dL_law_920 kX11_ledger wL_121 rfl ⟨rfl, rfl⟩ rfl (Nat.le_of_ble_eq_true rfl) (by decide) (hc M N hC) rfl ?_
  rintro _ _ ⟨M1, N1, rfl, rfl, hC1, hf0⟩
  show Go (mmL nm) _ _ _ 923 [(0, .ref 1000000), (1, .ref 0), (2, .ref 189), (3, .int (nI i))] [.int r] (SK, M1, N1) _
  have hf1 : ∀ a, 189 ≤ a → M1 a = M a := fun a ha => (hf0 a ha).1
  have hM1 : M1 1000001 0 = nI L := by rw [hf1 1000001 (by omega)]; exact hM
  refine g_aload_n (j := 2) (pc' := 924) dL_law_923 rfl rfl ?_
  refine g_aload_n (j := 0) (pc' := 925) dL_law_924 rfl rfl ?_
  refine g_iload_n (j := 3) (pc' := 926) dL_law_925 rfl rfl ?_
  refine g_iconst (v := 1) (pc' := 927) dL_law_926 (by decide) rfl ?_
  refine g_iadd (pc' := 928) dL_law_927 rfl ?_
  refine g_sld (n := i + 1) (pc' := 929) dL_law_928 hM1 (by omega) (nI_addE rfl rfl) (by omega) rfl ?_
  refine g_top (y := M 1000000 (i + 1)) (by rw [hf1 1000000 (by omega)]) ?_
  refine g_aload_n (j := 0) (pc' := 930) dL_law_929 rfl rfl ?_
  refine g_iload_n (j := 3) (pc' := 931) dL_law_930 rfl rfl ?_
  refine g_iconst (v := 2) (pc' := 932) dL_law_931 (by decide) rfl ?_
  refine g_iadd (pc' := 933) dL_law_932 rfl ?_
  refine g_sld (n := i + 2) (pc' := 934) dL_law_933 hM1 (by omega) (nI_addE rfl rfl) (by omega) rfl ?_
  refine g_top (y := M 1000000 (i + 2)) (by rw [hf1 1000000 (by omega)]) ?_
  refine g_aload_n (j := 0) (pc' := 935) dL_law_934 rfl rfl ?_
  refine g_iload_n (j := 3) (pc' := 936) dL_law_935 rfl rfl ?_
  refine g_iconst (v := 3) (pc' := 937) dL_law_936 (by decide) rfl ?_
  refine g_iadd (pc' := 938) dL_law_937 rfl ?_
  refine g_sld (n := i + 3) (pc' := 939) dL_law_938 hM1 (by omega) (nI_addE rfl rfl) (by omega) rfl ?_
  refine g_top (y := M 1000000 (i + 3)) (by rw [hf1 1000000 (by omega)]) ?_
  refine g_aload_n (j := 0) (pc' := 940) dL_law_939 rfl rfl ?_
  refine g_iload_n (j := 3) (pc' := 941) dL_law_940 rfl rfl ?_
  refine g_iconst (v := 4) (pc' := 942) dL_law_941 (by decide) rfl ?_
  refine g_iadd (pc' := 943) dL_law_942 rfl ?_
  refine g_sld (n := i + 4) (pc' := 944) dL_law_943 hM1 (by omega) (nI_addE rfl rfl) (by omega) rfl ?_
  refine g_top (y := M 1000000 (i + 4)) (by rw [hf1 1000000 (by omega)]) ?_
  refine g_aload_n (j := 0) (pc' := 945) dL_law_944 rfl rfl ?_
  refine g_iload_n (j := 3) (pc' := 946) dL_law_945 rfl rfl ?_
  refine g_iconst (v := 5) (pc' := 947) dL_law_946 (by decide) rfl ?_
  refine g_iadd (pc' := 948) dL_law_947 rfl ?_
  refine g_sld (n := i + 5) (pc' := 949) dL_law_948 hM1 (by omega) (nI_addE rfl rfl) (by omega) rfl ?_
  refine g_top (y := M 1000000 (i + 5)) (by rw [hf1 1000000 (by omega)]) ?_
  refine g_callV (my := mX12_ledger) (k := 189) (st := [.int r]) (av := [.int (M 1000000 (i + 1)), .int (M 1000000 (i + 2)), .int (M 1000000 (i + 3)), .int (M 1000000 (i + 4)), .int (M 1000000 (i + 5))]) (mcr := 0) (msr := 0) (mc := 0) (ms := 0) (pc' := 952) dL_law_949 kX12_ledger wL_125 rfl ⟨rfl, rfl⟩ rfl (Nat.le_of_ble_eq_true rfl) (by decide) (hr M1 N1 (hR.same hf0)) rfl ?_
  rintro _ _ ⟨M2, N2, rfl, rfl, hR2, hf2⟩
  show Go (mmL nm) _ _ _ 952 [(0, .ref 1000000), (1, .ref 0), (2, .ref 189), (3, .int (nI i))] [.int r, .int r] (SK, M2, N2) _
  refine g_icmp_eq (tgt := 1232) (pc' := 955) dL_law_952 (by decide) rfl (fun hc => ?_) (fun hc => (absurd rfl hc))
  refine g_iinc (j := 3) (v := nI (i + 6)) (L' := [(0, .ref 1000000), (1, .ref 0), (2, .ref 189), (3, .int (nI (i + 6)))]) (pc' := 1235) dL_law_1232 rfl (nI_add i 6) (Nat.le_of_ble_eq_true rfl) rfl rfl ?_
  refine g_goto (tgt := 18) dL_law_1235 (by decide) ?_
  exact kk A2 M2 N2 hA2 (hC1.same (fun a ha => hf2 a (Or.inl ha))) hR2 (fun a ha => ((hf2 a (Or.inr ha)).1).trans (hf1 a (by omega)))
set_option maxRecDepth 100000 in
set_option maxHeartbeats 1000000 in
theorem lc_27 {nm : String} {L i : Nat} {M : Nat → Nat → Int32} {N : Nat → Nat → Int64} {A : AS} {Q : AQ} (hi : i + 6 ≤ L) (hL : L ≤ 384) (hM : M 1000001 0 = nI L) (hA : AOk A) (hC : CI M N A) (hR : RI M N A) (kk : ∀ (A' : AS) (M' : Nat → Nat → Int32) (N' : Nat → Nat → Int64), AOk A' → CI M' N' A' → RI M' N' A' → (∀ a, 202 ≤ a → M' a = M a) → Go (mmL nm) 31 0 0 18 [(0, .ref 1000000), (1, .ref 0), (2, .ref 189), (3, .int (nI (i + 6)))] [] (SK, M', N') Q) : Go (mmL nm) 31 0 0 33 [(0, .ref 1000000), (1, .ref 0), (2, .ref 189), (3, .int (nI i))] [.int (nI 27)] (SK, M, N) Q := by
  refine g_tblIn (off := 924) (tgt := 957) dL_law_33 (by decide) (by decide) (by decide) (by decide) ?_
  refine g_aload_n (j := 1) (pc' := 958) dL_law_957 rfl rfl ?_
  refine g_aload_n (j := 0) (pc' := 959) dL_law_958 rfl rfl ?_
  refine g_iload_n (j := 3) (pc' := 960) dL_law_959 rfl rfl ?_
  refine g_iconst (v := 1) (pc' := 961) dL_law_960 (by decide) rfl ?_
  refine g_iadd (pc' := 962) dL_law_961 rfl ?_
  refine g_sld (n := i + 1) (pc' := 963) dL_law_962 hM (by omega) (nI_addE rfl rfl) (by omega) rfl ?_
  refine g_aload_n (j := 0) (pc' := 964) dL_law_963 rfl rfl ?_
  refine g_iload_n (j := 3) (pc' := 965) dL_law_964 rfl rfl ?_
  refine g_iconst (v := 2) (pc' := 966) dL_law_965 (by decide) rfl ?_
  refine g_iadd (pc' := 967) dL_law_966 rfl ?_
  refine g_sld (n := i + 2) (pc' := 968) dL_law_967 hM (by omega) (nI_addE rfl rfl) (by omega) rfl ?_
  refine g_aload_n (j := 0) (pc' := 969) dL_law_968 rfl rfl ?_
  refine g_iload_n (j := 3) (pc' := 970) dL_law_969 rfl rfl ?_
  refine g_iconst (v := 3) (pc' := 971) dL_law_970 (by decide) rfl ?_
  refine g_iadd (pc' := 972) dL_law_971 rfl ?_
  refine g_sld (n := i + 3) (pc' := 973) dL_law_972 hM (by omega) (nI_addE rfl rfl) (by omega) rfl ?_
  refine g_aload_n (j := 0) (pc' := 974) dL_law_973 rfl rfl ?_
  refine g_iload_n (j := 3) (pc' := 975) dL_law_974 rfl rfl ?_
  refine g_iconst (v := 4) (pc' := 976) dL_law_975 (by decide) rfl ?_
  refine g_iadd (pc' := 977) dL_law_976 rfl ?_
  refine g_sld (n := i + 4) (pc' := 978) dL_law_977 hM (by omega) (nI_addE rfl rfl) (by omega) rfl ?_
  refine g_aload_n (j := 0) (pc' := 979) dL_law_978 rfl rfl ?_
  refine g_iload_n (j := 3) (pc' := 980) dL_law_979 rfl rfl ?_
  refine g_iconst (v := 5) (pc' := 981) dL_law_980 (by decide) rfl ?_
  refine g_iadd (pc' := 982) dL_law_981 rfl ?_
  refine g_sld (n := i + 5) (pc' := 983) dL_law_982 hM (by omega) (nI_addE rfl rfl) (by omega) rfl ?_
  obtain ⟨r, A2, hc, hr, hA2⟩ := op_film hA (M 1000000 (i + 1)) (M 1000000 (i + 2)) (M 1000000 (i + 3)) (M 1000000 (i + 4)) (M 1000000 (i + 5))
  refine g_callV (my := mX11_film) (k := 0) (st := []) (av := [.int (M 1000000 (i + 1)), .int (M 1000000 (i + 2)), .int (M 1000000 (i + 3)), .int (M 1000000 (i + 4)), .int (M 1000000 (i + 5))]) (mcr := 0) (msr := 0) (mc := 0) (ms := 0) (pc' := 986) dL_law_983 kX11_film wL_126 rfl ⟨rfl, rfl⟩ rfl (Nat.le_of_ble_eq_true rfl) (by decide) (hc M N hC) rfl ?_
  rintro _ _ ⟨M1, N1, rfl, rfl, hC1, hf0⟩
  show Go (mmL nm) _ _ _ 986 [(0, .ref 1000000), (1, .ref 0), (2, .ref 189), (3, .int (nI i))] [.int r] (SK, M1, N1) _
  have hf1 : ∀ a, 189 ≤ a → M1 a = M a := fun a ha => (hf0 a ha).1
  have hM1 : M1 1000001 0 = nI L := by rw [hf1 1000001 (by omega)]; exact hM
  refine g_aload_n (j := 2) (pc' := 987) dL_law_986 rfl rfl ?_
  refine g_aload_n (j := 0) (pc' := 988) dL_law_987 rfl rfl ?_
  refine g_iload_n (j := 3) (pc' := 989) dL_law_988 rfl rfl ?_
  refine g_iconst (v := 1) (pc' := 990) dL_law_989 (by decide) rfl ?_
  refine g_iadd (pc' := 991) dL_law_990 rfl ?_
  refine g_sld (n := i + 1) (pc' := 992) dL_law_991 hM1 (by omega) (nI_addE rfl rfl) (by omega) rfl ?_
  refine g_top (y := M 1000000 (i + 1)) (by rw [hf1 1000000 (by omega)]) ?_
  refine g_aload_n (j := 0) (pc' := 993) dL_law_992 rfl rfl ?_
  refine g_iload_n (j := 3) (pc' := 994) dL_law_993 rfl rfl ?_
  refine g_iconst (v := 2) (pc' := 995) dL_law_994 (by decide) rfl ?_
  refine g_iadd (pc' := 996) dL_law_995 rfl ?_
  refine g_sld (n := i + 2) (pc' := 997) dL_law_996 hM1 (by omega) (nI_addE rfl rfl) (by omega) rfl ?_
  refine g_top (y := M 1000000 (i + 2)) (by rw [hf1 1000000 (by omega)]) ?_
  refine g_aload_n (j := 0) (pc' := 998) dL_law_997 rfl rfl ?_
  refine g_iload_n (j := 3) (pc' := 999) dL_law_998 rfl rfl ?_
  refine g_iconst (v := 3) (pc' := 1000) dL_law_999 (by decide) rfl ?_
  refine g_iadd (pc' := 1001) dL_law_1000 rfl ?_
  refine g_sld (n := i + 3) (pc' := 1002) dL_law_1001 hM1 (by omega) (nI_addE rfl rfl) (by omega) rfl ?_
  refine g_top (y := M 1000000 (i + 3)) (by rw [hf1 1000000 (by omega)]) ?_
  refine g_aload_n (j := 0) (pc' := 1003) dL_law_1002 rfl rfl ?_
  refine g_iload_n (j := 3) (pc' := 1004) dL_law_1003 rfl rfl ?_
  refine g_iconst (v := 4) (pc' := 1005) dL_law_1004 (by decide) rfl ?_
  refine g_iadd (pc' := 1006) dL_law_1005 rfl ?_
  refine g_sld (n := i + 4) (pc' := 1007) dL_law_1006 hM1 (by omega) (nI_addE rfl rfl) (by omega) rfl ?_
  refine g_top (y := M 1000000 (i + 4)) (by rw [hf1 1000000 (by omega)]) ?_
  refine g_aload_n (j := 0) (pc' := 1008) dL_law_1007 rfl rfl ?_
  refine g_iload_n (j := 3) (pc' := 1009) dL_law_1008 rfl rfl ?_
  refine g_iconst (v := 5) (pc' := 1010) dL_law_1009 (by decide) rfl ?_
  refine g_iadd (pc' := 1011) dL_law_1010 rfl ?_
  refine g_sld (n := i + 5) (pc' := 1012) dL_law_1011 hM1 (by omega) (nI_addE rfl rfl) (by omega) rfl ?_
  refine g_top (y := M 1000000 (i + 5)) (by rw [hf1 1000000 (by omega)]) ?_
  refine g_callV (my := mX12_film) (k := 189) (st := [.int r]) (av := [.int (M 1000000 (i + 1)), .int (M 1000000 (i + 2)), .int (M 1000000 (i + 3)), .int (M 1000000 (i + 4)), .int (M 1000000 (i + 5))]) (mcr := 0) (msr := 0) (mc := 0) (ms := 0) (pc' := 1015) dL_law_1012 kX12_film wL_129 rfl ⟨rfl, rfl⟩ rfl (Nat.le_of_ble_eq_true rfl) (by decide) (hr M1 N1 (hR.same hf0)) rfl ?_
  rintro _ _ ⟨M2, N2, rfl, rfl, hR2, hf2⟩
  show Go (mmL nm) _ _ _ 1015 [(0, .ref 1000000), (1, .ref 0), (2, .ref 189), (3, .int (nI i))] [.int r, .int r] (SK, M2, N2) _
  refine g_icmp_eq (tgt := 1232) (pc' := 1018) dL_law_1015 (by decide) rfl (fun hc => ?_) (fun hc => (absurd rfl hc))
  refine g_iinc (j := 3) (v := nI (i + 6)) (L' := [(0, .ref 1000000), (1, .ref 0), (2, .ref 189), (3, .int (nI (i + 6)))]) (pc' := 1235) dL_law_1232 rfl (nI_add i 6) (Nat.le_of_ble_eq_true rfl) rfl rfl ?_
  refine g_goto (tgt := 18) dL_law_1235 (by decide) ?_
  exact kk A2 M2 N2 hA2 (hC1.same (fun a ha => hf2 a (Or.inl ha))) hR2 (fun a ha => ((hf2 a (Or.inr ha)).1).trans (hf1 a (by omega)))
set_option maxRecDepth 100000 in
set_option maxHeartbeats 1000000 in
theorem lc_28 {nm : String} {L i : Nat} {M : Nat → Nat → Int32} {N : Nat → Nat → Int64} {A : AS} {Q : AQ} (hi : i + 6 ≤ L) (hL : L ≤ 384) (hM : M 1000001 0 = nI L) (hA : AOk A) (hC : CI M N A) (hR : RI M N A) (kk : ∀ (A' : AS) (M' : Nat → Nat → Int32) (N' : Nat → Nat → Int64), AOk A' → CI M' N' A' → RI M' N' A' → (∀ a, 202 ≤ a → M' a = M a) → Go (mmL nm) 31 0 0 18 [(0, .ref 1000000), (1, .ref 0), (2, .ref 189), (3, .int (nI (i + 6)))] [] (SK, M', N') Q) : Go (mmL nm) 31 0 0 33 [(0, .ref 1000000), (1, .ref 0), (2, .ref 189), (3, .int (nI i))] [.int (nI 28)] (SK, M, N) Q := by
  refine g_tblIn (off := 987) (tgt := 1020) dL_law_33 (by decide) (by decide) (by decide) (by decide) ?_
  refine g_aload_n (j := 1) (pc' := 1021) dL_law_1020 rfl rfl ?_
  refine g_aload_n (j := 0) (pc' := 1022) dL_law_1021 rfl rfl ?_
  refine g_iload_n (j := 3) (pc' := 1023) dL_law_1022 rfl rfl ?_
  refine g_iconst (v := 1) (pc' := 1024) dL_law_1023 (by decide) rfl ?_
  refine g_iadd (pc' := 1025) dL_law_1024 rfl ?_
  refine g_sld (n := i + 1) (pc' := 1026) dL_law_1025 hM (by omega) (nI_addE rfl rfl) (by omega) rfl ?_
  refine g_aload_n (j := 0) (pc' := 1027) dL_law_1026 rfl rfl ?_
  refine g_iload_n (j := 3) (pc' := 1028) dL_law_1027 rfl rfl ?_
  refine g_iconst (v := 2) (pc' := 1029) dL_law_1028 (by decide) rfl ?_
  refine g_iadd (pc' := 1030) dL_law_1029 rfl ?_
  refine g_sld (n := i + 2) (pc' := 1031) dL_law_1030 hM (by omega) (nI_addE rfl rfl) (by omega) rfl ?_
  refine g_aload_n (j := 0) (pc' := 1032) dL_law_1031 rfl rfl ?_
  refine g_iload_n (j := 3) (pc' := 1033) dL_law_1032 rfl rfl ?_
  refine g_iconst (v := 3) (pc' := 1034) dL_law_1033 (by decide) rfl ?_
  refine g_iadd (pc' := 1035) dL_law_1034 rfl ?_
  refine g_sld (n := i + 3) (pc' := 1036) dL_law_1035 hM (by omega) (nI_addE rfl rfl) (by omega) rfl ?_
  obtain ⟨r, A2, hc, hr, hA2⟩ := op_sheet hA (M 1000000 (i + 1)) (M 1000000 (i + 2)) (M 1000000 (i + 3))
  refine g_callV (my := mX11_sheet) (k := 0) (st := []) (av := [.int (M 1000000 (i + 1)), .int (M 1000000 (i + 2)), .int (M 1000000 (i + 3))]) (mcr := 0) (msr := 0) (mc := 0) (ms := 0) (pc' := 1039) dL_law_1036 kX11_sheet wL_130 rfl ⟨rfl, rfl⟩ rfl (Nat.le_of_ble_eq_true rfl) (by decide) (hc M N hC) rfl ?_
  rintro _ _ ⟨M1, N1, rfl, rfl, hC1, hf0⟩
  show Go (mmL nm) _ _ _ 1039 [(0, .ref 1000000), (1, .ref 0), (2, .ref 189), (3, .int (nI i))] [.int r] (SK, M1, N1) _
  have hf1 : ∀ a, 189 ≤ a → M1 a = M a := fun a ha => (hf0 a ha).1
  have hM1 : M1 1000001 0 = nI L := by rw [hf1 1000001 (by omega)]; exact hM
  refine g_aload_n (j := 2) (pc' := 1040) dL_law_1039 rfl rfl ?_
  refine g_aload_n (j := 0) (pc' := 1041) dL_law_1040 rfl rfl ?_
  refine g_iload_n (j := 3) (pc' := 1042) dL_law_1041 rfl rfl ?_
  refine g_iconst (v := 1) (pc' := 1043) dL_law_1042 (by decide) rfl ?_
  refine g_iadd (pc' := 1044) dL_law_1043 rfl ?_
  refine g_sld (n := i + 1) (pc' := 1045) dL_law_1044 hM1 (by omega) (nI_addE rfl rfl) (by omega) rfl ?_
  refine g_top (y := M 1000000 (i + 1)) (by rw [hf1 1000000 (by omega)]) ?_
  refine g_aload_n (j := 0) (pc' := 1046) dL_law_1045 rfl rfl ?_
  refine g_iload_n (j := 3) (pc' := 1047) dL_law_1046 rfl rfl ?_
  refine g_iconst (v := 2) (pc' := 1048) dL_law_1047 (by decide) rfl ?_
  refine g_iadd (pc' := 1049) dL_law_1048 rfl ?_
  refine g_sld (n := i + 2) (pc' := 1050) dL_law_1049 hM1 (by omega) (nI_addE rfl rfl) (by omega) rfl ?_
  refine g_top (y := M 1000000 (i + 2)) (by rw [hf1 1000000 (by omega)]) ?_
  refine g_aload_n (j := 0) (pc' := 1051) dL_law_1050 rfl rfl ?_
  refine g_iload_n (j := 3) (pc' := 1052) dL_law_1051 rfl rfl ?_
  refine g_iconst (v := 3) (pc' := 1053) dL_law_1052 (by decide) rfl ?_
  refine g_iadd (pc' := 1054) dL_law_1053 rfl ?_
  refine g_sld (n := i + 3) (pc' := 1055) dL_law_1054 hM1 (by omega) (nI_addE rfl rfl) (by omega) rfl ?_
  refine g_top (y := M 1000000 (i + 3)) (by rw [hf1 1000000 (by omega)]) ?_
  refine g_callV (my := mX12_sheet) (k := 189) (st := [.int r]) (av := [.int (M 1000000 (i + 1)), .int (M 1000000 (i + 2)), .int (M 1000000 (i + 3))]) (mcr := 0) (msr := 0) (mc := 0) (ms := 0) (pc' := 1058) dL_law_1055 kX12_sheet wL_133 rfl ⟨rfl, rfl⟩ rfl (Nat.le_of_ble_eq_true rfl) (by decide) (hr M1 N1 (hR.same hf0)) rfl ?_
  rintro _ _ ⟨M2, N2, rfl, rfl, hR2, hf2⟩
  show Go (mmL nm) _ _ _ 1058 [(0, .ref 1000000), (1, .ref 0), (2, .ref 189), (3, .int (nI i))] [.int r, .int r] (SK, M2, N2) _
  refine g_icmp_eq (tgt := 1232) (pc' := 1061) dL_law_1058 (by decide) rfl (fun hc => ?_) (fun hc => (absurd rfl hc))
  refine g_iinc (j := 3) (v := nI (i + 6)) (L' := [(0, .ref 1000000), (1, .ref 0), (2, .ref 189), (3, .int (nI (i + 6)))]) (pc' := 1235) dL_law_1232 rfl (nI_add i 6) (Nat.le_of_ble_eq_true rfl) rfl rfl ?_
  refine g_goto (tgt := 18) dL_law_1235 (by decide) ?_
  exact kk A2 M2 N2 hA2 (hC1.same (fun a ha => hf2 a (Or.inl ha))) hR2 (fun a ha => ((hf2 a (Or.inr ha)).1).trans (hf1 a (by omega)))
set_option maxRecDepth 100000 in
set_option maxHeartbeats 1000000 in
theorem lc_29 {nm : String} {L i : Nat} {M : Nat → Nat → Int32} {N : Nat → Nat → Int64} {A : AS} {Q : AQ} (hi : i + 6 ≤ L) (hL : L ≤ 384) (hM : M 1000001 0 = nI L) (hA : AOk A) (hC : CI M N A) (hR : RI M N A) (kk : ∀ (A' : AS) (M' : Nat → Nat → Int32) (N' : Nat → Nat → Int64), AOk A' → CI M' N' A' → RI M' N' A' → (∀ a, 202 ≤ a → M' a = M a) → Go (mmL nm) 31 0 0 18 [(0, .ref 1000000), (1, .ref 0), (2, .ref 189), (3, .int (nI (i + 6)))] [] (SK, M', N') Q) : Go (mmL nm) 31 0 0 33 [(0, .ref 1000000), (1, .ref 0), (2, .ref 189), (3, .int (nI i))] [.int (nI 29)] (SK, M, N) Q := by
  refine g_tblIn (off := 1030) (tgt := 1063) dL_law_33 (by decide) (by decide) (by decide) (by decide) ?_
  refine g_aload_n (j := 1) (pc' := 1064) dL_law_1063 rfl rfl ?_
  refine g_aload_n (j := 0) (pc' := 1065) dL_law_1064 rfl rfl ?_
  refine g_iload_n (j := 3) (pc' := 1066) dL_law_1065 rfl rfl ?_
  refine g_iconst (v := 1) (pc' := 1067) dL_law_1066 (by decide) rfl ?_
  refine g_iadd (pc' := 1068) dL_law_1067 rfl ?_
  refine g_sld (n := i + 1) (pc' := 1069) dL_law_1068 hM (by omega) (nI_addE rfl rfl) (by omega) rfl ?_
  obtain ⟨r, A2, hc, hr, hA2⟩ := op_drop hA (M 1000000 (i + 1))
  refine g_callV (my := mX11_drop) (k := 0) (st := []) (av := [.int (M 1000000 (i + 1))]) (mcr := 0) (msr := 0) (mc := 0) (ms := 0) (pc' := 1072) dL_law_1069 kX11_drop wL_134 rfl ⟨rfl, rfl⟩ rfl (Nat.le_of_ble_eq_true rfl) (by decide) (hc M N hC) rfl ?_
  rintro _ _ ⟨M1, N1, rfl, rfl, hC1, hf0⟩
  show Go (mmL nm) _ _ _ 1072 [(0, .ref 1000000), (1, .ref 0), (2, .ref 189), (3, .int (nI i))] [.int r] (SK, M1, N1) _
  have hf1 : ∀ a, 189 ≤ a → M1 a = M a := fun a ha => (hf0 a ha).1
  have hM1 : M1 1000001 0 = nI L := by rw [hf1 1000001 (by omega)]; exact hM
  refine g_aload_n (j := 2) (pc' := 1073) dL_law_1072 rfl rfl ?_
  refine g_aload_n (j := 0) (pc' := 1074) dL_law_1073 rfl rfl ?_
  refine g_iload_n (j := 3) (pc' := 1075) dL_law_1074 rfl rfl ?_
  refine g_iconst (v := 1) (pc' := 1076) dL_law_1075 (by decide) rfl ?_
  refine g_iadd (pc' := 1077) dL_law_1076 rfl ?_
  refine g_sld (n := i + 1) (pc' := 1078) dL_law_1077 hM1 (by omega) (nI_addE rfl rfl) (by omega) rfl ?_
  refine g_top (y := M 1000000 (i + 1)) (by rw [hf1 1000000 (by omega)]) ?_
  refine g_callV (my := mX12_drop) (k := 189) (st := [.int r]) (av := [.int (M 1000000 (i + 1))]) (mcr := 0) (msr := 0) (mc := 0) (ms := 0) (pc' := 1081) dL_law_1078 kX12_drop wL_137 rfl ⟨rfl, rfl⟩ rfl (Nat.le_of_ble_eq_true rfl) (by decide) (hr M1 N1 (hR.same hf0)) rfl ?_
  rintro _ _ ⟨M2, N2, rfl, rfl, hR2, hf2⟩
  show Go (mmL nm) _ _ _ 1081 [(0, .ref 1000000), (1, .ref 0), (2, .ref 189), (3, .int (nI i))] [.int r, .int r] (SK, M2, N2) _
  refine g_icmp_eq (tgt := 1232) (pc' := 1084) dL_law_1081 (by decide) rfl (fun hc => ?_) (fun hc => (absurd rfl hc))
  refine g_iinc (j := 3) (v := nI (i + 6)) (L' := [(0, .ref 1000000), (1, .ref 0), (2, .ref 189), (3, .int (nI (i + 6)))]) (pc' := 1235) dL_law_1232 rfl (nI_add i 6) (Nat.le_of_ble_eq_true rfl) rfl rfl ?_
  refine g_goto (tgt := 18) dL_law_1235 (by decide) ?_
  exact kk A2 M2 N2 hA2 (hC1.same (fun a ha => hf2 a (Or.inl ha))) hR2 (fun a ha => ((hf2 a (Or.inr ha)).1).trans (hf1 a (by omega)))
set_option maxRecDepth 100000 in
set_option maxHeartbeats 1000000 in
theorem lc_30 {nm : String} {L i : Nat} {M : Nat → Nat → Int32} {N : Nat → Nat → Int64} {A : AS} {Q : AQ} (hi : i + 6 ≤ L) (hL : L ≤ 384) (hM : M 1000001 0 = nI L) (hA : AOk A) (hC : CI M N A) (hR : RI M N A) (kk : ∀ (A' : AS) (M' : Nat → Nat → Int32) (N' : Nat → Nat → Int64), AOk A' → CI M' N' A' → RI M' N' A' → (∀ a, 202 ≤ a → M' a = M a) → Go (mmL nm) 31 0 0 18 [(0, .ref 1000000), (1, .ref 0), (2, .ref 189), (3, .int (nI (i + 6)))] [] (SK, M', N') Q) : Go (mmL nm) 31 0 0 33 [(0, .ref 1000000), (1, .ref 0), (2, .ref 189), (3, .int (nI i))] [.int (nI 30)] (SK, M, N) Q := by
  refine g_tblIn (off := 1053) (tgt := 1086) dL_law_33 (by decide) (by decide) (by decide) (by decide) ?_
  refine g_aload_n (j := 1) (pc' := 1087) dL_law_1086 rfl rfl ?_
  refine g_aload_n (j := 0) (pc' := 1088) dL_law_1087 rfl rfl ?_
  refine g_iload_n (j := 3) (pc' := 1089) dL_law_1088 rfl rfl ?_
  refine g_iconst (v := 1) (pc' := 1090) dL_law_1089 (by decide) rfl ?_
  refine g_iadd (pc' := 1091) dL_law_1090 rfl ?_
  refine g_sld (n := i + 1) (pc' := 1092) dL_law_1091 hM (by omega) (nI_addE rfl rfl) (by omega) rfl ?_
  refine g_aload_n (j := 0) (pc' := 1093) dL_law_1092 rfl rfl ?_
  refine g_iload_n (j := 3) (pc' := 1094) dL_law_1093 rfl rfl ?_
  refine g_iconst (v := 2) (pc' := 1095) dL_law_1094 (by decide) rfl ?_
  refine g_iadd (pc' := 1096) dL_law_1095 rfl ?_
  refine g_sld (n := i + 2) (pc' := 1097) dL_law_1096 hM (by omega) (nI_addE rfl rfl) (by omega) rfl ?_
  refine g_aload_n (j := 0) (pc' := 1098) dL_law_1097 rfl rfl ?_
  refine g_iload_n (j := 3) (pc' := 1099) dL_law_1098 rfl rfl ?_
  refine g_iconst (v := 3) (pc' := 1100) dL_law_1099 (by decide) rfl ?_
  refine g_iadd (pc' := 1101) dL_law_1100 rfl ?_
  refine g_sld (n := i + 3) (pc' := 1102) dL_law_1101 hM (by omega) (nI_addE rfl rfl) (by omega) rfl ?_
  refine g_aload_n (j := 0) (pc' := 1103) dL_law_1102 rfl rfl ?_
  refine g_iload_n (j := 3) (pc' := 1104) dL_law_1103 rfl rfl ?_
  refine g_iconst (v := 4) (pc' := 1105) dL_law_1104 (by decide) rfl ?_
  refine g_iadd (pc' := 1106) dL_law_1105 rfl ?_
  refine g_sld (n := i + 4) (pc' := 1107) dL_law_1106 hM (by omega) (nI_addE rfl rfl) (by omega) rfl ?_
  refine g_i2l (pc' := 1108) dL_law_1107 rfl ?_
  refine g_bipush (v := 32) (pc' := 1110) dL_law_1108 (by decide) rfl ?_
  refine g_lshl (pc' := 1111) dL_law_1110 rfl ?_
  refine g_aload_n (j := 0) (pc' := 1112) dL_law_1111 rfl rfl ?_
  refine g_iload_n (j := 3) (pc' := 1113) dL_law_1112 rfl rfl ?_
  refine g_iconst (v := 5) (pc' := 1114) dL_law_1113 (by decide) rfl ?_
  refine g_iadd (pc' := 1115) dL_law_1114 rfl ?_
  refine g_sld (n := i + 5) (pc' := 1116) dL_law_1115 hM (by omega) (nI_addE rfl rfl) (by omega) rfl ?_
  refine g_i2l (pc' := 1117) dL_law_1116 rfl ?_
  refine g_ldc2 (v := 4294967295) (pc' := 1120) dL_law_1117 qL_138 rfl ?_
  refine g_land (pc' := 1121) dL_law_1120 rfl ?_
  refine g_lor (pc' := 1122) dL_law_1121 rfl ?_
  obtain ⟨r, A2, hc, hr, hA2⟩ := op_item hA (M 1000000 (i + 1)) (M 1000000 (i + 2)) (M 1000000 (i + 3)) (((Int32.toInt64 (M 1000000 (i + 4))) <<< (Int32.toInt64 32 &&& 63)) ||| ((Int32.toInt64 (M 1000000 (i + 5))) &&& 4294967295))
  refine g_callV (my := mX11_item) (k := 0) (st := []) (av := [.int (M 1000000 (i + 1)), .int (M 1000000 (i + 2)), .int (M 1000000 (i + 3)), .long (((Int32.toInt64 (M 1000000 (i + 4))) <<< (Int32.toInt64 32 &&& 63)) ||| ((Int32.toInt64 (M 1000000 (i + 5))) &&& 4294967295))]) (mcr := 0) (msr := 0) (mc := 0) (ms := 0) (pc' := 1125) dL_law_1122 kX11_item wL_140 rfl ⟨rfl, rfl⟩ rfl (Nat.le_of_ble_eq_true rfl) (by decide) (hc M N hC) rfl ?_
  rintro _ _ ⟨M1, N1, rfl, rfl, hC1, hf0⟩
  show Go (mmL nm) _ _ _ 1125 [(0, .ref 1000000), (1, .ref 0), (2, .ref 189), (3, .int (nI i))] [.int r] (SK, M1, N1) _
  have hf1 : ∀ a, 189 ≤ a → M1 a = M a := fun a ha => (hf0 a ha).1
  have hM1 : M1 1000001 0 = nI L := by rw [hf1 1000001 (by omega)]; exact hM
  refine g_aload_n (j := 2) (pc' := 1126) dL_law_1125 rfl rfl ?_
  refine g_aload_n (j := 0) (pc' := 1127) dL_law_1126 rfl rfl ?_
  refine g_iload_n (j := 3) (pc' := 1128) dL_law_1127 rfl rfl ?_
  refine g_iconst (v := 1) (pc' := 1129) dL_law_1128 (by decide) rfl ?_
  refine g_iadd (pc' := 1130) dL_law_1129 rfl ?_
  refine g_sld (n := i + 1) (pc' := 1131) dL_law_1130 hM1 (by omega) (nI_addE rfl rfl) (by omega) rfl ?_
  refine g_top (y := M 1000000 (i + 1)) (by rw [hf1 1000000 (by omega)]) ?_
  refine g_aload_n (j := 0) (pc' := 1132) dL_law_1131 rfl rfl ?_
  refine g_iload_n (j := 3) (pc' := 1133) dL_law_1132 rfl rfl ?_
  refine g_iconst (v := 2) (pc' := 1134) dL_law_1133 (by decide) rfl ?_
  refine g_iadd (pc' := 1135) dL_law_1134 rfl ?_
  refine g_sld (n := i + 2) (pc' := 1136) dL_law_1135 hM1 (by omega) (nI_addE rfl rfl) (by omega) rfl ?_
  refine g_top (y := M 1000000 (i + 2)) (by rw [hf1 1000000 (by omega)]) ?_
  refine g_aload_n (j := 0) (pc' := 1137) dL_law_1136 rfl rfl ?_
  refine g_iload_n (j := 3) (pc' := 1138) dL_law_1137 rfl rfl ?_
  refine g_iconst (v := 3) (pc' := 1139) dL_law_1138 (by decide) rfl ?_
  refine g_iadd (pc' := 1140) dL_law_1139 rfl ?_
  refine g_sld (n := i + 3) (pc' := 1141) dL_law_1140 hM1 (by omega) (nI_addE rfl rfl) (by omega) rfl ?_
  refine g_top (y := M 1000000 (i + 3)) (by rw [hf1 1000000 (by omega)]) ?_
  refine g_aload_n (j := 0) (pc' := 1142) dL_law_1141 rfl rfl ?_
  refine g_iload_n (j := 3) (pc' := 1143) dL_law_1142 rfl rfl ?_
  refine g_iconst (v := 4) (pc' := 1144) dL_law_1143 (by decide) rfl ?_
  refine g_iadd (pc' := 1145) dL_law_1144 rfl ?_
  refine g_sld (n := i + 4) (pc' := 1146) dL_law_1145 hM1 (by omega) (nI_addE rfl rfl) (by omega) rfl ?_
  refine g_top (y := M 1000000 (i + 4)) (by rw [hf1 1000000 (by omega)]) ?_
  refine g_i2l (pc' := 1147) dL_law_1146 rfl ?_
  refine g_bipush (v := 32) (pc' := 1149) dL_law_1147 (by decide) rfl ?_
  refine g_lshl (pc' := 1150) dL_law_1149 rfl ?_
  refine g_aload_n (j := 0) (pc' := 1151) dL_law_1150 rfl rfl ?_
  refine g_iload_n (j := 3) (pc' := 1152) dL_law_1151 rfl rfl ?_
  refine g_iconst (v := 5) (pc' := 1153) dL_law_1152 (by decide) rfl ?_
  refine g_iadd (pc' := 1154) dL_law_1153 rfl ?_
  refine g_sld (n := i + 5) (pc' := 1155) dL_law_1154 hM1 (by omega) (nI_addE rfl rfl) (by omega) rfl ?_
  refine g_top (y := M 1000000 (i + 5)) (by rw [hf1 1000000 (by omega)]) ?_
  refine g_i2l (pc' := 1156) dL_law_1155 rfl ?_
  refine g_ldc2 (v := 4294967295) (pc' := 1159) dL_law_1156 qL_138 rfl ?_
  refine g_land (pc' := 1160) dL_law_1159 rfl ?_
  refine g_lor (pc' := 1161) dL_law_1160 rfl ?_
  refine g_callV (my := mX12_item) (k := 189) (st := [.int r]) (av := [.int (M 1000000 (i + 1)), .int (M 1000000 (i + 2)), .int (M 1000000 (i + 3)), .long (((Int32.toInt64 (M 1000000 (i + 4))) <<< (Int32.toInt64 32 &&& 63)) ||| ((Int32.toInt64 (M 1000000 (i + 5))) &&& 4294967295))]) (mcr := 0) (msr := 0) (mc := 0) (ms := 0) (pc' := 1164) dL_law_1161 kX12_item wL_144 rfl ⟨rfl, rfl⟩ rfl (Nat.le_of_ble_eq_true rfl) (by decide) (hr M1 N1 (hR.same hf0)) rfl ?_
  rintro _ _ ⟨M2, N2, rfl, rfl, hR2, hf2⟩
  show Go (mmL nm) _ _ _ 1164 [(0, .ref 1000000), (1, .ref 0), (2, .ref 189), (3, .int (nI i))] [.int r, .int r] (SK, M2, N2) _
  refine g_icmp_eq (tgt := 1232) (pc' := 1167) dL_law_1164 (by decide) rfl (fun hc => ?_) (fun hc => (absurd rfl hc))
  refine g_iinc (j := 3) (v := nI (i + 6)) (L' := [(0, .ref 1000000), (1, .ref 0), (2, .ref 189), (3, .int (nI (i + 6)))]) (pc' := 1235) dL_law_1232 rfl (nI_add i 6) (Nat.le_of_ble_eq_true rfl) rfl rfl ?_
  refine g_goto (tgt := 18) dL_law_1235 (by decide) ?_
  exact kk A2 M2 N2 hA2 (hC1.same (fun a ha => hf2 a (Or.inl ha))) hR2 (fun a ha => ((hf2 a (Or.inr ha)).1).trans (hf1 a (by omega)))
set_option maxRecDepth 100000 in
set_option maxHeartbeats 1000000 in
theorem lc_31 {nm : String} {L i : Nat} {M : Nat → Nat → Int32} {N : Nat → Nat → Int64} {A : AS} {Q : AQ} (hi : i + 6 ≤ L) (hL : L ≤ 384) (hM : M 1000001 0 = nI L) (hA : AOk A) (hC : CI M N A) (hR : RI M N A) (kk : ∀ (A' : AS) (M' : Nat → Nat → Int32) (N' : Nat → Nat → Int64), AOk A' → CI M' N' A' → RI M' N' A' → (∀ a, 202 ≤ a → M' a = M a) → Go (mmL nm) 31 0 0 18 [(0, .ref 1000000), (1, .ref 0), (2, .ref 189), (3, .int (nI (i + 6)))] [] (SK, M', N') Q) : Go (mmL nm) 31 0 0 33 [(0, .ref 1000000), (1, .ref 0), (2, .ref 189), (3, .int (nI i))] [.int (nI 31)] (SK, M, N) Q := by
  refine g_tblIn (off := 1136) (tgt := 1169) dL_law_33 (by decide) (by decide) (by decide) (by decide) ?_
  refine g_aload_n (j := 1) (pc' := 1170) dL_law_1169 rfl rfl ?_
  refine g_aload_n (j := 0) (pc' := 1171) dL_law_1170 rfl rfl ?_
  refine g_iload_n (j := 3) (pc' := 1172) dL_law_1171 rfl rfl ?_
  refine g_iconst (v := 1) (pc' := 1173) dL_law_1172 (by decide) rfl ?_
  refine g_iadd (pc' := 1174) dL_law_1173 rfl ?_
  refine g_sld (n := i + 1) (pc' := 1175) dL_law_1174 hM (by omega) (nI_addE rfl rfl) (by omega) rfl ?_
  refine g_aload_n (j := 0) (pc' := 1176) dL_law_1175 rfl rfl ?_
  refine g_iload_n (j := 3) (pc' := 1177) dL_law_1176 rfl rfl ?_
  refine g_iconst (v := 2) (pc' := 1178) dL_law_1177 (by decide) rfl ?_
  refine g_iadd (pc' := 1179) dL_law_1178 rfl ?_
  refine g_sld (n := i + 2) (pc' := 1180) dL_law_1179 hM (by omega) (nI_addE rfl rfl) (by omega) rfl ?_
  refine g_aload_n (j := 0) (pc' := 1181) dL_law_1180 rfl rfl ?_
  refine g_iload_n (j := 3) (pc' := 1182) dL_law_1181 rfl rfl ?_
  refine g_iconst (v := 3) (pc' := 1183) dL_law_1182 (by decide) rfl ?_
  refine g_iadd (pc' := 1184) dL_law_1183 rfl ?_
  refine g_sld (n := i + 3) (pc' := 1185) dL_law_1184 hM (by omega) (nI_addE rfl rfl) (by omega) rfl ?_
  refine g_aload_n (j := 0) (pc' := 1186) dL_law_1185 rfl rfl ?_
  refine g_iload_n (j := 3) (pc' := 1187) dL_law_1186 rfl rfl ?_
  refine g_iconst (v := 4) (pc' := 1188) dL_law_1187 (by decide) rfl ?_
  refine g_iadd (pc' := 1189) dL_law_1188 rfl ?_
  refine g_sld (n := i + 4) (pc' := 1190) dL_law_1189 hM (by omega) (nI_addE rfl rfl) (by omega) rfl ?_
  refine g_aload_n (j := 0) (pc' := 1191) dL_law_1190 rfl rfl ?_
  refine g_iload_n (j := 3) (pc' := 1192) dL_law_1191 rfl rfl ?_
  refine g_iconst (v := 5) (pc' := 1193) dL_law_1192 (by decide) rfl ?_
  refine g_iadd (pc' := 1194) dL_law_1193 rfl ?_
  refine g_sld (n := i + 5) (pc' := 1195) dL_law_1194 hM (by omega) (nI_addE rfl rfl) (by omega) rfl ?_
  obtain ⟨r, A2, hc, hr, hA2⟩ := op_copy hA (M 1000000 (i + 1)) (M 1000000 (i + 2)) (M 1000000 (i + 3)) (M 1000000 (i + 4)) (M 1000000 (i + 5))
  refine g_callV (my := mX11_copy) (k := 0) (st := []) (av := [.int (M 1000000 (i + 1)), .int (M 1000000 (i + 2)), .int (M 1000000 (i + 3)), .int (M 1000000 (i + 4)), .int (M 1000000 (i + 5))]) (mcr := 0) (msr := 0) (mc := 0) (ms := 0) (pc' := 1198) dL_law_1195 kX11_copy wL_145 rfl ⟨rfl, rfl⟩ rfl (Nat.le_of_ble_eq_true rfl) (by decide) (hc M N hC) rfl ?_
  rintro _ _ ⟨M1, N1, rfl, rfl, hC1, hf0⟩
  show Go (mmL nm) _ _ _ 1198 [(0, .ref 1000000), (1, .ref 0), (2, .ref 189), (3, .int (nI i))] [.int r] (SK, M1, N1) _
  have hf1 : ∀ a, 189 ≤ a → M1 a = M a := fun a ha => (hf0 a ha).1
  have hM1 : M1 1000001 0 = nI L := by rw [hf1 1000001 (by omega)]; exact hM
  refine g_aload_n (j := 2) (pc' := 1199) dL_law_1198 rfl rfl ?_
  refine g_aload_n (j := 0) (pc' := 1200) dL_law_1199 rfl rfl ?_
  refine g_iload_n (j := 3) (pc' := 1201) dL_law_1200 rfl rfl ?_
  refine g_iconst (v := 1) (pc' := 1202) dL_law_1201 (by decide) rfl ?_
  refine g_iadd (pc' := 1203) dL_law_1202 rfl ?_
  refine g_sld (n := i + 1) (pc' := 1204) dL_law_1203 hM1 (by omega) (nI_addE rfl rfl) (by omega) rfl ?_
  refine g_top (y := M 1000000 (i + 1)) (by rw [hf1 1000000 (by omega)]) ?_
  refine g_aload_n (j := 0) (pc' := 1205) dL_law_1204 rfl rfl ?_
  refine g_iload_n (j := 3) (pc' := 1206) dL_law_1205 rfl rfl ?_
  refine g_iconst (v := 2) (pc' := 1207) dL_law_1206 (by decide) rfl ?_
  refine g_iadd (pc' := 1208) dL_law_1207 rfl ?_
  refine g_sld (n := i + 2) (pc' := 1209) dL_law_1208 hM1 (by omega) (nI_addE rfl rfl) (by omega) rfl ?_
  refine g_top (y := M 1000000 (i + 2)) (by rw [hf1 1000000 (by omega)]) ?_
  refine g_aload_n (j := 0) (pc' := 1210) dL_law_1209 rfl rfl ?_
  refine g_iload_n (j := 3) (pc' := 1211) dL_law_1210 rfl rfl ?_
  refine g_iconst (v := 3) (pc' := 1212) dL_law_1211 (by decide) rfl ?_
  refine g_iadd (pc' := 1213) dL_law_1212 rfl ?_
  refine g_sld (n := i + 3) (pc' := 1214) dL_law_1213 hM1 (by omega) (nI_addE rfl rfl) (by omega) rfl ?_
  refine g_top (y := M 1000000 (i + 3)) (by rw [hf1 1000000 (by omega)]) ?_
  refine g_aload_n (j := 0) (pc' := 1215) dL_law_1214 rfl rfl ?_
  refine g_iload_n (j := 3) (pc' := 1216) dL_law_1215 rfl rfl ?_
  refine g_iconst (v := 4) (pc' := 1217) dL_law_1216 (by decide) rfl ?_
  refine g_iadd (pc' := 1218) dL_law_1217 rfl ?_
  refine g_sld (n := i + 4) (pc' := 1219) dL_law_1218 hM1 (by omega) (nI_addE rfl rfl) (by omega) rfl ?_
  refine g_top (y := M 1000000 (i + 4)) (by rw [hf1 1000000 (by omega)]) ?_
  refine g_aload_n (j := 0) (pc' := 1220) dL_law_1219 rfl rfl ?_
  refine g_iload_n (j := 3) (pc' := 1221) dL_law_1220 rfl rfl ?_
  refine g_iconst (v := 5) (pc' := 1222) dL_law_1221 (by decide) rfl ?_
  refine g_iadd (pc' := 1223) dL_law_1222 rfl ?_
  refine g_sld (n := i + 5) (pc' := 1224) dL_law_1223 hM1 (by omega) (nI_addE rfl rfl) (by omega) rfl ?_
  refine g_top (y := M 1000000 (i + 5)) (by rw [hf1 1000000 (by omega)]) ?_
  refine g_callV (my := mX12_copy) (k := 189) (st := [.int r]) (av := [.int (M 1000000 (i + 1)), .int (M 1000000 (i + 2)), .int (M 1000000 (i + 3)), .int (M 1000000 (i + 4)), .int (M 1000000 (i + 5))]) (mcr := 0) (msr := 0) (mc := 0) (ms := 0) (pc' := 1227) dL_law_1224 kX12_copy wL_148 rfl ⟨rfl, rfl⟩ rfl (Nat.le_of_ble_eq_true rfl) (by decide) (hr M1 N1 (hR.same hf0)) rfl ?_
  rintro _ _ ⟨M2, N2, rfl, rfl, hR2, hf2⟩
  show Go (mmL nm) _ _ _ 1227 [(0, .ref 1000000), (1, .ref 0), (2, .ref 189), (3, .int (nI i))] [.int r, .int r] (SK, M2, N2) _
  refine g_icmp_eq (tgt := 1232) (pc' := 1230) dL_law_1227 (by decide) rfl (fun hc => ?_) (fun hc => (absurd rfl hc))
  refine g_iinc (j := 3) (v := nI (i + 6)) (L' := [(0, .ref 1000000), (1, .ref 0), (2, .ref 189), (3, .int (nI (i + 6)))]) (pc' := 1235) dL_law_1232 rfl (nI_add i 6) (Nat.le_of_ble_eq_true rfl) rfl rfl ?_
  refine g_goto (tgt := 18) dL_law_1235 (by decide) ?_
  exact kk A2 M2 N2 hA2 (hC1.same (fun a ha => hf2 a (Or.inl ha))) hR2 (fun a ha => ((hf2 a (Or.inr ha)).1).trans (hf1 a (by omega)))
set_option maxRecDepth 100000 in
set_option maxHeartbeats 1000000 in
theorem law_loop {nm : String} {L : Nat} (hL : L ≤ 384) : ∀ (u i : Nat) (A : AS) (M : Nat → Nat → Int32) (N : Nat → Nat → Int64), L < i + 6 * u + 6 → i ≤ 1000 → M 1000001 0 = nI L → AOk A → CI M N A → RI M N A → Go (mmL nm) 31 0 0 18 [(0, .ref 1000000), (1, .ref 0), (2, .ref 189), (3, .int (nI i))] [] (SK, M, N) (fun r _ => r = some (.int 1)) := by
  intro u
  induction u with
  | zero =>
    intro i A M N hu hi hM hA hC hR
    refine g_iload_n (j := 3) (pc' := 19) dL_law_18 rfl rfl ?_
    refine g_aload_n (j := 0) (pc' := 20) dL_law_19 rfl rfl ?_
    refine g_slen (pc' := 21) dL_law_20 rfl ?_
    refine g_top (y := nI L) (hM) ?_
    refine g_bipush (v := 6) (pc' := 23) dL_law_21 (by decide) rfl ?_
    refine g_isub (pc' := 24) dL_law_23 rfl ?_
    refine g_icmp_gt (tgt := 1238) (pc' := 27) dL_law_24 (by decide) rfl (fun hc => ?_) (fun hc => (absurd ((lw_lt hL hi).mpr (by omega)) hc))
    refine g_iconst (v := 1) (pc' := 1239) dL_law_1238 (by decide) rfl ?_
    exact g_iret dL_law_1239 rfl (by decide) (rfl)
  | succ u ih =>
    intro i A M N hu hi hM hA hC hR
    refine g_iload_n (j := 3) (pc' := 19) dL_law_18 rfl rfl ?_
    refine g_aload_n (j := 0) (pc' := 20) dL_law_19 rfl rfl ?_
    refine g_slen (pc' := 21) dL_law_20 rfl ?_
    refine g_top (y := nI L) (hM) ?_
    refine g_bipush (v := 6) (pc' := 23) dL_law_21 (by decide) rfl ?_
    refine g_isub (pc' := 24) dL_law_23 rfl ?_
    by_cases h6 : L < i + 6
    · refine g_icmp_gt (tgt := 1238) (pc' := 27) dL_law_24 (by decide) rfl (fun hc => ?_) (fun hc => (absurd ((lw_lt hL hi).mpr (by omega)) hc))
      refine g_iconst (v := 1) (pc' := 1239) dL_law_1238 (by decide) rfl ?_
      exact g_iret dL_law_1239 rfl (by decide) (rfl)
    · refine g_icmp_gt (tgt := 1238) (pc' := 27) dL_law_24 (by decide) rfl (fun hc => (absurd ((lw_lt hL hi).mp hc) h6)) (fun hc => ?_)
      refine g_aload_n (j := 0) (pc' := 28) dL_law_27 rfl rfl ?_
      refine g_iload_n (j := 3) (pc' := 29) dL_law_28 rfl rfl ?_
      refine g_sld (n := i) (pc' := 30) dL_law_29 hM (by omega) rfl (by omega) rfl ?_
      refine g_bipush (v := 31) (pc' := 32) dL_law_30 (by decide) rfl ?_
      refine g_iand (pc' := 33) dL_law_32 rfl ?_
      obtain ⟨j, hj, e⟩ : ∃ j : Nat, j < 32 ∧ M 1000000 i &&& 31 = nI j := pk_andE _ 5 (by decide)
      refine g_top (y := nI j) (e) ?_
      have kk : ∀ (A' : AS) (M' : Nat → Nat → Int32) (N' : Nat → Nat → Int64), AOk A' → CI M' N' A' → RI M' N' A' → (∀ a, 202 ≤ a → M' a = M a) → Go (mmL nm) 31 0 0 18 [(0, .ref 1000000), (1, .ref 0), (2, .ref 189), (3, .int (nI (i + 6)))] [] (SK, M', N') (fun r _ => r = some (.int 1)) := fun A' M' N' a1 a2 a3 a4 => ih (i + 6) A' M' N' (by omega) (by omega) (by rw [a4 1000001 (by omega)]; exact hM) a1 a2 a3
      rcases (show j = 0 ∨ j = 1 ∨ j = 2 ∨ j = 3 ∨ j = 4 ∨ j = 5 ∨ j = 6 ∨ j = 7 ∨ j = 8 ∨ j = 9 ∨ j = 10 ∨ j = 11 ∨ j = 12 ∨ j = 13 ∨ j = 14 ∨ j = 15 ∨ j = 16 ∨ j = 17 ∨ j = 18 ∨ j = 19 ∨ j = 20 ∨ j = 21 ∨ j = 22 ∨ j = 23 ∨ j = 24 ∨ j = 25 ∨ j = 26 ∨ j = 27 ∨ j = 28 ∨ j = 29 ∨ j = 30 ∨ j = 31 by omega) with rfl | rfl | rfl | rfl | rfl | rfl | rfl | rfl | rfl | rfl | rfl | rfl | rfl | rfl | rfl | rfl | rfl | rfl | rfl | rfl | rfl | rfl | rfl | rfl | rfl | rfl | rfl | rfl | rfl | rfl | rfl | rfl
      · exact lc_0 (by omega) hL hM hA hC hR kk
      · exact lc_1 (by omega) hL hM hA hC hR kk
      · exact lc_2 (by omega) hL hM hA hC hR kk
      · exact lc_3 (by omega) hL hM hA hC hR kk
      · exact lc_4 (by omega) hL hM hA hC hR kk
      · exact lc_5 (by omega) hL hM hA hC hR kk
      · exact lc_6 (by omega) hL hM hA hC hR kk
      · exact lc_7 (by omega) hL hM hA hC hR kk
      · exact lc_8 (by omega) hL hM hA hC hR kk
      · exact lc_9 (by omega) hL hM hA hC hR kk
      · exact lc_10 (by omega) hL hM hA hC hR kk
      · exact lc_11 (by omega) hL hM hA hC hR kk
      · exact lc_12 (by omega) hL hM hA hC hR kk
      · exact lc_13 (by omega) hL hM hA hC hR kk
      · exact lc_14 (by omega) hL hM hA hC hR kk
      · exact lc_15 (by omega) hL hM hA hC hR kk
      · exact lc_16 (by omega) hL hM hA hC hR kk
      · exact lc_17 (by omega) hL hM hA hC hR kk
      · exact lc_18 (by omega) hL hM hA hC hR kk
      · exact lc_19 (by omega) hL hM hA hC hR kk
      · exact lc_20 (by omega) hL hM hA hC hR kk
      · exact lc_21 (by omega) hL hM hA hC hR kk
      · exact lc_22 (by omega) hL hM hA hC hR kk
      · exact lc_23 (by omega) hL hM hA hC hR kk
      · exact lc_24 (by omega) hL hM hA hC hR kk
      · exact lc_25 (by omega) hL hM hA hC hR kk
      · exact lc_26 (by omega) hL hM hA hC hR kk
      · exact lc_27 (by omega) hL hM hA hC hR kk
      · exact lc_28 (by omega) hL hM hA hC hR kk
      · exact lc_29 (by omega) hL hM hA hC hR kk
      · exact lc_30 (by omega) hL hM hA hC hR kk
      · exact lc_31 (by omega) hL hM hA hC hR kk
