/-! THE CLAIM OUT OF ONE WALK OF THE LAW'S BODY. Your part is whole_start (and what it stands on); all else here is the same for every law, but numbers. -/
def R_law : String := "FurrowNamesLaw"
def lw_P (b : Addr) (xs : List Int32) (args : Array Value) (s : State) : Prop := args = #[.ref b] ∧ s.IntsAt b xs ∧ xs.length ≤ 384 ∧ (Jvm.Cond.and given_1 narrow_1).before args s = true
def lw_Q (_ : Array Value) (s : State) (o : Outcome) (t : State) : Prop := o = .returned (some (.int 1)) ∧ Framed s o t [] 600000 7302250
def lw_Z (below : List Frame) (a : Array Value) (s : State) : State → Prop := fun t => ∃ o, t.status = .running ∧ Ended t below o ∧ lw_Q a s o t
/-- the law's own end, with 1 on the stack, nothing written that was there before, its room as the claim has it -/
theorem lw_ret {p : Program} {l : Launch} {e : Env} {s : State} {m : MethodId} {below : List Frame} {meth : Method} {c : Code} {b : Nat} (hx : p.tables.exec = Jvm.exec) (hb : c.code = code) (hr : meth.sig.returnType = ret) (hlocks : meth.locks = false) {pc : Nat} {H : Heap} {ls : Array Slot} (hdg : decode code pc = .ok (.ireturn, 1)) : W p l e room_1 s m #[Value.ref b] below meth c H [] 600000 7302250 (lw_Z below #[Value.ref b] s) (F0 m pc ls [.int 1]) := by
  intro T hT X
  obtain ⟨fs, hret, hrun, hended, hW, hframe⟩ := X.leave (v := some (.int 1)) (hlocks := hlocks) (fun h => by rw [hr] at h; cases h)
  have hmeth' : T.vm.method? m = some meth := X.method'
  refine ⟨T.setFrames fs, ?_, .returned (some (.int 1)), hrun, hended, rfl, ⟨_, rfl⟩, hW, hframe⟩
  jvm_step X.here [X.here.top, hx, hb, hdg, hmeth', hr, ret, narrow_b1]
  (try refine ⟨rfl, ?_⟩); (try refine ⟨rfl, ?_⟩)
  first | (intro acts; rw [hret _ acts rfl rfl rfl]) | rw [hret _ _ rfl rfl rfl]
  exact Steps.refl _
/-- what holds at the law's entry: the machine, the code, the tables' words (any of lw_tbl by 'hts w (by decide +kernel)'), the script of L ints xs at the cell b, what the Statement gives of the start (any of its parts by flat_of_before) -/
def lw_At (p : Program) (s : State) (m : MethodId) (meth : Method) (c : Code) (b L : Nat) (xs : Nat → Int32) : Prop :=
  p.tables.exec = Jvm.exec ∧ c.code = code ∧ meth.sig.returnType = ret ∧ c.maxLocals = 4 ∧ s.vm.findClass R_law = some m.cls ∧ (∀ w ∈ lw_tbl, w.before #[Value.ref b] s = true) ∧ va_X b L xs s s.heap ∧ b < s.heap.size ∧ meth.locks = false ∧ (Jvm.Cond.and given_1 narrow_1).before #[Value.ref b] s = true
theorem tm_of {w : Cond} (i : Nat) (h : tables_1[i]? = some w) : w ∈ lw_tbl := List.mem_append_right _ (List.mem_of_getElem? h)
def stm (i : Nat) : Term := .string RX10 (sidx.getD i 0)
abbrev pre1 : List Cond := flatC (Jvm.Cond.and given_1 narrow_1)
theorem q_ex : ∀ i, i < 7 → Cond.exactly (stm i) "java/lang/String" ∈ pre1 := by decide +kernel
theorem q_co : ∀ i, i < 7 → Cond.eq (.field (stm i) "java/lang/String" "coder" "B") (.int 0) ∈ pre1 := by decide +kernel
theorem q_ar : ∀ i, i < 7 → Cond.arrayOf (.field (stm i) "java/lang/String" "value" "[B") .byte ∈ pre1 := by decide +kernel
theorem q_le : ∀ i, i < 7 → Cond.eq (.length (.field (stm i) "java/lang/String" "value" "[B")) (.int (Int32.ofNat (slen.getD i 0))) ∈ pre1 := by decide +kernel
theorem q_el : ∀ i, i < 7 → ∀ j, j < slen.getD i 0 → Cond.eq (.elem (.field (stm i) "java/lang/String" "value" "[B") (.int (Int32.ofNat j))) (.int ((sbyt.getD i []).getD j 0)) ∈ pre1 := by decide +kernel
theorem q_ne : ∀ i, i < 7 → ∀ j, j < 7 → i < j → Cond.not (Cond.eq (stm i) (stm j)) ∈ pre1 := by decide +kernel
theorem q_cs : Cond.eq (.static "java/lang/String" "COMPACT_STRINGS" "Z") (.int 1) ∈ pre1 := by decide +kernel
theorem q_len : ∀ i, i < 7 → slen.getD i 0 < 2 ^ 31 := by decide
theorem q_sr : ∀ i, i < 7 → Cond.stringRef RX10 (sidx.getD i 0) (stx.getD i "") ∈ lw_tbl := by
  intro i hi
  rcases (show i = 0 ∨ i = 1 ∨ i = 2 ∨ i = 3 ∨ i = 4 ∨ i = 5 ∨ i = 6 by omega) with rfl | rfl | rfl | rfl | rfl | rfl | rfl
  · exact tm_of 401 (by decide +kernel)
  · exact tm_of 496 (by decide +kernel)
  · exact tm_of 501 (by decide +kernel)
  · exact tm_of 502 (by decide +kernel)
  · exact tm_of 504 (by decide +kernel)
  · exact tm_of 509 (by decide +kernel)
  · exact tm_of 511 (by decide +kernel)
theorem kx_entry {s : State} {b : Nat} (hts : ∀ w ∈ lw_tbl, w.before #[Value.ref b] s = true) (hgv : (Jvm.Cond.and given_1 narrow_1).before #[Value.ref b] s = true) : ∃ (D : va_G) (ad : Nat → Nat), Kx s.heap.size D ad s ∧ (∀ k, k < 1000000 → ad k = s.heap.size + k) ∧ ad 1000000 = b := by
  have hg : ∀ w ∈ gtbl, w.before #[Value.ref b] s = true := fun w hw => hts w (List.mem_filter.mp hw).1
  have hs := flat_of_before _ hgv
  have hA : ∀ a : Nat, a < s.heap.size → ¬ (s.heap.size ≤ a) := fun a h => Nat.not_le.mpr h
  obtain ⟨c0, s0, K0⟩ := u_known (C := RX0) (T := TX0) (N := 4) (n := 4) hg inG0 (hts (.instantiable RX0 4) (tm_of 32 (by decide +kernel)))
  obtain ⟨c1, s1, K1⟩ := u_known (C := RX1) (T := TX1) (N := 0) (n := 0) hg inG1 (hts (.instantiable RX1 0) (tm_of 67 (by decide +kernel)))
  obtain ⟨c2, s2, K2⟩ := u_known (C := RX2) (T := TX2) (N := 0) (n := 0) hg inG2 (hts (.instantiable RX2 0) (tm_of 60 (by decide +kernel)))
  obtain ⟨c3, s3, K3⟩ := u_known (C := RX3) (T := TX3) (N := 4) (n := 4) hg inG3 (hts (.instantiable RX3 4) (tm_of 89 (by decide +kernel)))
  obtain ⟨c4, s4, K4⟩ := u_known (C := RX4) (T := TX4) (N := 12) (n := 12) hg inG4 (hts (.instantiable RX4 12) (tm_of 108 (by decide +kernel)))
  obtain ⟨c5, s5, K5⟩ := u_known (C := RX5) (T := TX5) (N := 3) (n := 3) hg inG5 (hts (.instantiable RX5 3) (tm_of 177 (by decide +kernel)))
  obtain ⟨c6, s6, K6⟩ := u_known (C := RX6) (T := TX6) (N := 0) (n := 0) hg inG6 (hts (.instantiable RX6 0) (tm_of 39 (by decide +kernel)))
  obtain ⟨c7, s7, K7⟩ := u_known (C := RX7) (T := TX7) (N := 0) (n := 0) hg inG7 (hts (.instantiable RX7 0) (tm_of 53 (by decide +kernel)))
  obtain ⟨c8, s8, K8⟩ := u_known (C := RX8) (T := TX8) (N := 0) (n := 0) hg inG8 (hts (.instantiable RX8 0) (tm_of 46 (by decide +kernel)))
  obtain ⟨c9, s9, K9⟩ := u_known (C := RX9) (T := TX9) (N := 4) (n := 4) hg inG9 (hts (.instantiable RX9 4) (tm_of 219 (by decide +kernel)))
  obtain ⟨c10, s10, K10⟩ := u_known (C := RX10) (T := TX10) (N := 3) (n := 3) hg inG10 (hts (.instantiable RX10 3) (tm_of 197 (by decide +kernel)))
  obtain ⟨c11, s11, K11⟩ := u_known (C := RX11) (T := TX11) (N := 11) (n := 11) hg inG11 (hts (.instantiable RX11 11) (tm_of 24 (by decide +kernel)))
  obtain ⟨c12, s12, K12⟩ := u_known (C := RX12) (T := TX12) (N := 16) (n := 16) hg inG12 (hts (.instantiable RX12 16) (tm_of 734 (by decide +kernel)))
  obtain ⟨dC, dI, hKc⟩ : ∃ (dC : Nat → ClassId) (dI : Nat → Nat → Nat), ∀ (k : Nat) (q : vw_C), vwCl[k]? = some q → u_Kn s q.1 q.2.1 q.2.2 (dC k) (dI k) := by
    refine ⟨fun k => [c0, c1, c2, c3, c4, c5, c6, c7, c8, c9, c10, c11, c12].getD k c0, fun k => [s0, s1, s2, s3, s4, s5, s6, s7, s8, s9, s10, s11, s12].getD k s0, ?_⟩
    intro k q hq
    have hk : k < 13 := (List.getElem?_eq_some_iff.mp hq).1
    rcases (show k = 0 ∨ k = 1 ∨ k = 2 ∨ k = 3 ∨ k = 4 ∨ k = 5 ∨ k = 6 ∨ k = 7 ∨ k = 8 ∨ k = 9 ∨ k = 10 ∨ k = 11 ∨ k = 12 by omega) with rfl | rfl | rfl | rfl | rfl | rfl | rfl | rfl | rfl | rfl | rfl | rfl | rfl
    · cases hq; exact K0
    · cases hq; exact K1
    · cases hq; exact K2
    · cases hq; exact K3
    · cases hq; exact K4
    · cases hq; exact K5
    · cases hq; exact K6
    · cases hq; exact K7
    · cases hq; exact K8
    · cases hq; exact K9
    · cases hq; exact K10
    · cases hq; exact K11
    · cases hq; exact K12
  obtain ⟨aK, aV, hS, hE⟩ := vk_Sof (N := 7) (tm := stm) (len := slen) (byt := sbyt) (A := fun q => s.heap.size ≤ q) q_len (fun i hi => hs _ (q_ex i hi)) (fun i hi => hs _ (q_co i hi)) (fun i hi => hs _ (q_ar i hi)) (fun i hi => hs _ (q_le i hi)) (fun i hi j hj => hs _ (q_el i hi j hj)) (fun i j hi hj hne => by
    rcases Nat.lt_or_gt_of_ne hne with h | h
    · exact Or.inl (hs _ (q_ne i hi j hj h))
    · exact Or.inr (hs _ (q_ne j hj i hi h))) hA
  obtain ⟨ad, h1, h2, h3, h4⟩ : ∃ ad : Nat → Nat, (∀ k, k < 1000000 → ad k = s.heap.size + k) ∧ ad 1000000 = b ∧ (∀ i, i < 7 → ad (2000000 + i) = aK i) ∧ ∀ i, i < 7 → ad (2000010 + i) = aV i := by
    refine ⟨fun k => if k < 1000000 then s.heap.size + k else if k = 1000000 then b else if k < 2000010 then aK (k - 2000000) else aV (k - 2000010), fun k hk => if_pos hk, ?_, fun i hi => ?_, fun i hi => ?_⟩
    · show (if 1000000 < 1000000 then _ else if 1000000 = 1000000 then b else _) = b
      rw [if_neg (by omega), if_pos rfl]
    · show (if 2000000 + i < 1000000 then _ else if 2000000 + i = 1000000 then b else if 2000000 + i < 2000010 then aK (2000000 + i - 2000000) else aV (2000000 + i - 2000010)) = _
      rw [if_neg (by omega), if_neg (by omega), if_pos (by omega), Nat.add_sub_cancel_left]
    · show (if 2000010 + i < 1000000 then _ else if 2000010 + i = 1000000 then b else if 2000010 + i < 2000010 then aK (2000010 + i - 2000000) else aV (2000010 + i - 2000010)) = _
      rw [if_neg (by omega), if_neg (by omega), if_neg (by omega), Nat.add_sub_cancel_left]
  have hS2 : vk_S 7 slen sbyt (fun i => ad (2000000 + i)) (fun i => ad (2000010 + i)) (fun q => s.heap.size ≤ q) s s.heap := by
    refine ⟨fun i hi => ?_, fun i j hi hj e => hS.2 i j hi hj ?_⟩
    · have h9 := hS.1 i hi
      rw [← h3 i hi, ← h4 i hi] at h9
      exact h9
    · rw [← h3 i hi, ← h3 j hj]; exact e
  refine ⟨(dC, dI), ad, ⟨⟨hKc, fun k q h => by simp at h⟩, va_AO.of (hts (.arrayOver (.object RX6)) (tm_of 38 (by decide +kernel))), va_AO.of (hts (.arrayOver (.object RX4)) (tm_of 183 (by decide +kernel))), va_AO.of (hts (.arrayOver (.object RX9)) (tm_of 216 (by decide +kernel))), hts (.arrayOver (.array .int)) (tm_of 218 (by decide +kernel)), hS2, va_Zof (hts (.laysStatic "java/lang/String" "COMPACT_STRINGS" "Z") (tm_of 423 (by decide +kernel))) (hts (.initialized "java/lang/String") (tm_of 14 (by decide +kernel))) (va_eqt (hs _ q_cs)) hA, fun i hi => ?_⟩, h1, h2⟩
  refine vk_R.of (hts _ (q_sr i hi)) ?_
  rw [h3 i hi]
  exact hE i hi
set_option maxHeartbeats 4000000 in
set_option maxRecDepth 100000 in
/-- the law, from its entry -/
theorem whole_start {p : Program} {e : Env} {s : State} {m : MethodId} {below : List Frame} {meth : Method} {c : Code} (l : Launch) {b L : Nat} {xs : Nat → Int32} (hL : L ≤ 384) (C0 : lw_At p s m meth c b L xs) : W p l e room_1 s m #[Value.ref b] below meth c s.heap [] 0 0 (lw_Z below #[Value.ref b] s) (entryFrame m ([Value.ref b] : List Value).toArray 4) := by
  obtain ⟨hx, hb, hr, hml, hown, hts, hX, hbl, hlocks, hgv⟩ := id C0
  have hg : ∀ w ∈ gtbl, w.before #[Value.ref b] s = true := fun w hw => hts w (List.mem_filter.mp hw).1
  obtain ⟨D, ad, hK, had, hab⟩ := kx_entry hts hgv
  have hl := lv_entry ([.ref b]) (n := 4) (Nat.le_of_ble_eq_true rfl)
  rw [lg_entry_eq]
  generalize (lg_sl ([.ref b]) ++ List.replicate (4 - (lg_sl ([.ref b])).length) Slot.unset).toArray = ls at hl ⊢
  have hl : lv_has ls 4 [(0, .ref b)] := hl
  have hl2 : lv_has ls (mmL meth.name).2.2.1 (([(0, .ref 1000000)] : AL).map fun q => (q.1, cv ad q.2)) := by
    show lv_has ls 4 [(0, .ref (ad 1000000))]
    rw [hab]; exact hl
  generalize hM : (fun (a j : Nat) => if a = 1000000 then xs j else if a = 1000001 then nI L else 0) = M
  have hM0 : M 1000000 = xs := by rw [← hM]; funext j; exact if_pos rfl
  have hM1 : M 1000001 0 = nI L := by rw [← hM]; rfl
  have hR : Rep s.heap.size D ad (fun _ => 0) ([], M, fun _ _ => 0) s s.heap := by
    refine ⟨fun k q h => by simp [wsOf] at h, rfl, Nat.zero_le _, fun k c ty hk => by simp at hk, L, by omega, hM1, ?_, by rw [hab]; exact hbl⟩
    show va_X (ad 1000000) L (M 1000000) s s.heap
    rw [hab, hM0]; exact hX
  have hgo := law_go (nm := meth.name) (M := M) (N := fun _ _ => 0) hL hM1 s.heap.size D ad (fun _ => 0) p l e room_1 s m #[Value.ref b] below meth c s.heap [] 0 0 (lw_Z below #[Value.ref b] s) ls ⟨hx, hb, hml, hown, rfl, hg, Nat.le_of_ble_eq_true rfl, Nat.le_of_ble_eq_true rfl, hK, had⟩ hR va_S.rf hl2 (Nat.le_of_ble_eq_true rfl) (Nat.le_of_ble_eq_true rfl)
  refine hgo (fun r h' cid' H' locs' pc' ls' cs' ss' hq hR' hS' hc' hs' hret => ?_)
  have hq : r = some (.int 1) := hq
  subst hq
  refine va_forget (fun q hq => hS'.2.2 q hq) ?_
  refine W.widen (k := 600000) (n := 7302250) (by omega) (by omega) ?_
  exact lw_ret hx hb hr hlocks hret.1
