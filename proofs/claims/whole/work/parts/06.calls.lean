/-! ===== ROWS of Go: calls ===== -/
theorem mws_good {mm : MM} (h : Cond.code mm.1 mm.2.1 mm.2.2.1 mm.2.2.2 ∈ gtbl) : GoodIn gtbl (mws mm) := by
  intro w hw
  rcases List.mem_cons.mp hw with rfl | hw
  · exact ⟨h, gt_good h⟩
  · exact ⟨hw, gt_good hw⟩
theorem good_pre {ws a : List Cond} (h : GoodIn gtbl ws) (ha : ∀ w ∈ a, w ∈ gtbl) : GoodIn gtbl (a ++ ws) := by
  intro w hw
  rcases List.mem_append.mp hw with hw | hw
  · exact ⟨ha w hw, gt_good (ha w hw)⟩
  · exact h w hw
theorem rest_room {m : MethodId} {pc : Nat} {ls : Array Slot} {st0 : List Value} (ad : Nat → Nat) {st : List Value} (h : (st.map fun v => v.category).sum ≤ 8) : 2 * (F0 m pc ls st0).monitorRoom + ((st.map (cv ad)).map fun v => v.category).sum ≤ 8 := by
  refine lv_room ?_
  have : (st.map (cv ad)).map (fun v => v.category) = st.map fun v => v.category := by
    rw [List.map_map]
    exact List.map_congr_left fun v _ => cv_cat ad v
  rw [this]
  exact h
/-- the method's own facts, each out of the tables: its code; not of the two odd classes; how many parameters; its locals are few -/
def MOk (mm : MM) (n : Nat) : Prop := Cond.code mm.1 mm.2.1 mm.2.2.1 mm.2.2.2 ∈ gtbl ∧ Cond.initialized mm.1.cls ∈ gtbl ∧ (mm.1.cls ≠ "java/lang/invoke/MethodHandle" ∧ mm.1.cls ≠ "java/lang/invoke/VarHandle" ∧ (parseMethodDescriptor mm.1.desc).map (fun d => d.parameters.length) = some n) ∧ mm.2.2.1 ≤ 20
section GC
variable {mm my : MM} {d d' mcr msr mc ms pc pc' : Nat} {L : AL} {st : List Value} {h : AH} {Q Q' : AQ}
/-- behind a call -/
theorem g_after {B0 : Nat} {D : va_G} {ad : Nat → Nat} {p : Program} {l : Launch} {e : Env} {R : Room} {s : State} {m : MethodId} {args : Array Value} {below : List Frame} {meth : Method} {c : Code} {H : Heap} {locs : List Loc} {cells slots : Nat} {Qf : State → Prop} {ls : Array Slot} {st0 rest : List Value} {a : Array Value}
    (hr : va_Run p l e R s m args below meth c H locs cells slots mc ms (F0 m pc ls st0) rest (RPost B0 D ad Q' a) (fun q => B0 ≤ q)) (hS : va_S (fun q => B0 ≤ q) s.heap H locs)
    (kk : ∀ (r : Option Value) (h' : AH) (cid' : Nat → ClassId) (H1 : Heap) (locs1 : List Loc), Q' r h' → Rep B0 D ad cid' h' s H1 → va_S (fun q => B0 ≤ q) s.heap H1 locs1 → W p l e R s m args below meth c H1 locs1 (cells + mc) (slots + ms) Qf (F0 m (pc + 3) ls ((r.map (cv ad)).toList ++ rest))) : W p l e R s m args below meth c H locs cells slots Qf (F0 m pc ls st0) := by
  intro T hT X
  obtain ⟨v, st₀, t, T', L, h0, X', hL, e1, e2, ⟨⟨r, h', cid', hv, hq, hrep⟩, hz, hk⟩, st⟩ := hr T hT X
  cases hv
  rw [h0] at hz hk
  have hal : s.vm.Alike t.vm := by rw [← e2]; exact X'.warmed.alike
  obtain ⟨t2, a1, b1⟩ := kk r h' cid' T'.heap (locs ++ L) hq (by rw [e1]; exact hrep.moved hal.symm)
    ⟨Nat.le_trans hS.1 (by rw [e1]; exact hz), fun q h1 h2 => by rw [e1, hk q (Nat.lt_of_lt_of_le h1 hS.1) h2]; exact hS.2.1 q h1 h2, fun q hq => by
      rcases List.mem_append.mp hq with h | h
      · exact hS.2.2 q h
      · exact hL q h⟩ T' rfl X'
  exact ⟨t2, st t2 a1, b1⟩
theorem g_pre {B0 : Nat} {D : va_G} {ad : Nat → Nat} {cid : Nat → ClassId} {s : State} {H : Heap} {locs : List Loc} {av : List Value} (hB : ∀ k, k < 1000000 → ad k = B0 + k) (hK : Kx B0 D ad s) (hR : Rep B0 D ad cid h s H) (hS : va_S (fun q => B0 ≤ q) s.heap H locs) : PreS s H (va_Pc (av.map (cv ad)) (RPre B0 D ad cid h)) (av.map (cv ad)) :=
  ⟨RPre.blind, fun U hU hW => ⟨rfl, hB, hK.enter hS hU hW, by rw [hU]; exact hR.moved hW.alike⟩⟩
theorem g_callS {idx n : Nat} {av : List Value} (hd : decode mm.2.1 pc = .ok (.invokestatic idx, 3)) (hM : MOk my n) (hw : Cond.methodLink mm.1.cls idx my.1 ∈ gtbl ∧ Cond.static my.1 ∈ gtbl) (hn : av.length = n) (hrm : (st.map fun v => v.category).sum ≤ 8) (hdd : d' + 1 ≤ d) (hrun : Run my d' mc ms av h Q') (hp : pc + 3 = pc')
    (kk : ∀ (r : Option Value) (h' : AH), Q' r h' → Go mm d mcr msr pc' L (r.toList ++ st) h' Q) : Go mm d (mcr + mc) (msr + ms) pc L (av.reverse ++ st) h Q := by
  subst hp
  intro B0 D ad cid p l e R s m args below meth c H locs cells slots Qf ls hC hR hS hl hc hs' hE
  have hts := hC.2.2.2.2.2.1
  have hfr := hC.2.2.2.2.2.2.1
  have hlo := hC.2.2.2.2.2.2.2.1
  have hlm := hM.2.2.2
  refine g_after (Q' := Q') (mc := mc) (ms := ms) (rest := st.map (cv ad)) (va_runS (As := av.map (cv ad)) (n := n) (bytes := my.2.1) (maxL := my.2.2.1) (ret := my.2.2.2) (nL := mm.2.2.1) ⟨hC.1, hC.2.1, hC.2.2.1, hC.2.2.2.1, hts⟩ (hrun l B0 D ad cid) (va_cwS (Ts := gtbl) (ws' := gtbl) n hts (good_pre (mws_good hM.1) (a := [.methodLink mm.1.cls idx my.1, .static my.1, .initialized my.1.cls]) (by
      intro w h9
      rcases List.mem_cons.mp h9 with rfl | h9
      · exact hw.1
      rcases List.mem_cons.mp h9 with rfl | h9
      · exact hw.2
      rw [List.mem_singleton.mp h9]
      exact hM.2.1)) rfl rfl rfl hM.2.2.1 ⟨?_, ?_⟩) (g_pre hC.2.2.2.2.2.2.2.2.2 hC.2.2.2.2.2.2.2.2.1 hR hS) rfl ?_ ?_ ?_ (rest_room ad hrm) hd ⟨?_, ?_⟩) hS ?_
  · show d' + 1 ≤ R.frames; omega
  · show 8 + (my.2.2.1 + 11) + 40 * d' ≤ R.locals; omega
  · rw [List.length_map]; exact hn
  · exact hl.1
  · show (av.reverse ++ st).map (cv ad) = (av.map (cv ad)).reverse ++ st.map (cv ad)
    rw [List.map_append, List.map_reverse]
  · omega
  · omega
  · intro r h' cid' H1 locs1 hq hR1 hS1
    have k9 := kk r h' hq B0 D ad cid' p l e R s m args below meth c H1 locs1 (cells + mc) (slots + ms) Qf ls hC hR1 hS1 hl (by omega) (by omega) (fun r h' cid' H' locs' pc' ls' cs' ss' a1 a2 a3 a4 a5 a6 => hE r h' cid' H' locs' pc' ls' cs' ss' a1 a2 a3 (by omega) (by omega) a6)
    have e9 : (r.toList ++ st).map (cv ad) = (r.map (cv ad)).toList ++ st.map (cv ad) := by cases r <;> rfl
    rw [e9] at k9
    exact k9
/-- a call of a constructor -/
theorem g_callI {idx n k : Nat} {av : List Value} (hd : decode mm.2.1 pc = .ok (.invokespecial idx, 3)) (hM : MOk my n) (hw : Cond.methodLink mm.1.cls idx my.1 ∈ gtbl ∧ Cond.instanceMethod my.1 ∈ gtbl ∧ my.1.name = "<init>" ∧ my.2.2.2 = none) (hn : av.length = n) (hrm : (st.map fun v => v.category).sum ≤ 8) (hdd : d' + 1 ≤ d) (hrun : Run my d' mc ms (.ref k :: av) h Q') (hp : pc + 3 = pc')
    (kk : ∀ (r : Option Value) (h' : AH), Q' r h' → Go mm d mcr msr pc' L (r.toList ++ st) h' Q) : Go mm d (mcr + mc) (msr + ms) pc L (av.reverse ++ .ref k :: st) h Q := by
  subst hp
  intro B0 D ad cid p l e R s m args below meth c H locs cells slots Qf ls hC hR hS hl hc hs' hE
  have hts := hC.2.2.2.2.2.1
  have hfr := hC.2.2.2.2.2.2.1
  have hlo := hC.2.2.2.2.2.2.2.1
  have hlm := hM.2.2.2
  obtain ⟨y, bytes, mL, rt⟩ := my
  obtain ⟨w1, w2, w3, w4⟩ := hw
  dsimp only at w1 w2 w3 w4
  subst w4
  refine g_after (Q' := Q') (mc := mc) (ms := ms) (rest := st.map (cv ad)) (va_runI (b := ad k) (As := av.map (cv ad)) (n := n) (bytes := bytes) (maxL := mL) (nL := mm.2.2.1) ⟨hC.1, hC.2.1, hC.2.2.1, hC.2.2.2.1, hts⟩ (hrun l B0 D ad cid) (cwI (Ts := gtbl) (ws' := gtbl) n hts (mws_good hM.1) rfl rfl rfl (hts _ hM.2.1) (hts _ w1) (hts _ w2) w3 hM.2.2.1 ⟨?_, ?_⟩) (g_pre (av := .ref k :: av) hC.2.2.2.2.2.2.2.2.2 hC.2.2.2.2.2.2.2.2.1 hR hS) rfl ?_ ?_ ?_ (rest_room ad hrm) hd ⟨?_, ?_⟩) hS ?_
  · show d' + 1 ≤ R.frames; omega
  · show 8 + (mL + 11) + 40 * d' ≤ R.locals; dsimp only at hlm; omega
  · rw [List.length_map]; exact hn
  · exact hl.1
  · show (av.reverse ++ .ref k :: st).map (cv ad) = (av.map (cv ad)).reverse ++ .ref (ad k) :: st.map (cv ad)
    rw [List.map_append, List.map_reverse]
    rfl
  · omega
  · omega
  · intro r h' cid' H1 locs1 hq hR1 hS1
    have k9 := kk r h' hq B0 D ad cid' p l e R s m args below meth c H1 locs1 (cells + mc) (slots + ms) Qf ls hC hR1 hS1 hl (by omega) (by omega) (fun r h' cid' H' locs' pc' ls' cs' ss' a1 a2 a3 a4 a5 a6 => hE r h' cid' H' locs' pc' ls' cs' ss' a1 a2 a3 (by omega) (by omega) a6)
    have e9 : (r.toList ++ st).map (cv ad) = (r.map (cv ad)).toList ++ st.map (cv ad) := by cases r <;> rfl
    rw [e9] at k9
    exact k9
theorem Rep.recv {B0 : Nat} {D : va_G} {ad : Nat → Nat} {cid : Nat → ClassId} {s : State} {H : Heap} {k ci : Nat} {vs : List Value} {q : vw_C} (hK : Kx B0 D ad s) (hR : Rep B0 D ad cid h s H) (hs : h.1[k]? = some (ci, vs)) (hc : vwCl[ci]? = some q) : ∃ cell : Cell, H[ad k]? = some cell ∧ cell.vm.isStatics = false ∧ s.vm.findClass q.1 = some cell.cls :=
  va_recv hK.1 hR.1 hc (Rep.obj (B0 := B0) (D := D) (s := s) (H := H) (sk := h.1) (M := h.2.1) (N := h.2.2) hs (vw_lt hc))
/-- invokevirtual of a method of the object's own class -/
theorem g_callV {idx n k ci : Nat} {av vs : List Value} {q : vw_C} (hd : decode mm.2.1 pc = .ok (.invokevirtual idx, 3)) (hM : MOk my n) (hw : Cond.methodLink mm.1.cls idx my.1 ∈ gtbl ∧ Cond.instanceMethod my.1 ∈ gtbl ∧ Cond.selects my.1.cls my.1 my.1 ∈ gtbl) (hs : h.1[k]? = some (ci, vs)) (hc : vwCl[ci]? = some q ∧ q.1 = my.1.cls) (hn : av.length = n) (hrm : (st.map fun v => v.category).sum ≤ 8) (hdd : d' + 1 ≤ d) (hrun : Run my d' mc ms (.ref k :: av) h Q') (hp : pc + 3 = pc')
    (kk : ∀ (r : Option Value) (h' : AH), Q' r h' → Go mm d mcr msr pc' L (r.toList ++ st) h' Q) : Go mm d (mcr + mc) (msr + ms) pc L (av.reverse ++ .ref k :: st) h Q := by
  subst hp
  intro B0 D ad cid p l e R s m args below meth c H locs cells slots Qf ls hC hR hS hl hc' hs' hE
  have hts := hC.2.2.2.2.2.1
  have hfr := hC.2.2.2.2.2.2.1
  have hlo := hC.2.2.2.2.2.2.2.1
  have hlm := hM.2.2.2
  have hrc := Rep.recv hC.2.2.2.2.2.2.2.2.1 hR hs hc.1
  rw [hc.2] at hrc
  have hpre := g_pre (av := .ref k :: av) hC.2.2.2.2.2.2.2.2.2 hC.2.2.2.2.2.2.2.2.1 hR hS
  refine g_after (Q' := Q') (mc := mc) (ms := ms) (rest := st.map (cv ad)) (va_runV (b := ad k) (C := my.1.cls) (As := av.map (cv ad)) (n := n) (bytes := my.2.1) (maxL := my.2.2.1) (ret := my.2.2.2) (nL := mm.2.2.1) ⟨hC.1, hC.2.1, hC.2.2.1, hC.2.2.2.1, hts⟩ (hrun l B0 D ad cid) (cwV (Ts := gtbl) (ws' := gtbl) n hts (good_pre (mws_good hM.1) (a := [.methodLink mm.1.cls idx my.1, .instanceMethod my.1, .selects my.1.cls my.1 my.1, .initialized my.1.cls]) (by
      intro w h9
      rcases List.mem_cons.mp h9 with rfl | h9
      · exact hw.1
      rcases List.mem_cons.mp h9 with rfl | h9
      · exact hw.2.1
      rcases List.mem_cons.mp h9 with rfl | h9
      · exact hw.2.2
      rw [List.mem_singleton.mp h9]
      exact hM.2.1)) rfl rfl rfl ⟨rfl, hM.2.2.1⟩ ⟨?_, ?_⟩) ⟨hpre.1, hrc, hpre.2⟩ rfl ?_ ?_ ?_ (rest_room ad hrm) hd ⟨?_, ?_⟩) hS ?_
  · show d' + 1 ≤ R.frames; omega
  · show 8 + (my.2.2.1 + 11) + 40 * d' ≤ R.locals; omega
  · rw [List.length_map]; exact hn
  · exact hl.1
  · show (av.reverse ++ .ref k :: st).map (cv ad) = (av.map (cv ad)).reverse ++ .ref (ad k) :: st.map (cv ad)
    rw [List.map_append, List.map_reverse]
    rfl
  · omega
  · omega
  · intro r h' cid' H1 locs1 hq hR1 hS1
    have k9 := kk r h' hq B0 D ad cid' p l e R s m args below meth c H1 locs1 (cells + mc) (slots + ms) Qf ls hC hR1 hS1 hl (by omega) (by omega) (fun r h' cid' H' locs' pc' ls' cs' ss' a1 a2 a3 a4 a5 a6 => hE r h' cid' H' locs' pc' ls' cs' ss' a1 a2 a3 (by omega) (by omega) a6)
    have e9 : (r.toList ++ st).map (cv ad) = (r.map (cv ad)).toList ++ st.map (cv ad) := by cases r <;> rfl
    rw [e9] at k9
    exact k9
/-- invokevirtual by the name x of a class above: the object's class C selects my, whose own words are not x's -/
theorem g_callO {idx n k ci : Nat} {av vs : List Value} {q : vw_C} {x : MethodName} {b0 : ByteArray} {m0 : Nat} {r0 : Option FieldType} (hd : decode mm.2.1 pc = .ok (.invokevirtual idx, 3)) (hM : MOk my n)
    (hw : Cond.methodLink mm.1.cls idx x ∈ gtbl ∧ Cond.sameMethod x.cls x.cls x.name x.desc ∈ gtbl ∧ Cond.instanceMethod ⟨x.cls, x.name, x.desc⟩ ∈ gtbl ∧ Cond.selects q.1 x my.1 ∈ gtbl ∧ Cond.instanceMethod my.1 ∈ gtbl) (h0 : Cond.code ⟨x.cls, x.name, x.desc⟩ b0 m0 r0 ∈ gtbl) (hx : x.cls ≠ "java/lang/invoke/MethodHandle" ∧ x.cls ≠ "java/lang/invoke/VarHandle" ∧ (parseMethodDescriptor x.desc).map (fun d => d.parameters.length) = some n)
    (hs : h.1[k]? = some (ci, vs)) (hc : vwCl[ci]? = some q) (hn : av.length = n) (hrm : (st.map fun v => v.category).sum ≤ 8) (hdd : d' + 1 ≤ d) (hrun : Run my d' mc ms (.ref k :: av) h Q') (hp : pc + 3 = pc')
    (kk : ∀ (r : Option Value) (h' : AH), Q' r h' → Go mm d mcr msr pc' L (r.toList ++ st) h' Q) : Go mm d (mcr + mc) (msr + ms) pc L (av.reverse ++ .ref k :: st) h Q := by
  subst hp
  intro B0 D ad cid p l e R s m args below meth c H locs cells slots Qf ls hC hR hS hl hc' hs' hE
  have hts := hC.2.2.2.2.2.1
  have hfr := hC.2.2.2.2.2.2.1
  have hlo := hC.2.2.2.2.2.2.2.1
  have hlm := hM.2.2.2
  have hrc := Rep.recv hC.2.2.2.2.2.2.2.2.1 hR hs hc
  have hpre := g_pre (av := .ref k :: av) hC.2.2.2.2.2.2.2.2.2 hC.2.2.2.2.2.2.2.2.1 hR hS
  refine g_after (Q' := Q') (mc := mc) (ms := ms) (rest := st.map (cv ad)) (va_runU (b := ad k) (C := q.1) (owner := x.cls) (x := x) (As := av.map (cv ad)) (n := n) (bytes := my.2.1) (maxL := my.2.2.1) (ret := my.2.2.2) (nL := mm.2.2.1) ⟨hC.1, hC.2.1, hC.2.2.1, hC.2.2.2.1, hts⟩ (hrun l B0 D ad cid) (va_cwO (Ts := gtbl) (ws' := gtbl) n hts (good_pre (mws_good hM.1) (a := [.methodLink mm.1.cls idx x, .sameMethod x.cls x.cls x.name x.desc, .instanceMethod ⟨x.cls, x.name, x.desc⟩, .selects q.1 x my.1, .instanceMethod my.1, .initialized my.1.cls]) (by
      intro w h9
      rcases List.mem_cons.mp h9 with rfl | h9
      · exact hw.1
      rcases List.mem_cons.mp h9 with rfl | h9
      · exact hw.2.1
      rcases List.mem_cons.mp h9 with rfl | h9
      · exact hw.2.2.1
      rcases List.mem_cons.mp h9 with rfl | h9
      · exact hw.2.2.2.1
      rcases List.mem_cons.mp h9 with rfl | h9
      · exact hw.2.2.2.2
      rw [List.mem_singleton.mp h9]
      exact hM.2.1)) rfl rfl rfl h0 hx ⟨?_, ?_⟩) ⟨hpre.1, hrc, hpre.2⟩ rfl ?_ ?_ ?_ (rest_room ad hrm) hd ⟨?_, ?_⟩) hS ?_
  · show d' + 1 ≤ R.frames; omega
  · show 8 + (my.2.2.1 + 11) + 40 * d' ≤ R.locals; omega
  · rw [List.length_map]; exact hn
  · exact hl.1
  · show (av.reverse ++ .ref k :: st).map (cv ad) = (av.map (cv ad)).reverse ++ .ref (ad k) :: st.map (cv ad)
    rw [List.map_append, List.map_reverse]
    rfl
  · omega
  · omega
  · intro r h' cid' H1 locs1 hq hR1 hS1
    have k9 := kk r h' hq B0 D ad cid' p l e R s m args below meth c H1 locs1 (cells + mc) (slots + ms) Qf ls hC hR1 hS1 hl (by omega) (by omega) (fun r h' cid' H' locs' pc' ls' cs' ss' a1 a2 a3 a4 a5 a6 => hE r h' cid' H' locs' pc' ls' cs' ss' a1 a2 a3 (by omega) (by omega) a6)
    have e9 : (r.toList ++ st).map (cv ad) = (r.map (cv ad)).toList ++ st.map (cv ad) := by cases r <;> rfl
    rw [e9] at k9
    exact k9
end GC
