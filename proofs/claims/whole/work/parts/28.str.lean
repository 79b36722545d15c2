/-! ===== ROWS of Go: String constants (cells 2000000 + i, their bytes 2000010 + i) ===== -/
section GS
variable {mm my : MM} {d d' mcr msr mc ms pc pc' : Nat} {L L' : AL} {st : List Value} {h : AH} {Q Q' : AQ}
theorem g_ldcS {i idx : Nat} (hd : decode mm.2.1 pc = .ok (.ldc idx, 2)) (hi : i < 7) (hx : sidx.getD i 0 = idx) (ho : mm.1.cls = RX10) (hp : pc + 2 = pc') (kk : Go mm d mcr msr pc' L (.ref (2000000 + i) :: st) h Q) : Go mm d mcr msr pc L st h Q := by
  subst hp
  intro B0 D ad cid p l e R s m args below meth c H locs cells slots Qf ls hC hR hS hl hc hs' hE
  have hK := hC.2.2.2.2.2.2.2.2.1
  have hz := hK.2.2.2.2.2.2.2 i hi
  rw [hx] at hz
  exact va_ldcS hC.1 hC.2.1 (own := RX10) (by rw [← ho]; exact hC.2.2.2.1) hz hd (kk B0 D ad cid p l e R s m args below meth c H locs cells slots Qf ls hC hR hS hl hc hs' hE)
theorem g_strV {i idx : Nat} (hd : decode mm.2.1 pc = .ok (.getfield idx, 3)) (hi : i < 7) (hw : Cond.fieldLink mm.1.cls idx "java/lang/String" "value" "[B" ∈ gtbl) (hp : pc + 3 = pc') (kk : Go mm d mcr msr pc' L (.ref (2000010 + i) :: st) h Q) : Go mm d mcr msr pc L (.ref (2000000 + i) :: st) h Q := by
  subst hp
  intro B0 D ad cid p l e R s m args below meth c H locs cells slots Qf ls hC hR hS hl hc hs' hE
  have hK := hC.2.2.2.2.2.2.2.2.1
  exact vk_getf hC.1 hC.2.1 (hK.2.2.2.2.2.1.1 i hi).2.2.1 hS hC.2.2.2.1 (hC.2.2.2.2.2.1 _ hw) (fun _ h9 => h9) hd (kk B0 D ad cid p l e R s m args below meth c H locs cells slots Qf ls hC hR hS hl hc hs' hE)
theorem g_strC {i idx : Nat} (hd : decode mm.2.1 pc = .ok (.getfield idx, 3)) (hi : i < 7) (hw : Cond.fieldLink mm.1.cls idx "java/lang/String" "coder" "B" ∈ gtbl) (hp : pc + 3 = pc') (kk : Go mm d mcr msr pc' L (.int 0 :: st) h Q) : Go mm d mcr msr pc L (.ref (2000000 + i) :: st) h Q := by
  subst hp
  intro B0 D ad cid p l e R s m args below meth c H locs cells slots Qf ls hC hR hS hl hc hs' hE
  have hK := hC.2.2.2.2.2.2.2.2.1
  exact vk_getf hC.1 hC.2.1 (hK.2.2.2.2.2.1.1 i hi).2.1 hS hC.2.2.2.1 (hC.2.2.2.2.2.1 _ hw) (fun _ h9 => h9) hd (kk B0 D ad cid p l e R s m args below meth c H locs cells slots Qf ls hC hR hS hl hc hs' hE)
theorem g_cstat {idx : Nat} (hd : decode mm.2.1 pc = .ok (.getstatic idx, 3)) (hw : Cond.fieldLink mm.1.cls idx "java/lang/String" "COMPACT_STRINGS" "Z" ∈ gtbl) (hp : pc + 3 = pc') (kk : Go mm d mcr msr pc' L (.int 1 :: st) h Q) : Go mm d mcr msr pc L st h Q := by
  subst hp
  intro B0 D ad cid p l e R s m args below meth c H locs cells slots Qf ls hC hR hS hl hc hs' hE
  have hK := hC.2.2.2.2.2.2.2.2.1
  exact va_gets hC.1 hC.2.1 hK.2.2.2.2.2.2.1 hS hC.2.2.2.1 (hC.2.2.2.2.2.1 _ hw) (fun _ h9 => h9) hd (kk B0 D ad cid p l e R s m args below meth c H locs cells slots Qf ls hC hR hS hl hc hs' hE)
theorem g_tlen {i : Nat} (hd : decode mm.2.1 pc = .ok (.arraylength, 1)) (hi : i < 7) (hp : pc + 1 = pc') (kk : Go mm d mcr msr pc' L (.int (nI (slen.getD i 0)) :: st) h Q) : Go mm d mcr msr pc L (.ref (2000010 + i) :: st) h Q := by
  subst hp
  intro B0 D ad cid p l e R s m args below meth c H locs cells slots Qf ls hC hR hS hl hc hs' hE
  have hK := hC.2.2.2.2.2.2.2.2.1
  exact va_tlen hC.1 hC.2.1 (hK.2.2.2.2.2.1.1 i hi).2.2.2 hS rfl hd (kk B0 D ad cid p l e R s m args below meth c H locs cells slots Qf ls hC hR hS hl hc hs' hE)
theorem g_tb {i n : Nat} {x : Int32} (hd : decode mm.2.1 pc = .ok (.baload, 1)) (hi : i < 7) (hx : x = nI n) (hn : n < slen.getD i 0) (hb : slen.getD i 0 < 1000) (hp : pc + 1 = pc') (kk : Go mm d mcr msr pc' L (.int ((sbyt.getD i []).getD n 0) :: st) h Q) : Go mm d mcr msr pc L (.int x :: .ref (2000010 + i) :: st) h Q := by
  subst hp
  subst hx
  intro B0 D ad cid p l e R s m args below meth c H locs cells slots Qf ls hC hR hS hl hc hs' hE
  have hK := hC.2.2.2.2.2.2.2.2.1
  refine va_tb hC.1 hC.2.1 (hK.2.2.2.2.2.1.1 i hi).2.2.2 hS (vp_in_nI hn (by omega)) (v := .int ((sbyt.getD i []).getD n 0)) ?_ hd (kk B0 D ad cid p l e R s m args below meth c H locs cells slots Qf ls hC hR hS hl hc hs' hE)
  show Value.int ((sbyt.getD i []).getD (nI n).toNatClampNeg 0) = _
  rw [nI_clamp (by omega)]
/-- invokevirtual on a String constant -/
theorem g_callVS {idx n i : Nat} {av : List Value} (hd : decode mm.2.1 pc = .ok (.invokevirtual idx, 3)) (hM : MOk my n) (hw : Cond.methodLink mm.1.cls idx my.1 ∈ gtbl ∧ Cond.instanceMethod my.1 ∈ gtbl ∧ Cond.selects my.1.cls my.1 my.1 ∈ gtbl) (hi : i < 7) (hc : my.1.cls = "java/lang/String") (hn : av.length = n) (hrm : (st.map fun v => v.category).sum ≤ 8) (hdd : d' + 1 ≤ d) (hrun : Run my d' mc ms (.ref (2000000 + i) :: av) h Q') (hp : pc + 3 = pc')
    (kk : ∀ (r : Option Value) (h' : AH), Q' r h' → Go mm d mcr msr pc' L (r.toList ++ st) h' Q) : Go mm d (mcr + mc) (msr + ms) pc L (av.reverse ++ .ref (2000000 + i) :: st) h Q := by
  subst hp
  intro B0 D ad cid p l e R s m args below meth c H locs cells slots Qf ls hC hR hS hl hc' hs' hE
  have hts := hC.2.2.2.2.2.1
  have hfr := hC.2.2.2.2.2.2.1
  have hlo := hC.2.2.2.2.2.2.2.1
  have hlm := hM.2.2.2
  have hK := hC.2.2.2.2.2.2.2.2.1
  have hrc := vk_recv hK.2.2.2.2.2.1 hi hS
  rw [← hc] at hrc
  have hpre := g_pre (av := .ref (2000000 + i) :: av) hC.2.2.2.2.2.2.2.2.2 hC.2.2.2.2.2.2.2.2.1 hR hS
  refine g_after (Q' := Q') (mc := mc) (ms := ms) (rest := st.map (cv ad)) (va_runV (b := ad (2000000 + i)) (C := my.1.cls) (As := av.map (cv ad)) (n := n) (bytes := my.2.1) (maxL := my.2.2.1) (ret := my.2.2.2) (nL := mm.2.2.1) ⟨hC.1, hC.2.1, hC.2.2.1, hC.2.2.2.1, hts⟩ (hrun l B0 D ad cid) (cwV (Ts := gtbl) (ws' := gtbl) n hts (good_pre (mws_good hM.1) (a := [.methodLink mm.1.cls idx my.1, .instanceMethod my.1, .selects my.1.cls my.1 my.1, .initialized my.1.cls]) (by
      intro w h9
      rcases List.mem_cons.mp h9 with rfl | h9
      · exact hw.1
      rcases List.mem_cons.mp h9 with rfl | h9
      · exact hw.2.1
      rcases List.mem_cons.mp h9 with rfl | h9
      · exact hw.2.2
      rw [List.mem_singleton.mp h9]
      exact hM.2.1)) rfl rfl rfl ⟨rfl, hM.2.2.1⟩ ⟨?_, ?_⟩) ⟨hpre.1, hrc, hpre.2⟩ rfl ?_ ?_ ?_ (rest_room ad hrm) hd ⟨?_, ?_⟩) hS ?_
  · show d' + 1 ≤ R.frames; omega
  · show 8 + (my.2.2.1 + 11) + 40 * d' ≤ R.locals; omega
  · rw [List.length_map]; exact hn
  · exact hl.1
  · show (av.reverse ++ .ref (2000000 + i) :: st).map (cv ad) = (av.map (cv ad)).reverse ++ .ref (ad (2000000 + i)) :: st.map (cv ad)
    rw [List.map_append, List.map_reverse]
    rfl
  · omega
  · omega
  · intro r h' cid' H1 locs1 hq hR1 hS1
    have k9 := kk r h' hq B0 D ad cid' p l e R s m args below meth c H1 locs1 (cells + mc) (slots + ms) Qf ls hC hR1 hS1 hl (by omega) (by omega) (fun r h' cid' H' locs' pc' ls' cs' ss' a1 a2 a3 a4 a5 a6 => hE r h' cid' H' locs' pc' ls' cs' ss' a1 a2 a3 (by omega) (by omega) a6)
    have e9 : (r.toList ++ st).map (cv ad) = (r.map (cv ad)).toList ++ st.map (cv ad) := by cases r <;> rfl
    rw [e9] at k9
    exact k9
end GS
