/-! ===== a call of super's method, inherited too ===== -/
theorem sub_up {vm : Vm} {a b : ClassId} {ka : Class} (ha : vm.classes[a]? = some ka) (hs : ka.super = some b) : vm.isSubclass a b = true := by
  have h0 : 0 < vm.classes.size := Nat.lt_of_le_of_lt (Nat.zero_le _) (Array.getElem?_eq_some_iff.mp ha).1
  unfold Vm.isSubclass
  obtain ⟨n, hn⟩ : ∃ n, vm.classes.size = n + 1 := ⟨vm.classes.size - 1, by omega⟩
  rw [hn]
  simp [Vm.isSubclassAux, ha, hs]
section GS
variable {mm my : MM} {d d' mcr msr mc ms pc pc' : Nat} {L : AL} {st : List Value} {h : AH} {Q Q' : AQ}
theorem g_callSU {idx n k ci : Nat} {av vs : List Value} {q : vw_C} {x : MethodName} (hd : decode mm.2.1 pc = .ok (.invokespecial idx, 3)) (hM : MOk my n)
    (hw : Cond.methodLink mm.1.cls idx x ∈ gtbl ∧ Cond.sameMethod x.cls my.1.cls x.name x.desc ∈ gtbl ∧ Cond.superclass mm.1.cls x.cls ∈ gtbl ∧ Cond.instanceMethod my.1 ∈ gtbl ∧ x.name ≠ "<init>" ∧ my.1 = ⟨my.1.cls, x.name, x.desc⟩ ∧ (x.cls = my.1.cls ∨ Cond.superclass x.cls my.1.cls ∈ gtbl))
    (hs : h.1[k]? = some (ci, vs)) (hc : vwCl[ci]? = some q) (hn : av.length = n) (hrm : (st.map fun v => v.category).sum ≤ 8) (hdd : d' + 1 ≤ d) (hrun : Run my d' mc ms (.ref k :: av) h Q') (hp : pc + 3 = pc')
    (kk : ∀ (r : Option Value) (h' : AH), Q' r h' → Go mm d mcr msr pc' L (r.toList ++ st) h' Q) : Go mm d (mcr + mc) (msr + ms) pc L (av.reverse ++ .ref k :: st) h Q := by
  subst hp
  intro B0 D ad cid p l e R s m args below meth c H locs cells slots Qf ls hC hR hS hl hc' hs' hE
  have hts := hC.2.2.2.2.2.1
  have hfr := hC.2.2.2.2.2.2.1
  have hlo := hC.2.2.2.2.2.2.2.1
  have hlm := hM.2.2.2
  have hown := hC.2.2.2.1
  obtain ⟨w1, w2, w3, w4, w5, w6, w7⟩ := hw
  obtain ⟨cellB, hcB, hoB, hclB⟩ := Rep.recv hC.2.2.2.2.2.2.2.2.1 hR hs hc
  have hpre := g_pre (av := .ref k :: av) hC.2.2.2.2.2.2.2.2.2 hC.2.2.2.2.2.2.2.2.1 hR hS
  obtain ⟨-, kB0, hkB0, -⟩ := ((hC.2.2.2.2.2.2.2.2.1).1.1 ci q hc).2
  have hcc := ((hC.2.2.2.2.2.2.2.2.1).1.1 ci q hc).2.1
  have hkB : s.vm.classes[cellB.cls]? = some kB0 := by
    rw [← Option.some.inj (hcc.symm.trans hclB)]
    exact hkB0
  have hrunU : va_Run p l e R s m args below meth c H locs cells slots mc ms (F0 m pc ls ((av.map (cv ad)).reverse ++ .ref (ad k) :: st.map (cv ad))) (st.map (cv ad)) (RPost B0 D ad Q' (Value.ref (ad k) :: av.map (cv ad)).toArray) (fun q => B0 ≤ q) := by
    have hcode : (Cond.code my.1 my.2.1 my.2.2.1 my.2.2.2).before args s = true := hts _ hM.1
    have hK : Back l R p e below s args my.1 3 8 (PreOf R mc ms (va_Pc ((Value.ref k :: av).map (cv ad)) (RPre B0 D ad cid h))) (PostOf (RPost B0 D ad Q') mc ms (fun q => B0 ≤ q)) :=
      back_of (bytes := my.2.1) (maxL := my.2.2.1) (ret := my.2.2.2) (hrun l B0 D ad cid) hpre.1 rfl rfl (by show d' + 1 ≤ R.frames; omega) (by show 8 + (my.2.2.1 + 11) + 40 * d' ≤ R.locals; omega) (fun w hw => pay_in hts (mws_good hM.1) w hw) List.mem_cons_self (fun a' U hW => word_at hW (Or.inl rfl) (hts _ hM.2.1))
    intro T hT X
    obtain ⟨mk, methM, hnamed, hmethM, hstM, habM⟩ := Cond.instanceMethod_spec (hts _ w4)
    obtain ⟨methM', cM, hmethM', -, -, -, -, -, -, hsigM⟩ := Cond.code_spec hnamed hcode
    cases hmethM.symm.trans hmethM'
    obtain ⟨ps, dk, kp, hps, hdk, hkp, hsuper, -, -, hnid⟩ := Cond.superclass_spec hown (hts _ w3)
    have hn9 : s.methodNamed? ⟨my.1.cls, x.name, x.desc⟩ = some mk := w6 ▸ hnamed
    have hfm := findClass_of_methodNamed hnamed
    have hsub : s.vm.isSubclass ps mk.cls = true := by
      rcases w7 with w7 | w7
      · have hpm : ps = mk.cls := by rw [w7] at hps; exact Option.some.inj (hps.symm.trans hfm)
        rw [hpm]; simp [Vm.isSubclass, Vm.isSubclassAux]
      · obtain ⟨ps2, dk2, kp2, hps2, hdk2, hkp2, hsuper2, -⟩ := Cond.superclass_spec hps (hts _ w7)
        cases hfm.symm.trans hps2
        exact sub_up hdk2 hsuper2
    obtain ⟨vm₁, X₁, hstep₁⟩ := X.invokespecialUp hC.1 hown (hts _ w1) (hts _ w2) hn9 hmethM hstM habM w5 hdk hnid hps hsuper hsub (a := ad k) (cell := cellB) (by rw [hT]; exact hcB)
      (fun z h => by rw [h] at hoB; cases hoB) hkB (g := F0 m pc ls ((av.map (cv ad)).reverse ++ .ref (ad k) :: st.map (cv ad))) rfl (argsL := av.map (cv ad)) (rest := st.map (cv ad)) (by
        have h8 := hM.2.2.1.2.2
        rw [hsigM] at h8
        rw [List.length_map, hn]
        exact (Option.some.inj h8).symm) rfl (by rw [hC.2.1]; exact hd)
    obtain ⟨v, ⟨U', l2, c2, s2⟩, X', ⟨g', mk', t, L9, e1, e2, hq, h1, hL, h2, h3⟩, hsteps⟩ := hK m meth c ⟨T.setVm vm₁, locs, cells, slots⟩ { F0 m pc ls ((av.map (cv ad)).reverse ++ .ref (ad k) :: st.map (cv ad)) with stack := st.map (cv ad) } (.invokespecial idx) mk (Value.ref (ad k) :: av.map (cv ad)).toArray X₁ rfl (hl.1.trans hC.2.2.1.symm) (by rw [hC.2.1]; exact hd) (rest_room ad hrm) (X₁.named hnamed) ⟨by show cells + mc ≤ R.cells; omega, by show slots + ms ≤ R.slots; omega, hpre.2 (T.setVm vm₁) hT X₁.warmed⟩
    dsimp only [Pt.U, Pt.locs, Pt.cells, Pt.slots] at X' e1 e2 h1 h2 h3 hsteps
    subst h1; subst h2; subst h3
    exact ⟨v, (T.setVm vm₁).calling g' mk' (Value.ref (ad k) :: av.map (cv ad)).toArray, t, U', L9, hT, X', hL, e1, e2, hq, fun target h => hstep₁ _ (by rw [doInvoke_state]; exact hsteps.trans h)⟩
  have e0 : (av.reverse ++ .ref k :: st).map (cv ad) = (av.map (cv ad)).reverse ++ .ref (ad k) :: st.map (cv ad) := by
    rw [List.map_append, List.map_reverse]
    rfl
  rw [e0]
  refine g_after (Q' := Q') (mc := mc) (ms := ms) (rest := st.map (cv ad)) hrunU hS ?_
  intro r h' cid' H1 locs1 hq hR1 hS1
  have k9 := kk r h' hq B0 D ad cid' p l e R s m args below meth c H1 locs1 (cells + mc) (slots + ms) Qf ls hC hR1 hS1 hl (by omega) (by omega) (fun r h' cid' H' locs' pc' ls' cs' ss' a1 a2 a3 a4 a5 a6 => hE r h' cid' H' locs' pc' ls' cs' ss' a1 a2 a3 (by omega) (by omega) a6)
  have e9 : (r.toList ++ st).map (cv ad) = (r.map (cv ad)).toList ++ st.map (cv ad) := by cases r <;> rfl
  rw [e9] at k9
  exact k9
end GS
