/-! ===== an array's length; Strings ===== -/
section GA
variable {mm : MM} {d mcr msr pc pc' : Nat} {L L' : AL} {st : List Value} {sk : List (Nat × List Value)} {M : Nat → Nat → Int32} {N : Nat → Nat → Int64} {Q : AQ}
theorem g_alen {k n tag : Nat} {ty : FieldType} (hd : decode mm.2.1 pc = .ok (.arraylength, 1)) (hs : sk[k]? = some (tag, rep n)) (ht : arrTy tag = some ty ∧ 100 ≤ tag ∧ tag < 103) (hp : pc + 1 = pc') (kk : Go mm d mcr msr pc' L (.int (nI n) :: st) (sk, M, N) Q) : Go mm d mcr msr pc L (.ref k :: st) (sk, M, N) Q := by
  subst hp
  intro B0 D ad cid p l e R s m args below meth c H locs cells slots Qf ls hC hR hS hl hc hs' hE
  have h0 := hR.1 k _ (ws_get hs)
  have hty := (hR.2.2.2.1 k _ ty hs ht.1).1
  have k9 := kk B0 D ad cid p l e R s m args below meth c H locs cells slots Qf ls hC hR hS hl hc hs' hE
  have hce : ∃ f, H[ad k]? = some (arrV (cid k) n f) := by
    have h1 := ht.2.1
    have h2 := ht.2.2
    by_cases h3 : tag = 101
    · subst h3
      refine ⟨fun j => .long (N k j), ?_⟩
      have h4 : H[ad k]? = some (arrV (cid k) (rep n).length (fun j => .long (N k j))) := h0
      rw [rep_len] at h4
      exact h4
    · have hce : cellOf ad cid M N k (tag, rep n) = .inl (cid k, (rep n).length, .inl (M k)) := by
        simp [cellOf, show ¬ tag < 100 by omega, h3, h2]
      rw [hce] at h0
      refine ⟨fun j => .int (M k j), ?_⟩
      have h4 : H[ad k]? = some (arrV (cid k) (rep n).length (fun j => .int (M k j))) := h0
      rw [rep_len] at h4
      exact h4
  obtain ⟨f, hf⟩ := hce
  exact W.alen hC.1 hC.2.1 hf (hty n f) (by rw [arrV_size]; rfl) rfl rfl hd k9
theorem g_max {idx : Nat} {x y : Int32} {h : AH} (hd : decode mm.2.1 pc = .ok (.invokestatic idx, 3)) (hw : Cond.methodLink mm.1.cls idx Lib.Math.max.name ∈ gtbl ∧ Cond.static Lib.Math.max.name ∈ gtbl ∧ Cond.initialized "java/lang/Math" ∈ gtbl ∧ Cond.code Lib.Math.max.name Lib.Math.max.code 2 (some .int) ∈ gtbl) (hrm : (st.map fun v => v.category).sum ≤ 8) (hdd : 1 ≤ d) (hp : pc + 3 = pc') (kk : Go mm d mcr msr pc' L (.int (if x < y then y else x) :: st) h Q) : Go mm d mcr msr pc L (.int y :: .int x :: st) h Q := by
  subst hp
  intro B0 D ad cid p l e R s m args below meth c H locs cells slots Qf ls hC hR hS hl hc hs' hE
  have hts := hC.2.2.2.2.2.1
  have hfr := hC.2.2.2.2.2.2.1
  have hlo := hC.2.2.2.2.2.2.2.1
  have k9 := kk B0 D ad cid p l e R s m args below meth c H locs cells slots Qf ls hC hR hS hl hc hs' hE
  have h8 := rest_room (m := m) (pc := pc) (ls := ls) (st0 := st) ad hrm
  have h6 : 2 * (F0 m pc ls st).monitorRoom = 0 := rfl
  exact va_mmax hC.1 hC.2.1 (by rw [hC.2.2.1]; exact hl.1.symm) hC.2.2.2.1 (hts _ hw.1) (hts _ hw.2.1) (hts _ hw.2.2.1) (hts _ hw.2.2.2) (by omega) (by omega) (by omega) (by omega) hd k9
theorem g_min {idx : Nat} {x y : Int32} {h : AH} (hd : decode mm.2.1 pc = .ok (.invokestatic idx, 3)) (hw : Cond.methodLink mm.1.cls idx Lib.Math.min.name ∈ gtbl ∧ Cond.static Lib.Math.min.name ∈ gtbl ∧ Cond.initialized "java/lang/Math" ∈ gtbl ∧ Cond.code Lib.Math.min.name Lib.Math.min.code 2 (some .int) ∈ gtbl) (hrm : (st.map fun v => v.category).sum ≤ 8) (hdd : 1 ≤ d) (hp : pc + 3 = pc') (kk : Go mm d mcr msr pc' L (.int (if y < x then y else x) :: st) h Q) : Go mm d mcr msr pc L (.int y :: .int x :: st) h Q := by
  subst hp
  intro B0 D ad cid p l e R s m args below meth c H locs cells slots Qf ls hC hR hS hl hc hs' hE
  have hts := hC.2.2.2.2.2.1
  have hfr := hC.2.2.2.2.2.2.1
  have hlo := hC.2.2.2.2.2.2.2.1
  have k9 := kk B0 D ad cid p l e R s m args below meth c H locs cells slots Qf ls hC hR hS hl hc hs' hE
  have h8 := rest_room (m := m) (pc := pc) (ls := ls) (st0 := st) ad hrm
  have h6 : 2 * (F0 m pc ls st).monitorRoom = 0 := rfl
  exact va_mmin hC.1 hC.2.1 (by rw [hC.2.2.1]; exact hl.1.symm) hC.2.2.2.1 (hts _ hw.1) (hts _ hw.2.1) (hts _ hw.2.2.1) (hts _ hw.2.2.2) (by omega) (by omega) (by omega) (by omega) hd k9
end GA
