/-! ===== THE CORE: cells by numbers. An object or array made since the law's entry is cell k, at address B0 + k; 'AH' is what the cells hold (shape, ints, longs);
'Go' is the judgement of a method's body at a pc, 'Run' of a call. All rows of later parts are over these two. ===== -/
abbrev AH : Type := List (Nat × List Value) × (Nat → Nat → Int32) × (Nat → Nat → Int64)
abbrev AL : Type := List (Nat × Value)
abbrev MM : Type := MethodName × ByteArray × Nat × Option FieldType
abbrev AQ : Type := Option Value → AH → Prop
def gtbl : List Cond := lw_tbl.filter goodWord
theorem gt_of {w : Cond} (h : w ∈ lw_tbl) (hg : goodWord w = true) : w ∈ gtbl := List.mem_filter.mpr ⟨h, hg⟩
theorem gt_good {w : Cond} (h : w ∈ gtbl) : (w.onTables && w.keeps) = true ∨ ∃ ty, w = .arrayClass ty := good_of_word (List.mem_filter.mp h).2
/-- a value of the cells as the machine has it -/
def cv (ad : Nat → Nat) (v : Value) : Value := match v with
  | .ref k => .ref (ad k)
  | w => w
theorem cv_cat (ad : Nat → Nat) (v : Value) : (cv ad v).category = v.category := by cases v <;> rfl
/-- what place j of cell k holds, whose shape there is v -/
def fv (M : Nat → Nat → Int32) (N : Nat → Nat → Int64) (k j : Nat) (v : Value) : Value := match v with
  | .int _ => .int (M k j)
  | .long _ => .long (N k j)
  | w => w
/-- kinds of cells: below 100 the classes of vwCl; 100 int[], 101 long[], 102 char[], 104.. arrays of objects, 110 int[][] -/
def arrTy : Nat → Option FieldType
  | 100 => some .int
  | 101 => some .long
  | 102 => some .char
  | 104 => some (.object RX6)
  | 105 => some (.object RX4)
  | 106 => some (.object RX9)
  | 110 => some (.array .int)
  | _ => none
def rowOf (ad : Nat → Nat) (vs : List Value) : Nat → Option Nat := fun j => match vs[j]? with
  | some (.ref r) => some (ad r)
  | _ => none
def cellOf (ad : Nat → Nat) (cid : Nat → ClassId) (M : Nat → Nat → Int32) (N : Nat → Nat → Int64) (k : Nat) (c : Nat × List Value) : va_E :=
  if c.1 < 100 then .inr (c.1, c.2.mapIdx fun j v => cv ad (fv M N k j v))
  else .inl (cid k, c.2.length, if c.1 = 101 then .inr (.inl (N k)) else if c.1 < 103 then .inl (M k) else .inr (.inr (.inr (.inr (rowOf ad c.2)))))
def wsOf (ad : Nat → Nat) (cid : Nat → ClassId) (h : AH) : va_W := h.1.mapIdx fun k c => (ad k, cellOf ad cid h.2.1 h.2.2 k c)
theorem ws_get {ad : Nat → Nat} {cid : Nat → ClassId} {h : AH} {k : Nat} {c : Nat × List Value} (hk : h.1[k]? = some c) : (wsOf ad cid h)[k]? = some (ad k, cellOf ad cid h.2.1 h.2.2 k c) := by
  simp [wsOf, List.getElem?_mapIdx, hk]
theorem ws_len {ad : Nat → Nat} {cid : Nat → ClassId} {h : AH} : (wsOf ad cid h).length = h.1.length := by simp [wsOf]
theorem ws_inv {ad : Nat → Nat} {cid : Nat → ClassId} {h : AH} {k : Nat} {q : Nat × va_E} (hk : (wsOf ad cid h)[k]? = some q) : ∃ c, h.1[k]? = some c ∧ q = (ad k, cellOf ad cid h.2.1 h.2.2 k c) := by
  simp only [wsOf, List.getElem?_mapIdx] at hk
  cases hc : h.1[k]? with
  | none => rw [hc] at hk; cases hk
  | some c => rw [hc] at hk; exact ⟨c, rfl, (Option.some.inj hk).symm⟩
theorem ws_D {B0 : Nat} {ad : Nat → Nat} {cid : Nat → ClassId} {h : AH} (hB : ∀ k, k < 1000000 → ad k = B0 + k) (hl : h.1.length ≤ 1000000) : va_D (fun q => B0 ≤ q) (wsOf ad cid h) := by
  have key : ∀ (k : Nat) (q : Nat × va_E), (wsOf ad cid h)[k]? = some q → q.1 = B0 + k := by
    intro k q hq
    obtain ⟨c, h1, rfl⟩ := ws_inv hq
    have := (List.getElem?_eq_some_iff.mp h1).1
    exact hB k (by omega)
  refine ⟨fun i j p q hi hj hpq => ?_, fun k q hq => ?_⟩
  · rw [key i p hi, key j q hj] at hpq; omega
  · show B0 ≤ q.1
    rw [key k q hq]; omega
/-- one cell changed -/
theorem ws_set {ad : Nat → Nat} {cid : Nat → ClassId} {h h' : AH} {k : Nat} {c' : Nat × List Value} (hl : h'.1.length = h.1.length) (hk : h'.1[k]? = some c')
    (ho : ∀ (j : Nat) (c : Nat × List Value), j ≠ k → h.1[j]? = some c → h'.1[j]? = some c ∧ cellOf ad cid h'.2.1 h'.2.2 j c = cellOf ad cid h.2.1 h.2.2 j c) : (wsOf ad cid h).set k (ad k, cellOf ad cid h'.2.1 h'.2.2 k c') = wsOf ad cid h' := by
  apply List.ext_getElem?
  intro j
  by_cases hj : j = k
  · subst hj
    have hlt : j < (wsOf ad cid h).length := by rw [ws_len, ← hl]; exact (List.getElem?_eq_some_iff.mp hk).1
    rw [List.getElem?_set_self hlt, ws_get hk]
  · rw [List.getElem?_set_ne (Ne.symm hj)]
    cases hc : h.1[j]? with
    | none =>
      have h1 : h.1.length ≤ j := List.getElem?_eq_none_iff.mp hc
      rw [List.getElem?_eq_none (by rw [ws_len]; exact h1), List.getElem?_eq_none (by rw [ws_len, hl]; exact h1)]
    | some c =>
      obtain ⟨h1, h2⟩ := ho j c hj hc
      rw [ws_get hc, ws_get h1, h2]
/-- the ints and longs with one place changed -/
def um {α : Type} (M : Nat → Nat → α) (k j : Nat) (x : α) : Nat → Nat → α := fun a b => if a = k ∧ b = j then x else M a b
theorem um_ne {α : Type} {M : Nat → Nat → α} {k j a : Nat} {x : α} (h : a ≠ k) : um M k j x a = M a := funext fun b => if_neg (fun q => h q.1)
theorem um_at {α : Type} {M : Nat → Nat → α} {k j : Nat} {x : α} : um M k j x k j = x := if_pos ⟨rfl, rfl⟩
theorem um_at2 {α : Type} {M : Nat → Nat → α} {k j b : Nat} {x : α} (h : b ≠ j) : um M k j x k b = M k b := if_neg (fun q => h q.2)
theorem um_upd {M : Nat → Nat → Int32} {k j : Nat} {x : Int32} : um M k j x k = upd (M k) j x := by
  funext b
  by_cases hb : b = j
  · subst hb; rw [um_at]; simp [upd]
  · rw [um_at2 hb]; simp [upd, hb]
theorem um_updL {M : Nat → Nat → Int64} {k j : Nat} {x : Int64} : um M k j x k = vp_updL (M k) j x := by
  funext b
  by_cases hb : b = j
  · subst hb; rw [um_at]; simp [vp_updL]
  · rw [um_at2 hb]; simp [vp_updL, hb]
theorem cell_ne {ad : Nat → Nat} {cid : Nat → ClassId} {M M' : Nat → Nat → Int32} {N N' : Nat → Nat → Int64} {j : Nat} {c : Nat × List Value} (h1 : M' j = M j) (h2 : N' j = N j) : cellOf ad cid M' N' j c = cellOf ad cid M N j c := by
  have hf : fv M' N' j = fv M N j := by
    funext a v
    cases v <;> simp [fv, h1, h2]
  simp [cellOf, hf, h1, h2]
/-- the script: cell 1000000, its length in cell 1000001 -/
def ScX (B0 : Nat) (ad : Nat → Nat) (M : Nat → Nat → Int32) (s : State) (H : Heap) : Prop := ∃ n : Nat, n < 2 ^ 31 ∧ M 1000001 0 = nI n ∧ va_X (ad 1000000) n (M 1000000) s H ∧ ad 1000000 < B0
def Rep (B0 : Nat) (D : va_G) (ad : Nat → Nat) (cid : Nat → ClassId) (h : AH) (s : State) (H : Heap) : Prop :=
  va_P D vwCl (wsOf ad cid h) H ∧ H.size = B0 + h.1.length ∧ h.1.length ≤ 1000000 ∧ (∀ (k : Nat) (c : Nat × List Value) (ty : FieldType), h.1[k]? = some c → arrTy c.1 = some ty → ArrOfT s (cid k) ty ∧ va_RA s (cid k) ty) ∧ ScX B0 ad h.2.1 s H
theorem Rep.moved {B0 : Nat} {D : va_G} {ad : Nat → Nat} {cid : Nat → ClassId} {h : AH} {s U : State} {H : Heap} (hvm : s.vm.Alike U.vm) (hr : Rep B0 D ad cid h s H) : Rep B0 D ad cid h U H := by
  obtain ⟨h1, h2, h3, h4, n, h5, h6, h7, h8⟩ := hr
  exact ⟨h1, h2, h3, fun k c ty hk ht => ⟨arrOfT_moved hvm (h4 k c ty hk ht).1, (h4 k c ty hk ht).2.moved hvm⟩, n, h5, h6, h7.moved hvm, h8⟩
def sidx : List Nat := [49, 34, 47, 51, 57, 59, 68]
def stx : List String := ["0123456789", ";", "prohd", "1234", ";,", "-", ","]
def slen : List Nat := [10, 1, 5, 4, 2, 1, 1]
def sbyt : List (List Int32) := [[48, 49, 50, 51, 52, 53, 54, 55, 56, 57], [59], [112, 114, 111, 104, 100], [49, 50, 51, 52], [59, 44], [45], [44]]
/-- what stays: the classes, the String constants (cells 2000000.., their bytes 2000010..), String's COMPACT_STRINGS -/
def Kx (B0 : Nat) (D : va_G) (ad : Nat → Nat) (U : State) : Prop :=
  va_K D vwCl [] U ∧ va_AO RX6 U ∧ va_AO RX4 U ∧ va_AO RX9 U ∧ (Cond.arrayOver (.array .int)).before #[] U = true ∧ vk_S 7 slen sbyt (fun i => ad (2000000 + i)) (fun i => ad (2000010 + i)) (fun q => B0 ≤ q) U U.heap ∧
  va_Z "java/lang/String" "COMPACT_STRINGS" "Z" (.int 1) (fun q => B0 ≤ q) U U.heap ∧ ∀ i : Nat, i < 7 → vk_R RX10 (sidx.getD i 0) (stx.getD i "") (ad (2000000 + i)) U
theorem Kx.enter {B0 : Nat} {D : va_G} {ad : Nat → Nat} {s U : State} {H : Heap} {locs : List Loc} (hk : Kx B0 D ad s) (hS : va_S (fun q => B0 ≤ q) s.heap H locs) (hU : U.heap = H) (hW : s.WarmedH U.vm) : Kx B0 D ad U := by
  obtain ⟨h1, h2, h3, h4, h5, h6, h7, h8⟩ := hk
  have hq : ∀ a : Nat, a < s.heap.size → ¬ (B0 ≤ a) → U.heap[a]? = s.heap[a]? := fun a ha hb => by rw [hU]; exact hS.2.1 a ha hb
  exact ⟨h1.moved hW.alike, h2.moved hW.alike, h3.moved hW.alike, h4.moved hW.alike, arrayOver_alikeB hW.alike h5, (h6.kept hq).moved hW.alike, (h7.kept hq).moved hW.alike, fun i hi => (h8 i hi).warm hW⟩
theorem Kx.calling {B0 : Nat} {D : va_G} {ad : Nat → Nat} {U : State} {g : JFrame} {mk : MethodId} {a : Array Value} (hk : Kx B0 D ad U) : Kx B0 D ad (U.calling g mk a) := by
  obtain ⟨h1, h2, h3, h4, h5, h6, h7, h8⟩ := hk
  have r : U.vm.Alike (U.calling g mk a).vm := Vm.Alike.refl U.vm
  exact ⟨h1.moved r, h2.moved r, h3.moved r, h4.moved r, arrayOver_alikeB r h5, h6.moved r, h7.moved r, fun i hi => (h8 i hi).same rfl⟩
def Cx (B0 : Nat) (D : va_G) (ad : Nat → Nat) (mm : MM) (d : Nat) (p : Program) (R : Room) (s : State) (m : MethodId) (args : Array Value) (meth : Method) (c : Code) : Prop :=
  p.tables.exec = Jvm.exec ∧ c.code = mm.2.1 ∧ c.maxLocals = mm.2.2.1 ∧ s.vm.findClass mm.1.cls = some m.cls ∧ meth.name = mm.1.name ∧ (∀ w ∈ gtbl, w.before args s = true) ∧ d ≤ R.frames ∧ 40 * d ≤ R.locals ∧ Kx B0 D ad s ∧ ∀ k, k < 1000000 → ad k = B0 + k
/-- where a method may end with r -/
def RetAt (mm : MM) (pc : Nat) (r : Option Value) : Prop := match r with
  | none => decode mm.2.1 pc = .ok (.return_, 1) ∧ mm.2.2.2 = none
  | some (.int v) => decode mm.2.1 pc = .ok (.ireturn, 1) ∧ ∃ ty, mm.2.2.2 = some ty ∧ narrow ty (.int v) = .int v
  | some (.long _) => decode mm.2.1 pc = .ok (.lreturn, 1) ∧ mm.2.2.2 = some .long
  | some (.ref _) => decode mm.2.1 pc = .ok (.areturn, 1) ∧ ∃ n, mm.2.2.2 = some (.object n)
  | some .null => decode mm.2.1 pc = .ok (.areturn, 1) ∧ ∃ n, mm.2.2.2 = some (.object n)
  | _ => False
def Go (mm : MM) (d mcr msr pc : Nat) (L : AL) (st : List Value) (h : AH) (Q : AQ) : Prop :=
  ∀ (B0 : Nat) (D : va_G) (ad : Nat → Nat) (cid : Nat → ClassId) (p : Program) (l : Launch) (e : Env) (R : Room) (s : State) (m : MethodId) (args : Array Value) (below : List Frame) (meth : Method) (c : Code) (H : Heap) (locs : List Loc) (cells slots : Nat) (Qf : State → Prop) (ls : Array Slot),
    Cx B0 D ad mm d p R s m args meth c → Rep B0 D ad cid h s H → va_S (fun q => B0 ≤ q) s.heap H locs → lv_has ls mm.2.2.1 (L.map fun q => (q.1, cv ad q.2)) → cells + mcr ≤ R.cells → slots + msr ≤ R.slots →
    (∀ (r : Option Value) (h' : AH) (cid' : Nat → ClassId) (H' : Heap) (locs' : List Loc) (pc' : Nat) (ls' : Array Slot) (cs' ss' : Nat), Q r h' → Rep B0 D ad cid' h' s H' → va_S (fun q => B0 ≤ q) s.heap H' locs' → cs' ≤ cells + mcr → ss' ≤ slots + msr → RetAt mm pc' r →
      W p l e R s m args below meth c H' locs' cs' ss' Qf (F0 m pc' ls' (r.map (cv ad)).toList)) →
    W p l e R s m args below meth c H locs cells slots Qf (F0 m pc ls (st.map (cv ad)))
def RPre (B0 : Nat) (D : va_G) (ad : Nat → Nat) (cid : Nat → ClassId) (h : AH) : State → Prop := fun U => (∀ k, k < 1000000 → ad k = B0 + k) ∧ Kx B0 D ad U ∧ Rep B0 D ad cid h U U.heap
def RPost (B0 : Nat) (D : va_G) (ad : Nat → Nat) (Q : AQ) : Array Value → State → Outcome → State → Prop := fun _ st oc t => (∃ (r : Option Value) (h' : AH) (cid' : Nat → ClassId), oc = .returned (r.map (cv ad)) ∧ Q r h' ∧ Rep B0 D ad cid' h' t t.heap) ∧ va_F (fun q => B0 ≤ q) st t
abbrev mws (mm : MM) : List Cond := Cond.code mm.1 mm.2.1 mm.2.2.1 mm.2.2.2 :: gtbl
def Run (mm : MM) (d mc ms : Nat) (av : List Value) (h : AH) (Q : AQ) : Prop :=
  ∀ (l : Launch) (B0 : Nat) (D : va_G) (ad : Nat → Nat) (cid : Nat → ClassId), Met l mm.1 (mws mm) ({ frames := d, cells := mc, slots := ms, locals := 40 * d } : Room) (va_Pc (av.map (cv ad)) (RPre B0 D ad cid h)) (RPost B0 D ad Q) mc ms (fun q => B0 ≤ q)
theorem RPre.blind {av : List Value} {B0 : Nat} {D : va_G} {ad : Nat → Nat} {cid : Nat → ClassId} {h : AH} : FrameBlind (va_Pc av (RPre B0 D ad cid h)) := by
  intro a U g mk q
  obtain ⟨q0, q1, q2, q3⟩ := q
  exact ⟨q0, q1, q2.calling, Rep.moved (s := U) (U := U.calling g mk a) (Vm.Alike.refl U.vm) q3⟩
theorem args_cv (ad : Nat → Nat) : ∀ (vs : List Value) (i : Nat), lv_args i (vs.map (cv ad)) = (lv_args i vs).map fun q => (q.1, cv ad q.2)
  | [], _ => rfl
  | v :: vs, i => by
    show (i, cv ad v) :: lv_args _ (vs.map (cv ad)) = (i, cv ad v) :: List.map _ _
    rw [args_cv ad vs, cv_cat]
theorem sl_cv (ad : Nat → Nat) : ∀ (vs : List Value), (lg_sl (vs.map (cv ad))).length = (lg_sl vs).length
  | [] => rfl
  | v :: vs => by
    have := sl_cv ad vs
    simp only [lg_sl, List.map_cons, List.flatMap_cons, List.length_append, cv_cat] at this ⊢
    rw [this]
    split <;> rfl
/-- a method's contract out of its body -/
theorem Run.of {mm : MM} {d mc ms : Nat} {av : List Value} {h : AH} {Q : AQ} (hy : plainName mm.1.cls = true) (hn : (lg_sl av).length ≤ mm.2.2.1) (hg : Go mm d mc ms 0 (lv_args 0 av) [] h Q) : Run mm d mc ms av h Q := by
  intro l B0 D ad cid
  refine Met.ofW (cc := mm.2.1) (maxL := mm.2.2.1) (ret := mm.2.2.2) (ws' := gtbl) hy rfl ?_
  intro p e s m args below meth c s₁ B hml hv
  obtain ⟨rfl, hB, hK, hR⟩ := hv
  have hts := atoms_spec (ws := mws mm) B.pre
  have hown : s.vm.findClass mm.1.cls = some m.cls := findClass_of_methodNamed B.named
  have hname : meth.name = mm.1.name := (name_of_methodNamed B.named B.method).1
  have hlocks := B.notSynchronized
  have hr := B.returns
  have hx := B.exec
  have hb := B.bytes
  have hl := lv_entry (av.map (cv ad)) (n := mm.2.2.1) (by rw [sl_cv]; exact hn)
  rw [args_cv] at hl
  rw [lg_entry_eq]
  refine hg B0 D ad cid p l e _ s m _ below meth c s.heap [] 0 0 _ _ ⟨hx, hb, hml, hown, hname, fun w hw => hts w (List.mem_cons_of_mem _ hw), Nat.le_refl _, Nat.le_refl _, hK, hB⟩ hR va_S.rf hl (by show 0 + mc ≤ mc; omega) (by show 0 + ms ≤ ms; omega) ?_
  intro r h' cid' H' locs' pc' ls' cs' ss' hQ hR' hS' hc' hs' hret
  refine W.widen (k := mc) (n := ms) (by omega) (by omega) ?_
  have post : ∀ t : State, t.heap = H' → s.WarmedH t.vm → RPost B0 D ad Q (av.map (cv ad)).toArray s (.returned (r.map (cv ad))) t := fun t ht hW => ⟨⟨r, h', cid', rfl, hQ, by rw [ht]; exact hR'.moved hW.alike⟩, hS'.F ht⟩
  cases r with
  | none =>
    obtain ⟨hd, hn⟩ := hret
    exact W.vret hx hb (hr.trans hn) post hS'.2.2 hd hlocks
  | some v =>
    cases v with
    | int v =>
      obtain ⟨hd, ty, hn, hv⟩ := hret
      exact W.zret hx hb (hr.trans hn) hv post hS'.2.2 hd hlocks
    | long v =>
      obtain ⟨hd, hn⟩ := hret
      exact W.lret hx hb (hr.trans hn) post hS'.2.2 hd hlocks
    | ref v =>
      obtain ⟨hd, n, hn⟩ := hret
      exact W.aret hx hb (hr.trans hn) (Or.inl ⟨n, rfl⟩) (Or.inr ⟨_, rfl⟩) post hS'.2.2 hd hlocks
    | null =>
      obtain ⟨hd, n, hn⟩ := hret
      exact W.aret hx hb (hr.trans hn) (Or.inl ⟨n, rfl⟩) (Or.inl rfl) post hS'.2.2 hd hlocks
    | float v => exact hret.elim
    | double v => exact hret.elim
    | retAddr v => exact hret.elim
theorem Go.post {mm : MM} {d mcr msr pc : Nat} {L : AL} {st : List Value} {h : AH} {Q Q' : AQ} (hQ : ∀ r h', Q r h' → Q' r h') (hg : Go mm d mcr msr pc L st h Q) : Go mm d mcr msr pc L st h Q' :=
  fun B0 D ad cid p l e R s m args below meth c H locs cells slots Qf ls hC hR hS hl hc hs hE => hg B0 D ad cid p l e R s m args below meth c H locs cells slots Qf ls hC hR hS hl hc hs
    (fun r h' cid' H' locs' pc' ls' cs' ss' hq => hE r h' cid' H' locs' pc' ls' cs' ss' (hQ r h' hq))
