/-! ===== ROWS of Go: instructions that leave the cells alone ===== -/
section GR
variable {mm : MM} {d mcr msr pc pc' : Nat} {L L' : AL} {st : List Value} {h : AH} {Q : AQ}
theorem g_pure {n : Nat} {st' : List Value} (hp : pc + n = pc')
    (hrow : ∀ (B0 : Nat) (D : va_G) (ad : Nat → Nat) (p : Program) (l : Launch) (e : Env) (R : Room) (s : State) (m : MethodId) (args : Array Value) (below : List Frame) (meth : Method) (c : Code) (H : Heap) (locs : List Loc) (cells slots : Nat) (Qf : State → Prop) (ls : Array Slot), Cx B0 D ad mm d p R s m args meth c → lv_has ls mm.2.2.1 (L.map fun q => (q.1, cv ad q.2)) →
      W p l e R s m args below meth c H locs cells slots Qf (F0 m (pc + n) ls (st'.map (cv ad))) → W p l e R s m args below meth c H locs cells slots Qf (F0 m pc ls (st.map (cv ad))))
    (kk : Go mm d mcr msr pc' L st' h Q) : Go mm d mcr msr pc L st h Q := by
  subst hp
  intro B0 D ad cid p l e R s m args below meth c H locs cells slots Qf ls hC hR hS hl hc hs hE
  exact hrow B0 D ad p l e R s m args below meth c H locs cells slots Qf ls hC hl (kk B0 D ad cid p l e R s m args below meth c H locs cells slots Qf ls hC hR hS hl hc hs hE)
theorem ll_at {ls : Array Slot} {nL k i : Nat} {ad : Nat → Nat} {v : Value} (hl : lv_has ls nL (L.map fun q => (q.1, cv ad q.2))) (hm : L[k]? = some (i, v)) : ls[i]? = some (.val (cv ad v)) := hl.2.2 (i, cv ad v) (List.mem_map.mpr ⟨(i, v), List.mem_of_getElem? hm, rfl⟩)
def insL : AL → Nat × Value → AL
  | [], x => [x]
  | q :: t, x => if q.1 < x.1 then q :: insL t x else x :: q :: t
theorem insL_mem {x q : Nat × Value} : ∀ {L : AL}, q ∈ insL L x → q = x ∨ q ∈ L
  | [], h => Or.inl (List.mem_singleton.mp h)
  | y :: t, h => by
    unfold insL at h
    split at h
    · rcases List.mem_cons.mp h with h | h
      · exact Or.inr (h ▸ List.mem_cons_self)
      · exact (insL_mem h).imp id (List.mem_cons_of_mem _)
    · rcases List.mem_cons.mp h with h | h
      · exact Or.inl h
      · exact Or.inr h
/-- the locals behind a store of one word, of two -/
def stL (L : AL) (i : Nat) (v : Value) : AL := insL (L.filter fun q => !(q.1 == i) && !(q.1 + 1 == i && q.2.category == 2)) (i, v)
def stL2 (L : AL) (i : Nat) (v : Value) : AL := insL (L.filter fun q => !(q.1 == i) && (!(q.1 == i + 1) && !(q.1 + 1 == i && q.2.category == 2))) (i, v)
theorem st_has {ls : Array Slot} {nL i : Nat} {ad : Nat → Nat} {v : Value} (hl : lv_has ls nL ((i, cv ad v) :: (L.map fun q => (q.1, cv ad q.2)).filter fun q => !(q.1 == i) && !(q.1 + 1 == i && q.2.category == 2))) (hL : stL L i v = L') : lv_has ls nL (L'.map fun q => (q.1, cv ad q.2)) := by
  subst hL
  refine ⟨hl.1, hl.2.1, fun q hq => ?_⟩
  obtain ⟨q0, h0, rfl⟩ := List.mem_map.mp hq
  rcases insL_mem h0 with rfl | h1
  · exact hl.2.2 _ List.mem_cons_self
  · obtain ⟨h2, h3⟩ := List.mem_filter.mp h1
    exact hl.2.2 (q0.1, cv ad q0.2) (List.mem_cons_of_mem _ (List.mem_filter.mpr ⟨List.mem_map.mpr ⟨q0, h2, rfl⟩, by simpa [cv_cat] using h3⟩))
theorem st_has2 {ls : Array Slot} {nL i : Nat} {ad : Nat → Nat} {v : Value} (hl : lv_has ls nL ((i, cv ad v) :: (L.map fun q => (q.1, cv ad q.2)).filter fun q => !(q.1 == i) && (!(q.1 == i + 1) && !(q.1 + 1 == i && q.2.category == 2)))) (hL : stL2 L i v = L') : lv_has ls nL (L'.map fun q => (q.1, cv ad q.2)) := by
  subst hL
  refine ⟨hl.1, hl.2.1, fun q hq => ?_⟩
  obtain ⟨q0, h0, rfl⟩ := List.mem_map.mp hq
  rcases insL_mem h0 with rfl | h1
  · exact hl.2.2 _ List.mem_cons_self
  · obtain ⟨h2, h3⟩ := List.mem_filter.mp h1
    exact hl.2.2 (q0.1, cv ad q0.2) (List.mem_cons_of_mem _ (List.mem_filter.mpr ⟨List.mem_map.mpr ⟨q0, h2, rfl⟩, by simpa [cv_cat] using h3⟩))
theorem g_iconst {n : Int} {v : Int32} (hd : decode mm.2.1 pc = .ok (.iconst n, 1)) (hv : Int32.ofInt n = v) (hp : pc + 1 = pc') (kk : Go mm d mcr msr pc' L (.int v :: st) h Q) : Go mm d mcr msr pc L (st) h Q := g_pure (st' := .int v :: st) hp (fun B0 D ad p l e R s m args below meth c H locs cells slots Qf ls hC hl k => lv_iconst hC.1 hC.2.1 hd hv k) kk
theorem g_bipush {n : Int} {v : Int32} (hd : decode mm.2.1 pc = .ok (.bipush n, 2)) (hv : (Int8.ofInt n).toInt32 = v) (hp : pc + 2 = pc') (kk : Go mm d mcr msr pc' L (.int v :: st) h Q) : Go mm d mcr msr pc L (st) h Q := g_pure (st' := .int v :: st) hp (fun B0 D ad p l e R s m args below meth c H locs cells slots Qf ls hC hl k => lv_bipush hC.1 hC.2.1 hd hv k) kk
theorem g_sipush {n : Int} {v : Int32} (hd : decode mm.2.1 pc = .ok (.sipush n, 3)) (hv : (Int16.ofInt n).toInt32 = v) (hp : pc + 3 = pc') (kk : Go mm d mcr msr pc' L (.int v :: st) h Q) : Go mm d mcr msr pc L (st) h Q := g_pure (st' := .int v :: st) hp (fun B0 D ad p l e R s m args below meth c H locs cells slots Qf ls hC hl k => lv_sipush hC.1 hC.2.1 hd hv k) kk
theorem g_lconst {n : Fin 2} {v : Int64} (hd : decode mm.2.1 pc = .ok (.lconst n, 1)) (hv : Int64.ofNat (n : Nat) = v) (hp : pc + 1 = pc') (kk : Go mm d mcr msr pc' L (.long v :: st) h Q) : Go mm d mcr msr pc L (st) h Q := g_pure (st' := .long v :: st) hp (fun B0 D ad p l e R s m args below meth c H locs cells slots Qf ls hC hl k => lv_lconst hC.1 hC.2.1 hd hv k) kk
theorem g_null  (hd : decode mm.2.1 pc = .ok (.aconst_null, 1)) (hp : pc + 1 = pc') (kk : Go mm d mcr msr pc' L (.null :: st) h Q) : Go mm d mcr msr pc L (st) h Q := g_pure (st' := .null :: st) hp (fun B0 D ad p l e R s m args below meth c H locs cells slots Qf ls hC hl k => lv_null hC.1 hC.2.1 hd k) kk
theorem g_iadd {x y : Int32} (hd : decode mm.2.1 pc = .ok (.iadd, 1)) (hp : pc + 1 = pc') (kk : Go mm d mcr msr pc' L (.int (x + y) :: st) h Q) : Go mm d mcr msr pc L (.int y :: .int x :: st) h Q := g_pure (st' := .int (x + y) :: st) hp (fun B0 D ad p l e R s m args below meth c H locs cells slots Qf ls hC hl k => lv_iadd hC.1 hC.2.1 hd k) kk
theorem g_isub {x y : Int32} (hd : decode mm.2.1 pc = .ok (.isub, 1)) (hp : pc + 1 = pc') (kk : Go mm d mcr msr pc' L (.int (x - y) :: st) h Q) : Go mm d mcr msr pc L (.int y :: .int x :: st) h Q := g_pure (st' := .int (x - y) :: st) hp (fun B0 D ad p l e R s m args below meth c H locs cells slots Qf ls hC hl k => lv_isub hC.1 hC.2.1 hd k) kk
theorem g_imul {x y : Int32} (hd : decode mm.2.1 pc = .ok (.imul, 1)) (hp : pc + 1 = pc') (kk : Go mm d mcr msr pc' L (.int (x * y) :: st) h Q) : Go mm d mcr msr pc L (.int y :: .int x :: st) h Q := g_pure (st' := .int (x * y) :: st) hp (fun B0 D ad p l e R s m args below meth c H locs cells slots Qf ls hC hl k => lv_imul hC.1 hC.2.1 hd k) kk
theorem g_iand {x y : Int32} (hd : decode mm.2.1 pc = .ok (.iand, 1)) (hp : pc + 1 = pc') (kk : Go mm d mcr msr pc' L (.int (x &&& y) :: st) h Q) : Go mm d mcr msr pc L (.int y :: .int x :: st) h Q := g_pure (st' := .int (x &&& y) :: st) hp (fun B0 D ad p l e R s m args below meth c H locs cells slots Qf ls hC hl k => lv_iand hC.1 hC.2.1 hd k) kk
theorem g_ior {x y : Int32} (hd : decode mm.2.1 pc = .ok (.ior, 1)) (hp : pc + 1 = pc') (kk : Go mm d mcr msr pc' L (.int (x ||| y) :: st) h Q) : Go mm d mcr msr pc L (.int y :: .int x :: st) h Q := g_pure (st' := .int (x ||| y) :: st) hp (fun B0 D ad p l e R s m args below meth c H locs cells slots Qf ls hC hl k => lv_ior hC.1 hC.2.1 hd k) kk
theorem g_ishl {x y : Int32} (hd : decode mm.2.1 pc = .ok (.ishl, 1)) (hp : pc + 1 = pc') (kk : Go mm d mcr msr pc' L (.int (x <<< (y &&& 31)) :: st) h Q) : Go mm d mcr msr pc L (.int y :: .int x :: st) h Q := g_pure (st' := .int (x <<< (y &&& 31)) :: st) hp (fun B0 D ad p l e R s m args below meth c H locs cells slots Qf ls hC hl k => lv_ishl hC.1 hC.2.1 hd k) kk
theorem g_ishr {x y : Int32} (hd : decode mm.2.1 pc = .ok (.ishr, 1)) (hp : pc + 1 = pc') (kk : Go mm d mcr msr pc' L (.int (x >>> (y &&& 31)) :: st) h Q) : Go mm d mcr msr pc L (.int y :: .int x :: st) h Q := g_pure (st' := .int (x >>> (y &&& 31)) :: st) hp (fun B0 D ad p l e R s m args below meth c H locs cells slots Qf ls hC hl k => lv_ishr hC.1 hC.2.1 hd k) kk
theorem g_ladd {x y : Int64} (hd : decode mm.2.1 pc = .ok (.ladd, 1)) (hp : pc + 1 = pc') (kk : Go mm d mcr msr pc' L (.long (x + y) :: st) h Q) : Go mm d mcr msr pc L (.long y :: .long x :: st) h Q := g_pure (st' := .long (x + y) :: st) hp (fun B0 D ad p l e R s m args below meth c H locs cells slots Qf ls hC hl k => lv_ladd hC.1 hC.2.1 hd k) kk
theorem g_lmul {x y : Int64} (hd : decode mm.2.1 pc = .ok (.lmul, 1)) (hp : pc + 1 = pc') (kk : Go mm d mcr msr pc' L (.long (x * y) :: st) h Q) : Go mm d mcr msr pc L (.long y :: .long x :: st) h Q := g_pure (st' := .long (x * y) :: st) hp (fun B0 D ad p l e R s m args below meth c H locs cells slots Qf ls hC hl k => lv_lmul hC.1 hC.2.1 hd k) kk
theorem g_land {x y : Int64} (hd : decode mm.2.1 pc = .ok (.land, 1)) (hp : pc + 1 = pc') (kk : Go mm d mcr msr pc' L (.long (x &&& y) :: st) h Q) : Go mm d mcr msr pc L (.long y :: .long x :: st) h Q := g_pure (st' := .long (x &&& y) :: st) hp (fun B0 D ad p l e R s m args below meth c H locs cells slots Qf ls hC hl k => lv_land hC.1 hC.2.1 hd k) kk
theorem g_lor {x y : Int64} (hd : decode mm.2.1 pc = .ok (.lor, 1)) (hp : pc + 1 = pc') (kk : Go mm d mcr msr pc' L (.long (x ||| y) :: st) h Q) : Go mm d mcr msr pc L (.long y :: .long x :: st) h Q := g_pure (st' := .long (x ||| y) :: st) hp (fun B0 D ad p l e R s m args below meth c H locs cells slots Qf ls hC hl k => lv_lor hC.1 hC.2.1 hd k) kk
theorem g_idiv {x y : Int32} (hd : decode mm.2.1 pc = .ok (.idiv, 1)) (hne : ¬ y = 0) (hp : pc + 1 = pc') (kk : Go mm d mcr msr pc' L (.int (x / y) :: st) h Q) : Go mm d mcr msr pc L (.int y :: .int x :: st) h Q := g_pure (st' := .int (x / y) :: st) hp (fun B0 D ad p l e R s m args below meth c H locs cells slots Qf ls hC hl k => lv_idiv hC.1 hC.2.1 hd hne k) kk
theorem g_irem {x y : Int32} (hd : decode mm.2.1 pc = .ok (.irem, 1)) (hne : ¬ y = 0) (hp : pc + 1 = pc') (kk : Go mm d mcr msr pc' L (.int (x - x / y * y) :: st) h Q) : Go mm d mcr msr pc L (.int y :: .int x :: st) h Q := g_pure (st' := .int (x - x / y * y) :: st) hp (fun B0 D ad p l e R s m args below meth c H locs cells slots Qf ls hC hl k => lv_irem hC.1 hC.2.1 hd hne k) kk
theorem g_lrem {x y : Int64} (hd : decode mm.2.1 pc = .ok (.lrem, 1)) (hne : ¬ y = 0) (hp : pc + 1 = pc') (kk : Go mm d mcr msr pc' L (.long (x - x / y * y) :: st) h Q) : Go mm d mcr msr pc L (.long y :: .long x :: st) h Q := g_pure (st' := .long (x - x / y * y) :: st) hp (fun B0 D ad p l e R s m args below meth c H locs cells slots Qf ls hC hl k => lv_lrem hC.1 hC.2.1 hd hne k) kk
theorem g_ldiv {x y : Int64} (hd : decode mm.2.1 pc = .ok (.ldiv, 1)) (hne : ¬ y = 0) (hp : pc + 1 = pc') (kk : Go mm d mcr msr pc' L (.long (x / y) :: st) h Q) : Go mm d mcr msr pc L (.long y :: .long x :: st) h Q := g_pure (st' := .long (x / y) :: st) hp (fun B0 D ad p l e R s m args below meth c H locs cells slots Qf ls hC hl k => lv_ldiv hC.1 hC.2.1 hd hne k) kk
theorem g_iushr {x y : Int32} (hd : decode mm.2.1 pc = .ok (.iushr, 1)) (hp : pc + 1 = pc') (kk : Go mm d mcr msr pc' L (.int ((x.toUInt32 >>> (y.toUInt32 &&& Int32.toUInt32 31)).toInt32) :: st) h Q) : Go mm d mcr msr pc L (.int y :: .int x :: st) h Q := g_pure (st' := .int ((x.toUInt32 >>> (y.toUInt32 &&& Int32.toUInt32 31)).toInt32) :: st) hp (fun B0 D ad p l e R s m args below meth c H locs cells slots Qf ls hC hl k => lv_iushr hC.1 hC.2.1 hd rfl k) kk
theorem g_lshl {x : Int64} {y : Int32} (hd : decode mm.2.1 pc = .ok (.lshl, 1)) (hp : pc + 1 = pc') (kk : Go mm d mcr msr pc' L (.long (x <<< (y.toInt64 &&& 63)) :: st) h Q) : Go mm d mcr msr pc L (.int y :: .long x :: st) h Q := g_pure (st' := .long (x <<< (y.toInt64 &&& 63)) :: st) hp (fun B0 D ad p l e R s m args below meth c H locs cells slots Qf ls hC hl k => lv_lshl hC.1 hC.2.1 hd rfl k) kk
theorem g_lcmp {x y : Int64} (hd : decode mm.2.1 pc = .ok (.lcmp, 1)) (hp : pc + 1 = pc') (kk : Go mm d mcr msr pc' L (.int (lg_cmp x y) :: st) h Q) : Go mm d mcr msr pc L (.long y :: .long x :: st) h Q := g_pure (st' := .int (lg_cmp x y) :: st) hp (fun B0 D ad p l e R s m args below meth c H locs cells slots Qf ls hC hl k => W.lcmp hC.1 hC.2.1 hd k) kk
theorem g_i2l {x : Int32} (hd : decode mm.2.1 pc = .ok (.i2l, 1)) (hp : pc + 1 = pc') (kk : Go mm d mcr msr pc' L (.long (x.toInt64) :: st) h Q) : Go mm d mcr msr pc L (.int x :: st) h Q := g_pure (st' := .long (x.toInt64) :: st) hp (fun B0 D ad p l e R s m args below meth c H locs cells slots Qf ls hC hl k => lv_i2l hC.1 hC.2.1 hd rfl k) kk
theorem g_l2i {x : Int64} (hd : decode mm.2.1 pc = .ok (.l2i, 1)) (hp : pc + 1 = pc') (kk : Go mm d mcr msr pc' L (.int (x.toInt32) :: st) h Q) : Go mm d mcr msr pc L (.long x :: st) h Q := g_pure (st' := .int (x.toInt32) :: st) hp (fun B0 D ad p l e R s m args below meth c H locs cells slots Qf ls hC hl k => lv_l2i hC.1 hC.2.1 hd rfl k) kk
theorem g_i2b {x : Int32} (hd : decode mm.2.1 pc = .ok (.i2b, 1)) (hp : pc + 1 = pc') (kk : Go mm d mcr msr pc' L (.int (x.toInt8.toInt32) :: st) h Q) : Go mm d mcr msr pc L (.int x :: st) h Q := g_pure (st' := .int (x.toInt8.toInt32) :: st) hp (fun B0 D ad p l e R s m args below meth c H locs cells slots Qf ls hC hl k => lv_i2b hC.1 hC.2.1 hd rfl k) kk
theorem g_i2s {x : Int32} (hd : decode mm.2.1 pc = .ok (.i2s, 1)) (hp : pc + 1 = pc') (kk : Go mm d mcr msr pc' L (.int (x.toInt16.toInt32) :: st) h Q) : Go mm d mcr msr pc L (.int x :: st) h Q := g_pure (st' := .int (x.toInt16.toInt32) :: st) hp (fun B0 D ad p l e R s m args below meth c H locs cells slots Qf ls hC hl k => lv_i2s hC.1 hC.2.1 hd rfl k) kk
theorem g_i2c {x : Int32} (hd : decode mm.2.1 pc = .ok (.i2c, 1)) (hp : pc + 1 = pc') (kk : Go mm d mcr msr pc' L (.int ((x.toUInt32 % 65536).toInt32) :: st) h Q) : Go mm d mcr msr pc L (.int x :: st) h Q := g_pure (st' := .int ((x.toUInt32 % 65536).toInt32) :: st) hp (fun B0 D ad p l e R s m args below meth c H locs cells slots Qf ls hC hl k => lv_i2c hC.1 hC.2.1 hd rfl k) kk
theorem g_dup {v : Value} (hd : decode mm.2.1 pc = .ok (.dup, 1)) (hv : v.category = 1) (hp : pc + 1 = pc') (kk : Go mm d mcr msr pc' L (v :: v :: st) h Q) : Go mm d mcr msr pc L (v :: st) h Q := g_pure (st' := v :: v :: st) hp (fun B0 D ad p l e R s m args below meth c H locs cells slots Qf ls hC hl k => lv_dup hC.1 hC.2.1 hd (by rw [cv_cat]; exact hv) k) kk
theorem g_pop {v : Value} (hd : decode mm.2.1 pc = .ok (.pop, 1)) (hv : v.category = 1) (hp : pc + 1 = pc') (kk : Go mm d mcr msr pc' L (st) h Q) : Go mm d mcr msr pc L (v :: st) h Q := g_pure (st' := st) hp (fun B0 D ad p l e R s m args below meth c H locs cells slots Qf ls hC hl k => lv_pop hC.1 hC.2.1 hd (by rw [cv_cat]; exact hv) k) kk
theorem g_dup2 {v w : Value} (hd : decode mm.2.1 pc = .ok (.dup2, 1)) (hv : v.category = 1) (hw : w.category = 1) (hp : pc + 1 = pc') (kk : Go mm d mcr msr pc' L (v :: w :: v :: w :: st) h Q) : Go mm d mcr msr pc L (v :: w :: st) h Q := g_pure (st' := v :: w :: v :: w :: st) hp (fun B0 D ad p l e R s m args below meth c H locs cells slots Qf ls hC hl k => lv_dup2_11 hC.1 hC.2.1 hd (by rw [cv_cat]; exact hv) (by rw [cv_cat]; exact hw) k) kk
theorem g_iload_n {k0 : Fin 4} {x : Int32} {j : Nat} (hd : decode mm.2.1 pc = .ok (.iload_n k0, 1)) (hm : L[j]? = some ((k0 : Nat), .int x)) (hp : pc + 1 = pc') (kk : Go mm d mcr msr pc' L (.int x :: st) h Q) : Go mm d mcr msr pc L (st) h Q := g_pure (st' := .int x :: st) hp (fun B0 D ad p l e R s m args below meth c H locs cells slots Qf ls hC hl k => lv_iload_n hC.1 hC.2.1 hd rfl (ll_at hl hm) k) kk
theorem g_iload {i : Nat} {x : Int32} {j : Nat} (hd : decode mm.2.1 pc = .ok (.iload i, 2)) (hm : L[j]? = some (i, .int x)) (hp : pc + 2 = pc') (kk : Go mm d mcr msr pc' L (.int x :: st) h Q) : Go mm d mcr msr pc L (st) h Q := g_pure (st' := .int x :: st) hp (fun B0 D ad p l e R s m args below meth c H locs cells slots Qf ls hC hl k => lv_iload hC.1 hC.2.1 hd (ll_at hl hm) k) kk
theorem g_lload_n {k0 : Fin 4} {x : Int64} {j : Nat} (hd : decode mm.2.1 pc = .ok (.lload_n k0, 1)) (hm : L[j]? = some ((k0 : Nat), .long x)) (hp : pc + 1 = pc') (kk : Go mm d mcr msr pc' L (.long x :: st) h Q) : Go mm d mcr msr pc L (st) h Q := g_pure (st' := .long x :: st) hp (fun B0 D ad p l e R s m args below meth c H locs cells slots Qf ls hC hl k => lv_lload_n hC.1 hC.2.1 hd rfl (ll_at hl hm) k) kk
theorem g_lload {i : Nat} {x : Int64} {j : Nat} (hd : decode mm.2.1 pc = .ok (.lload i, 2)) (hm : L[j]? = some (i, .long x)) (hp : pc + 2 = pc') (kk : Go mm d mcr msr pc' L (.long x :: st) h Q) : Go mm d mcr msr pc L (st) h Q := g_pure (st' := .long x :: st) hp (fun B0 D ad p l e R s m args below meth c H locs cells slots Qf ls hC hl k => lv_lload hC.1 hC.2.1 hd (ll_at hl hm) k) kk
theorem g_aload_n {k0 : Fin 4} {x : Nat} {j : Nat} (hd : decode mm.2.1 pc = .ok (.aload_n k0, 1)) (hm : L[j]? = some ((k0 : Nat), .ref x)) (hp : pc + 1 = pc') (kk : Go mm d mcr msr pc' L (.ref x :: st) h Q) : Go mm d mcr msr pc L (st) h Q := g_pure (st' := .ref x :: st) hp (fun B0 D ad p l e R s m args below meth c H locs cells slots Qf ls hC hl k => lv_aload_n hC.1 hC.2.1 hd rfl (ll_at hl hm) k) kk
theorem g_aload {i : Nat} {x : Nat} {j : Nat} (hd : decode mm.2.1 pc = .ok (.aload i, 2)) (hm : L[j]? = some (i, .ref x)) (hp : pc + 2 = pc') (kk : Go mm d mcr msr pc' L (.ref x :: st) h Q) : Go mm d mcr msr pc L (st) h Q := g_pure (st' := .ref x :: st) hp (fun B0 D ad p l e R s m args below meth c H locs cells slots Qf ls hC hl k => lv_aload hC.1 hC.2.1 hd (ll_at hl hm) k) kk
theorem g_aload_nN {k0 : Fin 4} {j : Nat} (hd : decode mm.2.1 pc = .ok (.aload_n k0, 1)) (hm : L[j]? = some ((k0 : Nat), .null)) (hp : pc + 1 = pc') (kk : Go mm d mcr msr pc' L (.null :: st) h Q) : Go mm d mcr msr pc L (st) h Q := g_pure (st' := .null :: st) hp (fun B0 D ad p l e R s m args below meth c H locs cells slots Qf ls hC hl k => lv_aload_nN hC.1 hC.2.1 hd rfl (ll_at hl hm) k) kk
theorem g_ldc {i : Nat} {v : Int32} (hd : decode mm.2.1 pc = .ok (.ldc i, 2)) (hw : Cond.constant mm.1.cls i v ∈ gtbl) (hp : pc + 2 = pc') (kk : Go mm d mcr msr pc' L (.int v :: st) h Q) : Go mm d mcr msr pc L (st) h Q := g_pure (st' := .int v :: st) hp (fun B0 D ad p l e R s m args below meth c H locs cells slots Qf ls hC hl k => lv_ldc hC.1 hC.2.1 hC.2.2.2.1 (hC.2.2.2.2.2.1 _ hw) hd k) kk
theorem g_ldcw {i : Nat} {v : Int32} (hd : decode mm.2.1 pc = .ok (.ldc_w i, 3)) (hw : Cond.constant mm.1.cls i v ∈ gtbl) (hp : pc + 3 = pc') (kk : Go mm d mcr msr pc' L (.int v :: st) h Q) : Go mm d mcr msr pc L (st) h Q := g_pure (st' := .int v :: st) hp (fun B0 D ad p l e R s m args below meth c H locs cells slots Qf ls hC hl k => lv_ldcw hC.1 hC.2.1 hC.2.2.2.1 (hC.2.2.2.2.2.1 _ hw) hd k) kk
theorem g_ldc2 {i : Nat} {v : Int64} (hd : decode mm.2.1 pc = .ok (.ldc2_w i, 3)) (hw : Cond.constantLong mm.1.cls i v ∈ gtbl) (hp : pc + 3 = pc') (kk : Go mm d mcr msr pc' L (.long v :: st) h Q) : Go mm d mcr msr pc L (st) h Q := g_pure (st' := .long v :: st) hp (fun B0 D ad p l e R s m args below meth c H locs cells slots Qf ls hC hl k => lv_ldc2 hC.1 hC.2.1 hC.2.2.2.1 (hC.2.2.2.2.2.1 _ hw) hd k) kk
theorem g_istore_n {k0 : Fin 4} {x : Int32} (hd : decode mm.2.1 pc = .ok (.istore_n k0, 1)) (hn : (k0 : Nat) < mm.2.2.1) (hL : stL L (k0 : Nat) (.int x) = L') (hp : pc + 1 = pc') (kk : Go mm d mcr msr pc' L' st h Q) : Go mm d mcr msr pc L (.int x :: st) h Q := by
  subst hp
  intro B0 D ad cid p l e R s m args below meth c H locs cells slots Qf ls hC hR hS hl hc hs hE
  exact lv_istore_n hC.1 hC.2.1 hd rfl hl hn rfl (fun ls hl => kk B0 D ad cid p l e R s m args below meth c H locs cells slots Qf ls hC hR hS (st_has (v := .int x) hl hL) hc hs hE)
theorem g_istore {i : Nat} {x : Int32} (hd : decode mm.2.1 pc = .ok (.istore i, 2)) (hn : i < mm.2.2.1) (hL : stL L i (.int x) = L') (hp : pc + 2 = pc') (kk : Go mm d mcr msr pc' L' st h Q) : Go mm d mcr msr pc L (.int x :: st) h Q := by
  subst hp
  intro B0 D ad cid p l e R s m args below meth c H locs cells slots Qf ls hC hR hS hl hc hs hE
  exact lv_istore hC.1 hC.2.1 hd hl hn rfl (fun ls hl => kk B0 D ad cid p l e R s m args below meth c H locs cells slots Qf ls hC hR hS (st_has (v := .int x) hl hL) hc hs hE)
theorem g_lstore_n {k0 : Fin 4} {x : Int64} (hd : decode mm.2.1 pc = .ok (.lstore_n k0, 1)) (hn : (k0 : Nat) + 1 < mm.2.2.1) (hL : stL2 L (k0 : Nat) (.long x) = L') (hp : pc + 1 = pc') (kk : Go mm d mcr msr pc' L' st h Q) : Go mm d mcr msr pc L (.long x :: st) h Q := by
  subst hp
  intro B0 D ad cid p l e R s m args below meth c H locs cells slots Qf ls hC hR hS hl hc hs hE
  exact lv_lstore_n hC.1 hC.2.1 hd rfl hl hn rfl (fun ls hl => kk B0 D ad cid p l e R s m args below meth c H locs cells slots Qf ls hC hR hS (st_has2 (v := .long x) hl hL) hc hs hE)
theorem g_lstore {i : Nat} {x : Int64} (hd : decode mm.2.1 pc = .ok (.lstore i, 2)) (hn : i + 1 < mm.2.2.1) (hL : stL2 L i (.long x) = L') (hp : pc + 2 = pc') (kk : Go mm d mcr msr pc' L' st h Q) : Go mm d mcr msr pc L (.long x :: st) h Q := by
  subst hp
  intro B0 D ad cid p l e R s m args below meth c H locs cells slots Qf ls hC hR hS hl hc hs hE
  exact lv_lstore hC.1 hC.2.1 hd hl hn rfl (fun ls hl => kk B0 D ad cid p l e R s m args below meth c H locs cells slots Qf ls hC hR hS (st_has2 (v := .long x) hl hL) hc hs hE)
theorem g_astore_n {k0 : Fin 4} {x : Nat} (hd : decode mm.2.1 pc = .ok (.astore_n k0, 1)) (hn : (k0 : Nat) < mm.2.2.1) (hL : stL L (k0 : Nat) (.ref x) = L') (hp : pc + 1 = pc') (kk : Go mm d mcr msr pc' L' st h Q) : Go mm d mcr msr pc L (.ref x :: st) h Q := by
  subst hp
  intro B0 D ad cid p l e R s m args below meth c H locs cells slots Qf ls hC hR hS hl hc hs hE
  exact lv_astore_n hC.1 hC.2.1 hd rfl hl hn rfl (fun ls hl => kk B0 D ad cid p l e R s m args below meth c H locs cells slots Qf ls hC hR hS (st_has (v := .ref x) hl hL) hc hs hE)
theorem g_astore {i : Nat} {x : Nat} (hd : decode mm.2.1 pc = .ok (.astore i, 2)) (hn : i < mm.2.2.1) (hL : stL L i (.ref x) = L') (hp : pc + 2 = pc') (kk : Go mm d mcr msr pc' L' st h Q) : Go mm d mcr msr pc L (.ref x :: st) h Q := by
  subst hp
  intro B0 D ad cid p l e R s m args below meth c H locs cells slots Qf ls hC hR hS hl hc hs hE
  exact lv_astore hC.1 hC.2.1 hd hl hn rfl (fun ls hl => kk B0 D ad cid p l e R s m args below meth c H locs cells slots Qf ls hC hR hS (st_has (v := .ref x) hl hL) hc hs hE)
theorem g_astore_nN {k0 : Fin 4} (hd : decode mm.2.1 pc = .ok (.astore_n k0, 1)) (hn : (k0 : Nat) < mm.2.2.1) (hL : stL L (k0 : Nat) .null = L') (hp : pc + 1 = pc') (kk : Go mm d mcr msr pc' L' st h Q) : Go mm d mcr msr pc L (.null :: st) h Q := by
  subst hp
  intro B0 D ad cid p l e R s m args below meth c H locs cells slots Qf ls hC hR hS hl hc hs hE
  exact lv_astore_nN hC.1 hC.2.1 hd rfl hl hn rfl (fun ls hl => kk B0 D ad cid p l e R s m args below meth c H locs cells slots Qf ls hC hR hS (st_has (v := .null) hl hL) hc hs hE)
theorem g_iinc {i j : Nat} {n : Int} {x v : Int32} (hd : decode mm.2.1 pc = .ok (.iinc i n, 3)) (hm : L[j]? = some (i, .int x)) (hv : x + Int32.ofInt n = v) (hn : i < mm.2.2.1) (hL : stL L i (.int v) = L') (hp : pc + 3 = pc') (kk : Go mm d mcr msr pc' L' st h Q) : Go mm d mcr msr pc L st h Q := by
  subst hp
  intro B0 D ad cid p l e R s m args below meth c H locs cells slots Qf ls hC hR hS hl hc hs hE
  exact lv_iinc (k := j) hC.1 hC.2.1 hd hl (by rw [List.getElem?_map, hm]; rfl) hv hn rfl (fun ls hl => kk B0 D ad cid p l e R s m args below meth c H locs cells slots Qf ls hC hR hS (st_has (v := .int v) hl hL) hc hs hE)
theorem g_if_eq {x : Int32} {off : Int} {tgt : Nat} (hd : decode mm.2.1 pc = .ok (.ifCond .eq off, 3)) (ht : (pc : Int) + off = (tgt : Int)) (hp : pc + 3 = pc') (kt : x = 0 → Go mm d mcr msr tgt L st h Q) (kf : ¬ x = 0 → Go mm d mcr msr pc' L st h Q) : Go mm d mcr msr pc L (.int x :: st) h Q := by
  subst hp
  intro B0 D ad cid p l e R s m args below meth c H locs cells slots Qf ls hC hR hS hl hc hs hE
  exact lv_if_eq hC.1 hC.2.1 hd ht (fun q => kt q B0 D ad cid p l e R s m args below meth c H locs cells slots Qf ls hC hR hS hl hc hs hE) (fun q => kf q B0 D ad cid p l e R s m args below meth c H locs cells slots Qf ls hC hR hS hl hc hs hE)
theorem g_if_ne {x : Int32} {off : Int} {tgt : Nat} (hd : decode mm.2.1 pc = .ok (.ifCond .ne off, 3)) (ht : (pc : Int) + off = (tgt : Int)) (hp : pc + 3 = pc') (kt : ¬ x = 0 → Go mm d mcr msr tgt L st h Q) (kf : x = 0 → Go mm d mcr msr pc' L st h Q) : Go mm d mcr msr pc L (.int x :: st) h Q := by
  subst hp
  intro B0 D ad cid p l e R s m args below meth c H locs cells slots Qf ls hC hR hS hl hc hs hE
  exact lv_if_ne hC.1 hC.2.1 hd ht (fun q => kt q B0 D ad cid p l e R s m args below meth c H locs cells slots Qf ls hC hR hS hl hc hs hE) (fun q => kf q B0 D ad cid p l e R s m args below meth c H locs cells slots Qf ls hC hR hS hl hc hs hE)
theorem g_if_lt {x : Int32} {off : Int} {tgt : Nat} (hd : decode mm.2.1 pc = .ok (.ifCond .lt off, 3)) (ht : (pc : Int) + off = (tgt : Int)) (hp : pc + 3 = pc') (kt : x < 0 → Go mm d mcr msr tgt L st h Q) (kf : ¬ x < 0 → Go mm d mcr msr pc' L st h Q) : Go mm d mcr msr pc L (.int x :: st) h Q := by
  subst hp
  intro B0 D ad cid p l e R s m args below meth c H locs cells slots Qf ls hC hR hS hl hc hs hE
  exact lv_if_lt hC.1 hC.2.1 hd ht (fun q => kt q B0 D ad cid p l e R s m args below meth c H locs cells slots Qf ls hC hR hS hl hc hs hE) (fun q => kf q B0 D ad cid p l e R s m args below meth c H locs cells slots Qf ls hC hR hS hl hc hs hE)
theorem g_if_ge {x : Int32} {off : Int} {tgt : Nat} (hd : decode mm.2.1 pc = .ok (.ifCond .ge off, 3)) (ht : (pc : Int) + off = (tgt : Int)) (hp : pc + 3 = pc') (kt : 0 ≤ x → Go mm d mcr msr tgt L st h Q) (kf : ¬ 0 ≤ x → Go mm d mcr msr pc' L st h Q) : Go mm d mcr msr pc L (.int x :: st) h Q := by
  subst hp
  intro B0 D ad cid p l e R s m args below meth c H locs cells slots Qf ls hC hR hS hl hc hs hE
  exact lv_if_ge hC.1 hC.2.1 hd ht (fun q => kt q B0 D ad cid p l e R s m args below meth c H locs cells slots Qf ls hC hR hS hl hc hs hE) (fun q => kf q B0 D ad cid p l e R s m args below meth c H locs cells slots Qf ls hC hR hS hl hc hs hE)
theorem g_if_gt {x : Int32} {off : Int} {tgt : Nat} (hd : decode mm.2.1 pc = .ok (.ifCond .gt off, 3)) (ht : (pc : Int) + off = (tgt : Int)) (hp : pc + 3 = pc') (kt : 0 < x → Go mm d mcr msr tgt L st h Q) (kf : ¬ 0 < x → Go mm d mcr msr pc' L st h Q) : Go mm d mcr msr pc L (.int x :: st) h Q := by
  subst hp
  intro B0 D ad cid p l e R s m args below meth c H locs cells slots Qf ls hC hR hS hl hc hs hE
  exact lv_if_gt hC.1 hC.2.1 hd ht (fun q => kt q B0 D ad cid p l e R s m args below meth c H locs cells slots Qf ls hC hR hS hl hc hs hE) (fun q => kf q B0 D ad cid p l e R s m args below meth c H locs cells slots Qf ls hC hR hS hl hc hs hE)
theorem g_if_le {x : Int32} {off : Int} {tgt : Nat} (hd : decode mm.2.1 pc = .ok (.ifCond .le off, 3)) (ht : (pc : Int) + off = (tgt : Int)) (hp : pc + 3 = pc') (kt : x ≤ 0 → Go mm d mcr msr tgt L st h Q) (kf : ¬ x ≤ 0 → Go mm d mcr msr pc' L st h Q) : Go mm d mcr msr pc L (.int x :: st) h Q := by
  subst hp
  intro B0 D ad cid p l e R s m args below meth c H locs cells slots Qf ls hC hR hS hl hc hs hE
  exact lv_if_le hC.1 hC.2.1 hd ht (fun q => kt q B0 D ad cid p l e R s m args below meth c H locs cells slots Qf ls hC hR hS hl hc hs hE) (fun q => kf q B0 D ad cid p l e R s m args below meth c H locs cells slots Qf ls hC hR hS hl hc hs hE)
theorem g_icmp_eq {x y : Int32} {off : Int} {tgt : Nat} (hd : decode mm.2.1 pc = .ok (.if_icmp .eq off, 3)) (ht : (pc : Int) + off = (tgt : Int)) (hp : pc + 3 = pc') (kt : x = y → Go mm d mcr msr tgt L st h Q) (kf : ¬ x = y → Go mm d mcr msr pc' L st h Q) : Go mm d mcr msr pc L (.int y :: .int x :: st) h Q := by
  subst hp
  intro B0 D ad cid p l e R s m args below meth c H locs cells slots Qf ls hC hR hS hl hc hs hE
  exact lv_icmp_eq hC.1 hC.2.1 hd ht (fun q => kt q B0 D ad cid p l e R s m args below meth c H locs cells slots Qf ls hC hR hS hl hc hs hE) (fun q => kf q B0 D ad cid p l e R s m args below meth c H locs cells slots Qf ls hC hR hS hl hc hs hE)
theorem g_icmp_ne {x y : Int32} {off : Int} {tgt : Nat} (hd : decode mm.2.1 pc = .ok (.if_icmp .ne off, 3)) (ht : (pc : Int) + off = (tgt : Int)) (hp : pc + 3 = pc') (kt : ¬ x = y → Go mm d mcr msr tgt L st h Q) (kf : x = y → Go mm d mcr msr pc' L st h Q) : Go mm d mcr msr pc L (.int y :: .int x :: st) h Q := by
  subst hp
  intro B0 D ad cid p l e R s m args below meth c H locs cells slots Qf ls hC hR hS hl hc hs hE
  exact lv_icmp_ne hC.1 hC.2.1 hd ht (fun q => kt q B0 D ad cid p l e R s m args below meth c H locs cells slots Qf ls hC hR hS hl hc hs hE) (fun q => kf q B0 D ad cid p l e R s m args below meth c H locs cells slots Qf ls hC hR hS hl hc hs hE)
theorem g_icmp_lt {x y : Int32} {off : Int} {tgt : Nat} (hd : decode mm.2.1 pc = .ok (.if_icmp .lt off, 3)) (ht : (pc : Int) + off = (tgt : Int)) (hp : pc + 3 = pc') (kt : x < y → Go mm d mcr msr tgt L st h Q) (kf : ¬ x < y → Go mm d mcr msr pc' L st h Q) : Go mm d mcr msr pc L (.int y :: .int x :: st) h Q := by
  subst hp
  intro B0 D ad cid p l e R s m args below meth c H locs cells slots Qf ls hC hR hS hl hc hs hE
  exact lv_icmp_lt hC.1 hC.2.1 hd ht (fun q => kt q B0 D ad cid p l e R s m args below meth c H locs cells slots Qf ls hC hR hS hl hc hs hE) (fun q => kf q B0 D ad cid p l e R s m args below meth c H locs cells slots Qf ls hC hR hS hl hc hs hE)
theorem g_icmp_ge {x y : Int32} {off : Int} {tgt : Nat} (hd : decode mm.2.1 pc = .ok (.if_icmp .ge off, 3)) (ht : (pc : Int) + off = (tgt : Int)) (hp : pc + 3 = pc') (kt : y ≤ x → Go mm d mcr msr tgt L st h Q) (kf : ¬ y ≤ x → Go mm d mcr msr pc' L st h Q) : Go mm d mcr msr pc L (.int y :: .int x :: st) h Q := by
  subst hp
  intro B0 D ad cid p l e R s m args below meth c H locs cells slots Qf ls hC hR hS hl hc hs hE
  exact lv_icmp_ge hC.1 hC.2.1 hd ht (fun q => kt q B0 D ad cid p l e R s m args below meth c H locs cells slots Qf ls hC hR hS hl hc hs hE) (fun q => kf q B0 D ad cid p l e R s m args below meth c H locs cells slots Qf ls hC hR hS hl hc hs hE)
theorem g_icmp_gt {x y : Int32} {off : Int} {tgt : Nat} (hd : decode mm.2.1 pc = .ok (.if_icmp .gt off, 3)) (ht : (pc : Int) + off = (tgt : Int)) (hp : pc + 3 = pc') (kt : y < x → Go mm d mcr msr tgt L st h Q) (kf : ¬ y < x → Go mm d mcr msr pc' L st h Q) : Go mm d mcr msr pc L (.int y :: .int x :: st) h Q := by
  subst hp
  intro B0 D ad cid p l e R s m args below meth c H locs cells slots Qf ls hC hR hS hl hc hs hE
  exact lv_icmp_gt hC.1 hC.2.1 hd ht (fun q => kt q B0 D ad cid p l e R s m args below meth c H locs cells slots Qf ls hC hR hS hl hc hs hE) (fun q => kf q B0 D ad cid p l e R s m args below meth c H locs cells slots Qf ls hC hR hS hl hc hs hE)
theorem g_icmp_le {x y : Int32} {off : Int} {tgt : Nat} (hd : decode mm.2.1 pc = .ok (.if_icmp .le off, 3)) (ht : (pc : Int) + off = (tgt : Int)) (hp : pc + 3 = pc') (kt : x ≤ y → Go mm d mcr msr tgt L st h Q) (kf : ¬ x ≤ y → Go mm d mcr msr pc' L st h Q) : Go mm d mcr msr pc L (.int y :: .int x :: st) h Q := by
  subst hp
  intro B0 D ad cid p l e R s m args below meth c H locs cells slots Qf ls hC hR hS hl hc hs hE
  exact lv_icmp_le hC.1 hC.2.1 hd ht (fun q => kt q B0 D ad cid p l e R s m args below meth c H locs cells slots Qf ls hC hR hS hl hc hs hE) (fun q => kf q B0 D ad cid p l e R s m args below meth c H locs cells slots Qf ls hC hR hS hl hc hs hE)
theorem g_goto {off : Int} {tgt : Nat} (hd : decode mm.2.1 pc = .ok (.goto off, 3)) (ht : (pc : Int) + off = (tgt : Int)) (kk : Go mm d mcr msr tgt L st h Q) : Go mm d mcr msr pc L st h Q := by
  intro B0 D ad cid p l e R s m args below meth c H locs cells slots Qf ls hC hR hS hl hc hs hE
  exact lv_goto hC.1 hC.2.1 hd ht (kk B0 D ad cid p l e R s m args below meth c H locs cells slots Qf ls hC hR hS hl hc hs hE)
theorem g_ifnonnull {k : Nat} {off : Int} {tgt : Nat} (hd : decode mm.2.1 pc = .ok (.ifnonnull off, 3)) (ht : (pc : Int) + off = (tgt : Int)) (kk : Go mm d mcr msr tgt L st h Q) : Go mm d mcr msr pc L (.ref k :: st) h Q := by
  intro B0 D ad cid p l e R s m args below meth c H locs cells slots Qf ls hC hR hS hl hc hs hE
  exact lv_ifnonnull hC.1 hC.2.1 hd ht (kk B0 D ad cid p l e R s m args below meth c H locs cells slots Qf ls hC hR hS hl hc hs hE)
theorem g_ifnonnullN {off : Int} (hd : decode mm.2.1 pc = .ok (.ifnonnull off, 3)) (hp : pc + 3 = pc') (kk : Go mm d mcr msr pc' L st h Q) : Go mm d mcr msr pc L (.null :: st) h Q := by
  subst hp
  intro B0 D ad cid p l e R s m args below meth c H locs cells slots Qf ls hC hR hS hl hc hs hE
  exact lv_ifnonnullN hC.1 hC.2.1 hd (kk B0 D ad cid p l e R s m args below meth c H locs cells slots Qf ls hC hR hS hl hc hs hE)
theorem g_tblOut {dflt lo hi : Int} {offs : Array Int} {len : Nat} {x : Int32} {tgt : Nat} (hd : decode mm.2.1 pc = .ok (.tableswitch dflt lo hi offs, len)) (hx : x.toInt < lo ∨ hi < x.toInt) (ht : (pc : Int) + dflt = (tgt : Int)) (kk : Go mm d mcr msr tgt L st h Q) : Go mm d mcr msr pc L (.int x :: st) h Q := by
  intro B0 D ad cid p l e R s m args below meth c H locs cells slots Qf ls hC hR hS hl hc hs hE
  exact lv_tableOut hC.1 hC.2.1 hd hx ht (kk B0 D ad cid p l e R s m args below meth c H locs cells slots Qf ls hC hR hS hl hc hs hE)
theorem g_tblIn {dflt lo hi : Int} {offs : Array Int} {len : Nat} {x : Int32} {off : Int} {tgt : Nat} (hd : decode mm.2.1 pc = .ok (.tableswitch dflt lo hi offs, len)) (h1 : ¬ x.toInt < lo) (h2 : ¬ hi < x.toInt) (ho : offs[(x.toInt - lo).toNat]? = some off) (ht : (pc : Int) + off = (tgt : Int)) (kk : Go mm d mcr msr tgt L st h Q) : Go mm d mcr msr pc L (.int x :: st) h Q := by
  intro B0 D ad cid p l e R s m args below meth c H locs cells slots Qf ls hC hR hS hl hc hs hE
  exact lv_tableIn hC.1 hC.2.1 hd h1 h2 ho ht (kk B0 D ad cid p l e R s m args below meth c H locs cells slots Qf ls hC hR hS hl hc hs hE)
theorem g_lookup {dflt : Int} {ps : Array (Int × Int)} {len : Nat} {x : Int32} {off : Int} {tgt : Nat} (hd : decode mm.2.1 pc = .ok (.lookupswitch dflt ps, len)) (hq : (ps.toList.zip (ps.toList.drop 1)).all (fun (a, next) => a.1 < next.1) = true) (ho : Op.lookupswitch.offset ps.toList dflt x.toInt = off) (ht : (pc : Int) + off = (tgt : Int)) (kk : Go mm d mcr msr tgt L st h Q) : Go mm d mcr msr pc L (.int x :: st) h Q := by
  intro B0 D ad cid p l e R s m args below meth c H locs cells slots Qf ls hC hR hS hl hc hs hE
  exact lv_lookup hC.1 hC.2.1 hd hq ho ht (kk B0 D ad cid p l e R s m args below meth c H locs cells slots Qf ls hC hR hS hl hc hs hE)
theorem g_iret {v : Int32} {ty : FieldType} (hd : decode mm.2.1 pc = .ok (.ireturn, 1)) (hty : mm.2.2.2 = some ty) (hn : narrow ty (.int v) = .int v) (hq : Q (some (.int v)) h) : Go mm d mcr msr pc L [.int v] h Q := by
  intro B0 D ad cid p l e R s m args below meth c H locs cells slots Qf ls hC hR hS hl hc hs hE
  exact hE (some (.int v)) h cid H locs pc ls cells slots hq hR hS (by omega) (by omega) ⟨hd, ty, hty, hn⟩
theorem g_lret {v : Int64} (hd : decode mm.2.1 pc = .ok (.lreturn, 1)) (hty : mm.2.2.2 = some .long) (hq : Q (some (.long v)) h) : Go mm d mcr msr pc L [.long v] h Q := by
  intro B0 D ad cid p l e R s m args below meth c H locs cells slots Qf ls hC hR hS hl hc hs hE
  exact hE (some (.long v)) h cid H locs pc ls cells slots hq hR hS (by omega) (by omega) ⟨hd, hty⟩
theorem g_vret (hd : decode mm.2.1 pc = .ok (.return_, 1)) (hty : mm.2.2.2 = none) (hq : Q none h) : Go mm d mcr msr pc L [] h Q := by
  intro B0 D ad cid p l e R s m args below meth c H locs cells slots Qf ls hC hR hS hl hc hs hE
  exact hE none h cid H locs pc ls cells slots hq hR hS (by omega) (by omega) ⟨hd, hty⟩
theorem g_aret {k : Nat} {n : String} (hd : decode mm.2.1 pc = .ok (.areturn, 1)) (hty : mm.2.2.2 = some (.object n)) (hq : Q (some (.ref k)) h) : Go mm d mcr msr pc L [.ref k] h Q := by
  intro B0 D ad cid p l e R s m args below meth c H locs cells slots Qf ls hC hR hS hl hc hs hE
  exact hE (some (.ref k)) h cid H locs pc ls cells slots hq hR hS (by omega) (by omega) ⟨hd, n, hty⟩
theorem g_aretN {n : String} (hd : decode mm.2.1 pc = .ok (.areturn, 1)) (hty : mm.2.2.2 = some (.object n)) (hq : Q (some .null) h) : Go mm d mcr msr pc L [.null] h Q := by
  intro B0 D ad cid p l e R s m args below meth c H locs cells slots Qf ls hC hR hS hl hc hs hE
  exact hE (some .null) h cid H locs pc ls cells slots hq hR hS (by omega) (by omega) ⟨hd, n, hty⟩
end GR
