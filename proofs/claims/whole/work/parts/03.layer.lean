/-! THE LAYER: a judgement V over a heap of numbered cells (cell k lies at address B + k), that hides the machine's context. -/
/-- where the law's cells begin, the heap at the law's start, the classes' numbers and slots, the array classes by kind (0 int, 1 boolean), the low rows (address, length, contents): script and static rows -/
abbrev am_G : Type := Nat × Heap × va_G × (Nat → ClassId) × (Nat → Nat × Nat × (Nat → Int32))
abbrev gB (G : am_G) : Nat := G.1
abbrev gH (G : am_G) : Heap := G.2.1
abbrev gD (G : am_G) : va_G := G.2.2.1
abbrev gT (G : am_G) : Nat → ClassId := G.2.2.2.1
abbrev gL (G : am_G) : Nat → Nat × Nat × (Nat → Int32) := G.2.2.2.2
def gA (G : am_G) : Nat → Prop := fun q => gB G ≤ q
/-- a value of the layer, as the machine has it -/
def cV (G : am_G) : Value → Value
  | .ref a => .ref (gB G + a)
  | .retAddr k => .ref (gL G k).1
  | v => v
def cE (G : am_G) : va_E → va_E
  | .inl (k, x) => .inl (gT G k, x)
  | .inr (ci, fs) => .inr (ci, fs.map (cV G))
def gTys (G : am_G) : List (ClassId × FieldType) := [(gT G 0, .int), (gT G 1, .boolean)]
/-- the heap holds the layer's cells, each at its number; below B it is what it was -/
def am_W (G : am_G) (h : List va_E) (H : Heap) : Prop := H.size = gB G + h.length ∧ (∀ q : Nat, q < gB G → H[q]? = (gH G)[q]?) ∧ ∀ (k : Nat) (x : va_E), h[k]? = some x → va_at (gD G) am_cl (gB G + k, cE G x) H
/-- what the tables say, and the low rows -/
def am_K (G : am_G) (U : State) : Prop := va_K (gD G) am_cl (gTys G) U ∧ (∀ k, k < am_low → va_T .int (gL G k).1 (gL G k).2.1 (fun j => .int ((gL G k).2.2 j)) (gA G) U (gH G)) ∧ (∀ z ∈ am_stat, va_Z z.1 z.2.1 z.2.2.1 (.ref (gL G z.2.2.2).1) (gA G) U (gH G)) ∧ ∀ w ∈ am_nst, va_Nw w U
theorem am_Nw_warm {w : Cond} (hw : am_isN w = true) {s U : State} (hW : s.WarmedH U.vm) (h : va_Nw w s) : va_Nw w U := by
  cases w with
  | methodLinkNest a i x h1 => exact h.warmM hW
  | fieldLinkNest a i b n d h1 => exact h.warmF hW
  | _ => cases hw
theorem am_Nw_same {w : Cond} (hw : am_isN w = true) {u U : State} (e : u.vm = U.vm) (h : va_Nw w u) : va_Nw w U := by
  cases w with
  | methodLinkNest a i x h1 => exact h.same rfl e
  | fieldLinkNest a i b n d h1 => exact h.same rfl e
  | _ => cases hw
theorem am_nst_is {w : Cond} (h : w ∈ am_nst) : am_isN w = true := (List.mem_filter.mp h).2
theorem am_K.moved {G : am_G} {u U : State} (hW : u.WarmedH U.vm) (h : am_K G u) : am_K G U := ⟨h.1.moved hW.alike, fun k hk => (h.2.1 k hk).moved hW.alike, fun z hz => (h.2.2.1 z hz).moved hW.alike, fun w hw => am_Nw_warm (am_nst_is hw) hW (h.2.2.2 w hw)⟩
theorem am_K.same {G : am_G} {u U : State} (e : u.vm = U.vm) (h : am_K G u) : am_K G U := by
  have ha : u.vm.Alike U.vm := e ▸ Vm.Alike.refl u.vm
  exact ⟨h.1.moved ha, fun k hk => (h.2.1 k hk).moved ha, fun z hz => (h.2.2.1 z hz).moved ha, fun w hw => am_Nw_same (am_nst_is hw) e (h.2.2.2 w hw)⟩
/-- a method: name, bytes, locals, what it returns -/
abbrev am_Y : Type := MethodName × ByteArray × Nat × Option FieldType
def am_Fix (G : am_G) (Y : am_Y) (p : Program) (s : State) (m : MethodId) (args : Array Value) (meth : Method) (c : Code) : Prop :=
  p.tables.exec = Jvm.exec ∧ c.code = Y.2.1 ∧ c.maxLocals = Y.2.2.1 ∧ meth.sig.returnType = Y.2.2.2 ∧ s.vm.findClass Y.1.cls = some m.cls ∧ meth.locks = false ∧ meth.name = Y.1.name ∧ (∀ w ∈ am_tbl, w.before args s = true) ∧ am_K G s ∧ (∀ q : Nat, q < gB G → s.heap[q]? = (gH G)[q]?) ∧ gB G ≤ s.heap.size
theorem am_Fix.exec {G : am_G} {Y : am_Y} {p s m args meth c} (h : am_Fix G Y p s m args meth c) : p.tables.exec = Jvm.exec := h.1
theorem am_Fix.bytes {G : am_G} {Y : am_Y} {p s m args meth c} (h : am_Fix G Y p s m args meth c) : c.code = Y.2.1 := h.2.1
theorem am_Fix.maxL {G : am_G} {Y : am_Y} {p s m args meth c} (h : am_Fix G Y p s m args meth c) : c.maxLocals = Y.2.2.1 := h.2.2.1
theorem am_Fix.returns {G : am_G} {Y : am_Y} {p s m args meth c} (h : am_Fix G Y p s m args meth c) : meth.sig.returnType = Y.2.2.2 := h.2.2.2.1
theorem am_Fix.own {G : am_G} {Y : am_Y} {p s m args meth c} (h : am_Fix G Y p s m args meth c) : s.vm.findClass Y.1.cls = some m.cls := h.2.2.2.2.1
theorem am_Fix.locks {G : am_G} {Y : am_Y} {p s m args meth c} (h : am_Fix G Y p s m args meth c) : meth.locks = false := h.2.2.2.2.2.1
theorem am_Fix.name {G : am_G} {Y : am_Y} {p s m args meth c} (h : am_Fix G Y p s m args meth c) : meth.name = Y.1.name := h.2.2.2.2.2.2.1
theorem am_Fix.hts {G : am_G} {Y : am_Y} {p s m args meth c} (h : am_Fix G Y p s m args meth c) : ∀ w ∈ am_tbl, w.before args s = true := h.2.2.2.2.2.2.2.1
theorem am_Fix.K {G : am_G} {Y : am_Y} {p s m args meth c} (h : am_Fix G Y p s m args meth c) : am_K G s := h.2.2.2.2.2.2.2.2.1
theorem am_Fix.low {G : am_G} {Y : am_Y} {p s m args meth c} (h : am_Fix G Y p s m args meth c) : ∀ q : Nat, q < gB G → s.heap[q]? = (gH G)[q]? := h.2.2.2.2.2.2.2.2.2.1
theorem am_Fix.big {G : am_G} {Y : am_Y} {p s m args meth c} (h : am_Fix G Y p s m args meth c) : gB G ≤ s.heap.size := h.2.2.2.2.2.2.2.2.2.2
abbrev cL (G : am_G) (ls : List (Nat × Value)) : List (Nat × Value) := ls.map (fun q => (q.1, cV G q.2))
/-- from here, with at most k more cells of n slots, the machine comes to Fin -/
def V (G : am_G) (Y : am_Y) (R : Room) (Fn : Array Value → State → List Frame → State → Prop) (k n pc : Nat) (ls : List (Nat × Value)) (st : List Value) (h : List va_E) : Prop :=
  ∀ (p : Program) (l : Launch) (e : Env) (s : State) (m : MethodId) (args : Array Value) (below : List Frame) (meth : Method) (c : Code) (H : Heap) (locs : List Loc) (cells slots : Nat) (lsr : Array Slot),
    am_Fix G Y p s m args meth c → am_W G h H → va_S (gA G) s.heap H locs → lv_has lsr Y.2.2.1 (cL G ls) → cells + k ≤ R.cells → slots + n ≤ R.slots →
    W p l e R s m args below meth c H locs cells slots (Fn args s below) (F0 m pc lsr (st.map (cV G)))
/-- a method's end -/
def am_Q (G : am_G) (Post : Option Value → List va_E → Prop) : Array Value → State → Outcome → State → Prop := fun _ st o t => ∃ (r : Option Value) (h : List va_E), o = .returned (r.map (cV G)) ∧ Post r h ∧ am_W G h t.heap ∧ am_K G t ∧ st.heap.size ≤ t.heap.size
def am_Fin (G : am_G) (mc ms : Nat) (Post : Option Value → List va_E → Prop) : Array Value → State → List Frame → State → Prop := fun args s below => MQ below (am_Q G Post) args s mc ms (gA G)
def am_R (d lo mc ms : Nat) : Room := { frames := d, cells := mc, slots := ms, locals := lo }
def am_ws (Y : am_Y) : List Cond := Cond.code Y.1 Y.2.1 Y.2.2.1 Y.2.2.2 :: am_tbl
/-- the contract of a method at these arguments and cells -/
def Ct (G : am_G) (Y : am_Y) (d lo mc ms : Nat) (as : List Value) (h : List va_E) (Post : Option Value → List va_E → Prop) : Prop :=
  ∀ l : Launch, Met l Y.1 (am_ws Y) (am_R d lo mc ms) (fun v U => v = (as.map (cV G)).toArray ∧ am_W G h U.heap ∧ am_K G U) (am_Q G Post) mc ms (gA G)
/-- the locals with which a method begins -/
def am_as : Nat → List Value → List (Nat × Value)
  | _, [] => []
  | i, v :: vs => (i, v) :: am_as (i + 1) vs
def am_ins (i : Nat) (v : Value) : List (Nat × Value) → List (Nat × Value)
  | [] => [(i, v)]
  | q :: t => if i < q.1 then (i, v) :: q :: t else q :: am_ins i v t
def am_st (i : Nat) (v : Value) (ls : List (Nat × Value)) : List (Nat × Value) := am_ins i v (ls.filter (fun q => !(q.1 == i) && !(q.1 + 1 == i && q.2.category == 2)))
theorem cV_cat (G : am_G) (v : Value) : (cV G v).category = v.category := by cases v <;> rfl
theorem am_ins_mem {i : Nat} {v : Value} : ∀ {ls : List (Nat × Value)} {q : Nat × Value}, q ∈ am_ins i v ls → q = (i, v) ∨ q ∈ ls
  | [], q, h => by simpa [am_ins] using h
  | a :: t, q, h => by
    unfold am_ins at h
    split at h
    · rcases List.mem_cons.mp h with h | h
      · exact Or.inl h
      · exact Or.inr h
    · rcases List.mem_cons.mp h with h | h
      · exact Or.inr (by rw [h]; exact List.mem_cons_self)
      · rcases am_ins_mem h with h | h
        · exact Or.inl h
        · exact Or.inr (List.mem_cons_of_mem _ h)
theorem am_store {G : am_G} {lsr : Array Slot} {nL i : Nat} {v : Value} {ls ls' : List (Nat × Value)} (h : lv_has lsr nL ((i, cV G v) :: (cL G ls).filter (fun q => !(q.1 == i) && !(q.1 + 1 == i && q.2.category == 2)))) (e : am_st i v ls = ls') : lv_has lsr nL (cL G ls') := by
  refine ⟨h.1, h.2.1, fun q hq => ?_⟩
  subst e
  obtain ⟨z, hz, rfl⟩ := List.mem_map.mp hq
  rcases am_ins_mem hz with hz | hz
  · subst hz
    exact h.2.2 (i, cV G v) List.mem_cons_self
  · obtain ⟨h1, h2⟩ := List.mem_filter.mp hz
    refine h.2.2 (z.1, cV G z.2) (List.mem_cons_of_mem _ (List.mem_filter.mpr ⟨List.mem_map.mpr ⟨z, h1, rfl⟩, ?_⟩))
    simpa [cV_cat] using h2
theorem am_has {G : am_G} {lsr : Array Slot} {nL : Nat} {ls : List (Nat × Value)} (h : lv_has lsr nL (cL G ls)) (j : Nat) {i : Nat} {v : Value} (hj : ls[j]? = some (i, v)) : lsr[i]? = some (.val (cV G v)) :=
  h.2.2 (i, cV G v) (List.mem_map.mpr ⟨(i, v), List.mem_of_getElem? hj, rfl⟩)
/-- the cells as the kit's world -/
def cW (G : am_G) (h : List va_E) : va_W := h.mapIdx (fun i x => (gB G + i, cE G x))
theorem cW_get {G : am_G} {h : List va_E} {k : Nat} {x : va_E} (e : h[k]? = some x) : (cW G h)[k]? = some (gB G + k, cE G x) := by simp [cW, e]
theorem am_W.P {G : am_G} {h : List va_E} {H : Heap} (w : am_W G h H) : va_P (gD G) am_cl (cW G h) H := by
  intro k q hq
  simp only [cW, List.getElem?_mapIdx] at hq
  cases e : h[k]? with
  | none => rw [e] at hq; cases hq
  | some x => rw [e] at hq; cases hq; exact w.2.2 k x e
theorem am_W.D {G : am_G} {h : List va_E} : va_D (gA G) (cW G h) := by
  refine ⟨fun i j x y hx hy hxy => ?_, fun k q hq => ?_⟩
  · simp only [cW, List.getElem?_mapIdx] at hx hy
    cases e : h[i]? with
    | none => rw [e] at hx; cases hx
    | some a =>
      cases e2 : h[j]? with
      | none => rw [e2] at hy; cases hy
      | some b =>
        rw [e] at hx; rw [e2] at hy
        cases hx; cases hy
        dsimp only at hxy
        omega
  · simp only [cW, List.getElem?_mapIdx] at hq
    cases e : h[k]? with
    | none => rw [e] at hq; cases hq
    | some a => rw [e] at hq; cases hq; exact Nat.le_add_right _ _
/-- a cell is written -/
theorem am_W.set {G : am_G} {h : List va_E} {H H1 : Heap} {k : Nat} {x0 x : va_E} (w : am_W G h H) (e : h[k]? = some x0) (he : va_at (gD G) am_cl (gB G + k, cE G x) H1) (hz : H1.size = H.size) (oq : ∀ q : Nat, q ≠ gB G + k → H1[q]? = H[q]?) : am_W G (h.set k x) H1 := by
  have hl : k < h.length := (List.getElem?_eq_some_iff.mp e).1
  refine ⟨by rw [hz, w.1, List.length_set], fun q hq => by rw [oq q (by omega)]; exact w.2.1 q hq, fun j y hj => ?_⟩
  by_cases hjk : j = k
  · subst hjk
    rw [List.getElem?_set_self hl] at hj
    cases hj
    exact he
  · rw [List.getElem?_set_ne (Ne.symm hjk)] at hj
    exact (w.2.2 j y hj).kept (oq _ (by omega))
/-- a cell is new -/
theorem am_W.push {G : am_G} {h : List va_E} {H H1 : Heap} {x : va_E} (w : am_W G h H) (he : va_at (gD G) am_cl (gB G + h.length, cE G x) H1) (hz : H1.size = H.size + 1) (oq : ∀ q : Nat, q < H.size → H1[q]? = H[q]?) : am_W G (h ++ [x]) H1 := by
  have h1 := w.1
  refine ⟨by rw [hz, w.1, List.length_append]; simp; omega, fun q hq => by rw [oq q (by omega)]; exact w.2.1 q hq, fun j y hj => ?_⟩
  by_cases hjk : j < h.length
  · rw [List.getElem?_append_left hjk] at hj
    exact (w.2.2 j y hj).kept (oq _ (by dsimp only; omega))
  · rw [List.getElem?_append_right (by omega)] at hj
    have hlt : j - h.length < 1 := (List.getElem?_eq_some_iff.mp hj).1
    have hj0 : j = h.length := by omega
    subst hj0
    rw [Nat.sub_self] at hj
    cases hj
    exact he
theorem am_S.put {G : am_G} {s0 H H1 : Heap} {locs : List Loc} {k j : Nat} (h : va_S (gA G) s0 H locs) (z : H1.size = H.size) (oq : ∀ q : Nat, q ≠ gB G + k → H1[q]? = H[q]?) : va_S (gA G) s0 H1 (locs ++ [⟨gB G + k, j⟩]) := h.put z oq (Nat.le_add_right _ _)
theorem V.iadd {G : am_G} {Y : am_Y} {R : Room} {Fn : Array Value → State → List Frame → State → Prop} {k n pc : Nat} {ls : List (Nat × Value)} {st : List Value} {h : List va_E} {x y : Int32} (hd : decode Y.2.1 pc = .ok (.iadd, 1)) (kk : V G Y R Fn k n (pc + 1) ls (.int (x + y) :: st) h) : V G Y R Fn k n pc ls (.int y :: .int x :: st) h := by
  intro p l e s m args below meth c H locs cells slots lsr X w S hl hc hn
  exact lv_iadd X.exec X.bytes hd (kk p l e s m args below meth c H locs cells slots lsr X w S hl hc hn)
theorem V.isub {G : am_G} {Y : am_Y} {R : Room} {Fn : Array Value → State → List Frame → State → Prop} {k n pc : Nat} {ls : List (Nat × Value)} {st : List Value} {h : List va_E} {x y : Int32} (hd : decode Y.2.1 pc = .ok (.isub, 1)) (kk : V G Y R Fn k n (pc + 1) ls (.int (x - y) :: st) h) : V G Y R Fn k n pc ls (.int y :: .int x :: st) h := by
  intro p l e s m args below meth c H locs cells slots lsr X w S hl hc hn
  exact lv_isub X.exec X.bytes hd (kk p l e s m args below meth c H locs cells slots lsr X w S hl hc hn)
theorem V.imul {G : am_G} {Y : am_Y} {R : Room} {Fn : Array Value → State → List Frame → State → Prop} {k n pc : Nat} {ls : List (Nat × Value)} {st : List Value} {h : List va_E} {x y : Int32} (hd : decode Y.2.1 pc = .ok (.imul, 1)) (kk : V G Y R Fn k n (pc + 1) ls (.int (x * y) :: st) h) : V G Y R Fn k n pc ls (.int y :: .int x :: st) h := by
  intro p l e s m args below meth c H locs cells slots lsr X w S hl hc hn
  exact lv_imul X.exec X.bytes hd (kk p l e s m args below meth c H locs cells slots lsr X w S hl hc hn)
theorem V.iand {G : am_G} {Y : am_Y} {R : Room} {Fn : Array Value → State → List Frame → State → Prop} {k n pc : Nat} {ls : List (Nat × Value)} {st : List Value} {h : List va_E} {x y : Int32} (hd : decode Y.2.1 pc = .ok (.iand, 1)) (kk : V G Y R Fn k n (pc + 1) ls (.int (x &&& y) :: st) h) : V G Y R Fn k n pc ls (.int y :: .int x :: st) h := by
  intro p l e s m args below meth c H locs cells slots lsr X w S hl hc hn
  exact lv_iand X.exec X.bytes hd (kk p l e s m args below meth c H locs cells slots lsr X w S hl hc hn)
theorem V.ior {G : am_G} {Y : am_Y} {R : Room} {Fn : Array Value → State → List Frame → State → Prop} {k n pc : Nat} {ls : List (Nat × Value)} {st : List Value} {h : List va_E} {x y : Int32} (hd : decode Y.2.1 pc = .ok (.ior, 1)) (kk : V G Y R Fn k n (pc + 1) ls (.int (x ||| y) :: st) h) : V G Y R Fn k n pc ls (.int y :: .int x :: st) h := by
  intro p l e s m args below meth c H locs cells slots lsr X w S hl hc hn
  exact lv_ior X.exec X.bytes hd (kk p l e s m args below meth c H locs cells slots lsr X w S hl hc hn)
theorem V.ixor {G : am_G} {Y : am_Y} {R : Room} {Fn : Array Value → State → List Frame → State → Prop} {k n pc : Nat} {ls : List (Nat × Value)} {st : List Value} {h : List va_E} {x y : Int32} (hd : decode Y.2.1 pc = .ok (.ixor, 1)) (kk : V G Y R Fn k n (pc + 1) ls (.int (x ^^^ y) :: st) h) : V G Y R Fn k n pc ls (.int y :: .int x :: st) h := by
  intro p l e s m args below meth c H locs cells slots lsr X w S hl hc hn
  exact lv_ixor X.exec X.bytes hd (kk p l e s m args below meth c H locs cells slots lsr X w S hl hc hn)
theorem V.ishl {G : am_G} {Y : am_Y} {R : Room} {Fn : Array Value → State → List Frame → State → Prop} {k n pc : Nat} {ls : List (Nat × Value)} {st : List Value} {h : List va_E} {x y : Int32} (hd : decode Y.2.1 pc = .ok (.ishl, 1)) (kk : V G Y R Fn k n (pc + 1) ls (.int (x <<< (y &&& 31)) :: st) h) : V G Y R Fn k n pc ls (.int y :: .int x :: st) h := by
  intro p l e s m args below meth c H locs cells slots lsr X w S hl hc hn
  exact lv_ishl X.exec X.bytes hd (kk p l e s m args below meth c H locs cells slots lsr X w S hl hc hn)
theorem V.ishr {G : am_G} {Y : am_Y} {R : Room} {Fn : Array Value → State → List Frame → State → Prop} {k n pc : Nat} {ls : List (Nat × Value)} {st : List Value} {h : List va_E} {x y : Int32} (hd : decode Y.2.1 pc = .ok (.ishr, 1)) (kk : V G Y R Fn k n (pc + 1) ls (.int (x >>> (y &&& 31)) :: st) h) : V G Y R Fn k n pc ls (.int y :: .int x :: st) h := by
  intro p l e s m args below meth c H locs cells slots lsr X w S hl hc hn
  exact lv_ishr X.exec X.bytes hd (kk p l e s m args below meth c H locs cells slots lsr X w S hl hc hn)
theorem V.iushr {G : am_G} {Y : am_Y} {R : Room} {Fn : Array Value → State → List Frame → State → Prop} {k n pc : Nat} {ls : List (Nat × Value)} {st : List Value} {h : List va_E} {x y v : Int32} (hd : decode Y.2.1 pc = .ok (.iushr, 1)) (hv : (x.toUInt32 >>> (y.toUInt32 &&& Int32.toUInt32 31)).toInt32 = v) (kk : V G Y R Fn k n (pc + 1) ls (.int v :: st) h) : V G Y R Fn k n pc ls (.int y :: .int x :: st) h := by
  intro p l e s m args below meth c H locs cells slots lsr X w S hl hc hn
  exact lv_iushr X.exec X.bytes hd hv (kk p l e s m args below meth c H locs cells slots lsr X w S hl hc hn)
theorem V.ineg {G : am_G} {Y : am_Y} {R : Room} {Fn : Array Value → State → List Frame → State → Prop} {k n pc : Nat} {ls : List (Nat × Value)} {st : List Value} {h : List va_E} {x : Int32} (hd : decode Y.2.1 pc = .ok (.ineg, 1)) (kk : V G Y R Fn k n (pc + 1) ls (.int (-x) :: st) h) : V G Y R Fn k n pc ls (.int x :: st) h := by
  intro p l e s m args below meth c H locs cells slots lsr X w S hl hc hn
  exact lv_ineg X.exec X.bytes hd (kk p l e s m args below meth c H locs cells slots lsr X w S hl hc hn)
theorem V.idiv {G : am_G} {Y : am_Y} {R : Room} {Fn : Array Value → State → List Frame → State → Prop} {k n pc : Nat} {ls : List (Nat × Value)} {st : List Value} {h : List va_E} {x y : Int32} (hne : ¬ y = 0) (hd : decode Y.2.1 pc = .ok (.idiv, 1)) (kk : V G Y R Fn k n (pc + 1) ls (.int (x / y) :: st) h) : V G Y R Fn k n pc ls (.int y :: .int x :: st) h := by
  intro p l e s m args below meth c H locs cells slots lsr X w S hl hc hn
  exact lv_idiv X.exec X.bytes hd hne (kk p l e s m args below meth c H locs cells slots lsr X w S hl hc hn)
theorem V.irem {G : am_G} {Y : am_Y} {R : Room} {Fn : Array Value → State → List Frame → State → Prop} {k n pc : Nat} {ls : List (Nat × Value)} {st : List Value} {h : List va_E} {x y : Int32} (hne : ¬ y = 0) (hd : decode Y.2.1 pc = .ok (.irem, 1)) (kk : V G Y R Fn k n (pc + 1) ls (.int (x - x / y * y) :: st) h) : V G Y R Fn k n pc ls (.int y :: .int x :: st) h := by
  intro p l e s m args below meth c H locs cells slots lsr X w S hl hc hn
  exact lv_irem X.exec X.bytes hd hne (kk p l e s m args below meth c H locs cells slots lsr X w S hl hc hn)
theorem V.iconst {G : am_G} {Y : am_Y} {R : Room} {Fn : Array Value → State → List Frame → State → Prop} {k n pc : Nat} {ls : List (Nat × Value)} {st : List Value} {h : List va_E} {z : Int} {v : Int32} (hv : Int32.ofInt z = v) (hd : decode Y.2.1 pc = .ok (.iconst z, 1)) (kk : V G Y R Fn k n (pc + 1) ls (.int v :: st) h) : V G Y R Fn k n pc ls st h := by
  intro p l e s m args below meth c H locs cells slots lsr X w S hl hc hn
  exact lv_iconst X.exec X.bytes hd hv (kk p l e s m args below meth c H locs cells slots lsr X w S hl hc hn)
theorem V.bipush {G : am_G} {Y : am_Y} {R : Room} {Fn : Array Value → State → List Frame → State → Prop} {k n pc : Nat} {ls : List (Nat × Value)} {st : List Value} {h : List va_E} {z : Int} {v : Int32} (hv : (Int8.ofInt z).toInt32 = v) (hd : decode Y.2.1 pc = .ok (.bipush z, 2)) (kk : V G Y R Fn k n (pc + 2) ls (.int v :: st) h) : V G Y R Fn k n pc ls st h := by
  intro p l e s m args below meth c H locs cells slots lsr X w S hl hc hn
  exact lv_bipush X.exec X.bytes hd hv (kk p l e s m args below meth c H locs cells slots lsr X w S hl hc hn)
theorem V.sipush {G : am_G} {Y : am_Y} {R : Room} {Fn : Array Value → State → List Frame → State → Prop} {k n pc : Nat} {ls : List (Nat × Value)} {st : List Value} {h : List va_E} {z : Int} {v : Int32} (hv : (Int16.ofInt z).toInt32 = v) (hd : decode Y.2.1 pc = .ok (.sipush z, 3)) (kk : V G Y R Fn k n (pc + 3) ls (.int v :: st) h) : V G Y R Fn k n pc ls st h := by
  intro p l e s m args below meth c H locs cells slots lsr X w S hl hc hn
  exact lv_sipush X.exec X.bytes hd hv (kk p l e s m args below meth c H locs cells slots lsr X w S hl hc hn)
theorem V.iload_n {G : am_G} {Y : am_Y} {R : Room} {Fn : Array Value → State → List Frame → State → Prop} {k n pc : Nat} {ls : List (Nat × Value)} {st : List Value} {h : List va_E} {i : Fin 4} {j : Nat} {x : Int32} (hj : ls[j]? = some (i.val, .int x)) (hd : decode Y.2.1 pc = .ok (.iload_n i, 1)) (kk : V G Y R Fn k n (pc + 1) ls (.int x :: st) h) : V G Y R Fn k n pc ls st h := by
  intro p l e s m args below meth c H locs cells slots lsr X w S hl hc hn
  exact lv_iload_n X.exec X.bytes hd rfl (am_has hl j hj) (kk p l e s m args below meth c H locs cells slots lsr X w S hl hc hn)
theorem V.iload {G : am_G} {Y : am_Y} {R : Room} {Fn : Array Value → State → List Frame → State → Prop} {k n pc : Nat} {ls : List (Nat × Value)} {st : List Value} {h : List va_E} {i : Nat} {j : Nat} {x : Int32} (hj : ls[j]? = some (i, .int x)) (hd : decode Y.2.1 pc = .ok (.iload i, 2)) (kk : V G Y R Fn k n (pc + 2) ls (.int x :: st) h) : V G Y R Fn k n pc ls st h := by
  intro p l e s m args below meth c H locs cells slots lsr X w S hl hc hn
  exact lv_iload X.exec X.bytes hd (am_has hl j hj) (kk p l e s m args below meth c H locs cells slots lsr X w S hl hc hn)
theorem V.aload_n {G : am_G} {Y : am_Y} {R : Room} {Fn : Array Value → State → List Frame → State → Prop} {k n pc : Nat} {ls : List (Nat × Value)} {st : List Value} {h : List va_E} {i : Fin 4} {j : Nat} {x : Nat} (hj : ls[j]? = some (i.val, .ref x)) (hd : decode Y.2.1 pc = .ok (.aload_n i, 1)) (kk : V G Y R Fn k n (pc + 1) ls (.ref x :: st) h) : V G Y R Fn k n pc ls st h := by
  intro p l e s m args below meth c H locs cells slots lsr X w S hl hc hn
  exact lv_aload_n X.exec X.bytes hd rfl (am_has hl j hj) (kk p l e s m args below meth c H locs cells slots lsr X w S hl hc hn)
theorem V.aload {G : am_G} {Y : am_Y} {R : Room} {Fn : Array Value → State → List Frame → State → Prop} {k n pc : Nat} {ls : List (Nat × Value)} {st : List Value} {h : List va_E} {i : Nat} {j : Nat} {x : Nat} (hj : ls[j]? = some (i, .ref x)) (hd : decode Y.2.1 pc = .ok (.aload i, 2)) (kk : V G Y R Fn k n (pc + 2) ls (.ref x :: st) h) : V G Y R Fn k n pc ls st h := by
  intro p l e s m args below meth c H locs cells slots lsr X w S hl hc hn
  exact lv_aload X.exec X.bytes hd (am_has hl j hj) (kk p l e s m args below meth c H locs cells slots lsr X w S hl hc hn)
theorem V.aload_nL {G : am_G} {Y : am_Y} {R : Room} {Fn : Array Value → State → List Frame → State → Prop} {k n pc : Nat} {ls : List (Nat × Value)} {st : List Value} {h : List va_E} {i : Fin 4} {j : Nat} {x : Nat} (hj : ls[j]? = some (i.val, .retAddr x)) (hd : decode Y.2.1 pc = .ok (.aload_n i, 1)) (kk : V G Y R Fn k n (pc + 1) ls (.retAddr x :: st) h) : V G Y R Fn k n pc ls st h := by
  intro p l e s m args below meth c H locs cells slots lsr X w S hl hc hn
  exact lv_aload_n X.exec X.bytes hd rfl (am_has hl j hj) (kk p l e s m args below meth c H locs cells slots lsr X w S hl hc hn)
theorem V.aloadL {G : am_G} {Y : am_Y} {R : Room} {Fn : Array Value → State → List Frame → State → Prop} {k n pc : Nat} {ls : List (Nat × Value)} {st : List Value} {h : List va_E} {i : Nat} {j : Nat} {x : Nat} (hj : ls[j]? = some (i, .retAddr x)) (hd : decode Y.2.1 pc = .ok (.aload i, 2)) (kk : V G Y R Fn k n (pc + 2) ls (.retAddr x :: st) h) : V G Y R Fn k n pc ls st h := by
  intro p l e s m args below meth c H locs cells slots lsr X w S hl hc hn
  exact lv_aload X.exec X.bytes hd (am_has hl j hj) (kk p l e s m args below meth c H locs cells slots lsr X w S hl hc hn)
theorem V.dup {G : am_G} {Y : am_Y} {R : Room} {Fn : Array Value → State → List Frame → State → Prop} {k n pc : Nat} {ls : List (Nat × Value)} {st : List Value} {h : List va_E} {v : Value} (hv : v.category = 1) (hd : decode Y.2.1 pc = .ok (.dup, 1)) (kk : V G Y R Fn k n (pc + 1) ls (v :: v :: st) h) : V G Y R Fn k n pc ls (v :: st) h := by
  intro p l e s m args below meth c H locs cells slots lsr X w S hl hc hn
  exact lv_dup X.exec X.bytes hd ((cV_cat G v).trans hv) (kk p l e s m args below meth c H locs cells slots lsr X w S hl hc hn)
theorem V.pop {G : am_G} {Y : am_Y} {R : Room} {Fn : Array Value → State → List Frame → State → Prop} {k n pc : Nat} {ls : List (Nat × Value)} {st : List Value} {h : List va_E} {v : Value} (hv : v.category = 1) (hd : decode Y.2.1 pc = .ok (.pop, 1)) (kk : V G Y R Fn k n (pc + 1) ls st h) : V G Y R Fn k n pc ls (v :: st) h := by
  intro p l e s m args below meth c H locs cells slots lsr X w S hl hc hn
  exact lv_pop X.exec X.bytes hd ((cV_cat G v).trans hv) (kk p l e s m args below meth c H locs cells slots lsr X w S hl hc hn)
theorem V.dup_x1 {G : am_G} {Y : am_Y} {R : Room} {Fn : Array Value → State → List Frame → State → Prop} {k n pc : Nat} {ls : List (Nat × Value)} {st : List Value} {h : List va_E} {v u : Value} (hv : v.category = 1) (hu : u.category = 1) (hd : decode Y.2.1 pc = .ok (.dup_x1, 1)) (kk : V G Y R Fn k n (pc + 1) ls (v :: u :: v :: st) h) : V G Y R Fn k n pc ls (v :: u :: st) h := by
  intro p l e s m args below meth c H locs cells slots lsr X w S hl hc hn
  exact lv_dup_x1 X.exec X.bytes hd ((cV_cat G v).trans hv) ((cV_cat G u).trans hu) (kk p l e s m args below meth c H locs cells slots lsr X w S hl hc hn)
theorem V.dup_x2 {G : am_G} {Y : am_Y} {R : Room} {Fn : Array Value → State → List Frame → State → Prop} {k n pc : Nat} {ls : List (Nat × Value)} {st : List Value} {h : List va_E} {v u t : Value} (hv : v.category = 1) (hu : u.category = 1) (ht : t.category = 1) (hd : decode Y.2.1 pc = .ok (.dup_x2, 1)) (kk : V G Y R Fn k n (pc + 1) ls (v :: u :: t :: v :: st) h) : V G Y R Fn k n pc ls (v :: u :: t :: st) h := by
  intro p l e s m args below meth c H locs cells slots lsr X w S hl hc hn
  exact lv_dup_x2 X.exec X.bytes hd ((cV_cat G v).trans hv) ((cV_cat G u).trans hu) ((cV_cat G t).trans ht) (kk p l e s m args below meth c H locs cells slots lsr X w S hl hc hn)
theorem V.dup2 {G : am_G} {Y : am_Y} {R : Room} {Fn : Array Value → State → List Frame → State → Prop} {k n pc : Nat} {ls : List (Nat × Value)} {st : List Value} {h : List va_E} {v u : Value} (hv : v.category = 1) (hu : u.category = 1) (hd : decode Y.2.1 pc = .ok (.dup2, 1)) (kk : V G Y R Fn k n (pc + 1) ls (v :: u :: v :: u :: st) h) : V G Y R Fn k n pc ls (v :: u :: st) h := by
  intro p l e s m args below meth c H locs cells slots lsr X w S hl hc hn
  exact lv_dup2_11 X.exec X.bytes hd ((cV_cat G v).trans hv) ((cV_cat G u).trans hu) (kk p l e s m args below meth c H locs cells slots lsr X w S hl hc hn)
theorem V.istore_n {G : am_G} {Y : am_Y} {R : Room} {Fn : Array Value → State → List Frame → State → Prop} {k n pc : Nat} {ls : List (Nat × Value)} {st : List Value} {h : List va_E} {i : Fin 4} {x : Int32} {ls' : List (Nat × Value)} (hd : decode Y.2.1 pc = .ok (.istore_n i, 1)) (hi : i.val < Y.2.2.1) (hls : am_st i.val (.int x) ls = ls') (kk : V G Y R Fn k n (pc + 1) ls' st h) : V G Y R Fn k n pc ls (.int x :: st) h := by
  intro p l e s m args below meth c H locs cells slots lsr X w S hl hc hn
  exact lv_istore_n X.exec X.bytes hd rfl hl hi rfl (fun lsr' hl' => kk p l e s m args below meth c H locs cells slots lsr' X w S (am_store (v := .int x) hl' hls) hc hn)
theorem V.istore {G : am_G} {Y : am_Y} {R : Room} {Fn : Array Value → State → List Frame → State → Prop} {k n pc : Nat} {ls : List (Nat × Value)} {st : List Value} {h : List va_E} {i : Nat} {x : Int32} {ls' : List (Nat × Value)} (hd : decode Y.2.1 pc = .ok (.istore i, 2)) (hi : i < Y.2.2.1) (hls : am_st i (.int x) ls = ls') (kk : V G Y R Fn k n (pc + 2) ls' st h) : V G Y R Fn k n pc ls (.int x :: st) h := by
  intro p l e s m args below meth c H locs cells slots lsr X w S hl hc hn
  exact lv_istore X.exec X.bytes hd hl hi rfl (fun lsr' hl' => kk p l e s m args below meth c H locs cells slots lsr' X w S (am_store (v := .int x) hl' hls) hc hn)
theorem V.astore_n {G : am_G} {Y : am_Y} {R : Room} {Fn : Array Value → State → List Frame → State → Prop} {k n pc : Nat} {ls : List (Nat × Value)} {st : List Value} {h : List va_E} {i : Fin 4} {x : Nat} {ls' : List (Nat × Value)} (hd : decode Y.2.1 pc = .ok (.astore_n i, 1)) (hi : i.val < Y.2.2.1) (hls : am_st i.val (.ref x) ls = ls') (kk : V G Y R Fn k n (pc + 1) ls' st h) : V G Y R Fn k n pc ls (.ref x :: st) h := by
  intro p l e s m args below meth c H locs cells slots lsr X w S hl hc hn
  exact lv_astore_n X.exec X.bytes hd rfl hl hi rfl (fun lsr' hl' => kk p l e s m args below meth c H locs cells slots lsr' X w S (am_store (v := .ref x) hl' hls) hc hn)
theorem V.astore {G : am_G} {Y : am_Y} {R : Room} {Fn : Array Value → State → List Frame → State → Prop} {k n pc : Nat} {ls : List (Nat × Value)} {st : List Value} {h : List va_E} {i : Nat} {x : Nat} {ls' : List (Nat × Value)} (hd : decode Y.2.1 pc = .ok (.astore i, 2)) (hi : i < Y.2.2.1) (hls : am_st i (.ref x) ls = ls') (kk : V G Y R Fn k n (pc + 2) ls' st h) : V G Y R Fn k n pc ls (.ref x :: st) h := by
  intro p l e s m args below meth c H locs cells slots lsr X w S hl hc hn
  exact lv_astore X.exec X.bytes hd hl hi rfl (fun lsr' hl' => kk p l e s m args below meth c H locs cells slots lsr' X w S (am_store (v := .ref x) hl' hls) hc hn)
theorem V.astore_nL {G : am_G} {Y : am_Y} {R : Room} {Fn : Array Value → State → List Frame → State → Prop} {k n pc : Nat} {ls : List (Nat × Value)} {st : List Value} {h : List va_E} {i : Fin 4} {x : Nat} {ls' : List (Nat × Value)} (hd : decode Y.2.1 pc = .ok (.astore_n i, 1)) (hi : i.val < Y.2.2.1) (hls : am_st i.val (.retAddr x) ls = ls') (kk : V G Y R Fn k n (pc + 1) ls' st h) : V G Y R Fn k n pc ls (.retAddr x :: st) h := by
  intro p l e s m args below meth c H locs cells slots lsr X w S hl hc hn
  exact lv_astore_n X.exec X.bytes hd rfl hl hi rfl (fun lsr' hl' => kk p l e s m args below meth c H locs cells slots lsr' X w S (am_store (v := .retAddr x) hl' hls) hc hn)
theorem V.astoreL {G : am_G} {Y : am_Y} {R : Room} {Fn : Array Value → State → List Frame → State → Prop} {k n pc : Nat} {ls : List (Nat × Value)} {st : List Value} {h : List va_E} {i : Nat} {x : Nat} {ls' : List (Nat × Value)} (hd : decode Y.2.1 pc = .ok (.astore i, 2)) (hi : i < Y.2.2.1) (hls : am_st i (.retAddr x) ls = ls') (kk : V G Y R Fn k n (pc + 2) ls' st h) : V G Y R Fn k n pc ls (.retAddr x :: st) h := by
  intro p l e s m args below meth c H locs cells slots lsr X w S hl hc hn
  exact lv_astore X.exec X.bytes hd hl hi rfl (fun lsr' hl' => kk p l e s m args below meth c H locs cells slots lsr' X w S (am_store (v := .retAddr x) hl' hls) hc hn)
theorem V.iinc {G : am_G} {Y : am_Y} {R : Room} {Fn : Array Value → State → List Frame → State → Prop} {k n pc : Nat} {ls : List (Nat × Value)} {st : List Value} {h : List va_E} {i j : Nat} {z : Int} {x v : Int32} {ls' : List (Nat × Value)} (hd : decode Y.2.1 pc = .ok (.iinc i z, 3)) (hj : ls[j]? = some (i, .int x)) (hv : x + Int32.ofInt z = v) (hi : i < Y.2.2.1) (hls : am_st i (.int v) ls = ls') (kk : V G Y R Fn k n (pc + 3) ls' st h) : V G Y R Fn k n pc ls st h := by
  intro p l e s m args below meth c H locs cells slots lsr X w S hl hc hn
  exact lv_iinc (k := j) X.exec X.bytes hd hl (by simp [hj]; rfl) hv hi rfl (fun lsr' hl' => kk p l e s m args below meth c H locs cells slots lsr' X w S (am_store (v := .int v) hl' hls) hc hn)
theorem V.goto {G : am_G} {Y : am_Y} {R : Room} {Fn : Array Value → State → List Frame → State → Prop} {k n pc : Nat} {ls : List (Nat × Value)} {st : List Value} {h : List va_E} {off : Int} {tgt : Nat} (hd : decode Y.2.1 pc = .ok (.goto off, 3)) (ht : (pc : Int) + off = (tgt : Int)) (kk : V G Y R Fn k n tgt ls st h) : V G Y R Fn k n pc ls st h := by
  intro p l e s m args below meth c H locs cells slots lsr X w S hl hc hn
  exact lv_goto X.exec X.bytes hd ht (kk p l e s m args below meth c H locs cells slots lsr X w S hl hc hn)
theorem V.if_eq {G : am_G} {Y : am_Y} {R : Room} {Fn : Array Value → State → List Frame → State → Prop} {k n pc : Nat} {ls : List (Nat × Value)} {st : List Value} {h : List va_E} {x : Int32} {off : Int} {tgt : Nat} (hd : decode Y.2.1 pc = .ok (.ifCond .eq off, 3)) (ht : (pc : Int) + off = (tgt : Int)) (kt : x = 0 → V G Y R Fn k n tgt ls st h) (kf : ¬ x = 0 → V G Y R Fn k n (pc + 3) ls st h) : V G Y R Fn k n pc ls (.int x :: st) h := by
  intro p l e s m args below meth c H locs cells slots lsr X w S hl hc hn
  exact lv_if_eq X.exec X.bytes hd ht (fun z => kt z p l e s m args below meth c H locs cells slots lsr X w S hl hc hn) (fun z => kf z p l e s m args below meth c H locs cells slots lsr X w S hl hc hn)
theorem V.icmp_eq {G : am_G} {Y : am_Y} {R : Room} {Fn : Array Value → State → List Frame → State → Prop} {k n pc : Nat} {ls : List (Nat × Value)} {st : List Value} {h : List va_E} {x y : Int32} {off : Int} {tgt : Nat} (hd : decode Y.2.1 pc = .ok (.if_icmp .eq off, 3)) (ht : (pc : Int) + off = (tgt : Int)) (kt : x = y → V G Y R Fn k n tgt ls st h) (kf : ¬ x = y → V G Y R Fn k n (pc + 3) ls st h) : V G Y R Fn k n pc ls (.int y :: .int x :: st) h := by
  intro p l e s m args below meth c H locs cells slots lsr X w S hl hc hn
  exact lv_icmp_eq X.exec X.bytes hd ht (fun z => kt z p l e s m args below meth c H locs cells slots lsr X w S hl hc hn) (fun z => kf z p l e s m args below meth c H locs cells slots lsr X w S hl hc hn)
theorem V.if_ne {G : am_G} {Y : am_Y} {R : Room} {Fn : Array Value → State → List Frame → State → Prop} {k n pc : Nat} {ls : List (Nat × Value)} {st : List Value} {h : List va_E} {x : Int32} {off : Int} {tgt : Nat} (hd : decode Y.2.1 pc = .ok (.ifCond .ne off, 3)) (ht : (pc : Int) + off = (tgt : Int)) (kt : ¬ x = 0 → V G Y R Fn k n tgt ls st h) (kf : x = 0 → V G Y R Fn k n (pc + 3) ls st h) : V G Y R Fn k n pc ls (.int x :: st) h := by
  intro p l e s m args below meth c H locs cells slots lsr X w S hl hc hn
  exact lv_if_ne X.exec X.bytes hd ht (fun z => kt z p l e s m args below meth c H locs cells slots lsr X w S hl hc hn) (fun z => kf z p l e s m args below meth c H locs cells slots lsr X w S hl hc hn)
theorem V.icmp_ne {G : am_G} {Y : am_Y} {R : Room} {Fn : Array Value → State → List Frame → State → Prop} {k n pc : Nat} {ls : List (Nat × Value)} {st : List Value} {h : List va_E} {x y : Int32} {off : Int} {tgt : Nat} (hd : decode Y.2.1 pc = .ok (.if_icmp .ne off, 3)) (ht : (pc : Int) + off = (tgt : Int)) (kt : ¬ x = y → V G Y R Fn k n tgt ls st h) (kf : x = y → V G Y R Fn k n (pc + 3) ls st h) : V G Y R Fn k n pc ls (.int y :: .int x :: st) h := by
  intro p l e s m args below meth c H locs cells slots lsr X w S hl hc hn
  exact lv_icmp_ne X.exec X.bytes hd ht (fun z => kt z p l e s m args below meth c H locs cells slots lsr X w S hl hc hn) (fun z => kf z p l e s m args below meth c H locs cells slots lsr X w S hl hc hn)
theorem V.if_lt {G : am_G} {Y : am_Y} {R : Room} {Fn : Array Value → State → List Frame → State → Prop} {k n pc : Nat} {ls : List (Nat × Value)} {st : List Value} {h : List va_E} {x : Int32} {off : Int} {tgt : Nat} (hd : decode Y.2.1 pc = .ok (.ifCond .lt off, 3)) (ht : (pc : Int) + off = (tgt : Int)) (kt : x < 0 → V G Y R Fn k n tgt ls st h) (kf : ¬ x < 0 → V G Y R Fn k n (pc + 3) ls st h) : V G Y R Fn k n pc ls (.int x :: st) h := by
  intro p l e s m args below meth c H locs cells slots lsr X w S hl hc hn
  exact lv_if_lt X.exec X.bytes hd ht (fun z => kt z p l e s m args below meth c H locs cells slots lsr X w S hl hc hn) (fun z => kf z p l e s m args below meth c H locs cells slots lsr X w S hl hc hn)
theorem V.icmp_lt {G : am_G} {Y : am_Y} {R : Room} {Fn : Array Value → State → List Frame → State → Prop} {k n pc : Nat} {ls : List (Nat × Value)} {st : List Value} {h : List va_E} {x y : Int32} {off : Int} {tgt : Nat} (hd : decode Y.2.1 pc = .ok (.if_icmp .lt off, 3)) (ht : (pc : Int) + off = (tgt : Int)) (kt : x < y → V G Y R Fn k n tgt ls st h) (kf : ¬ x < y → V G Y R Fn k n (pc + 3) ls st h) : V G Y R Fn k n pc ls (.int y :: .int x :: st) h := by
  intro p l e s m args below meth c H locs cells slots lsr X w S hl hc hn
  exact lv_icmp_lt X.exec X.bytes hd ht (fun z => kt z p l e s m args below meth c H locs cells slots lsr X w S hl hc hn) (fun z => kf z p l e s m args below meth c H locs cells slots lsr X w S hl hc hn)
theorem V.if_ge {G : am_G} {Y : am_Y} {R : Room} {Fn : Array Value → State → List Frame → State → Prop} {k n pc : Nat} {ls : List (Nat × Value)} {st : List Value} {h : List va_E} {x : Int32} {off : Int} {tgt : Nat} (hd : decode Y.2.1 pc = .ok (.ifCond .ge off, 3)) (ht : (pc : Int) + off = (tgt : Int)) (kt : 0 ≤ x → V G Y R Fn k n tgt ls st h) (kf : ¬ 0 ≤ x → V G Y R Fn k n (pc + 3) ls st h) : V G Y R Fn k n pc ls (.int x :: st) h := by
  intro p l e s m args below meth c H locs cells slots lsr X w S hl hc hn
  exact lv_if_ge X.exec X.bytes hd ht (fun z => kt z p l e s m args below meth c H locs cells slots lsr X w S hl hc hn) (fun z => kf z p l e s m args below meth c H locs cells slots lsr X w S hl hc hn)
theorem V.icmp_ge {G : am_G} {Y : am_Y} {R : Room} {Fn : Array Value → State → List Frame → State → Prop} {k n pc : Nat} {ls : List (Nat × Value)} {st : List Value} {h : List va_E} {x y : Int32} {off : Int} {tgt : Nat} (hd : decode Y.2.1 pc = .ok (.if_icmp .ge off, 3)) (ht : (pc : Int) + off = (tgt : Int)) (kt : y ≤ x → V G Y R Fn k n tgt ls st h) (kf : ¬ y ≤ x → V G Y R Fn k n (pc + 3) ls st h) : V G Y R Fn k n pc ls (.int y :: .int x :: st) h := by
  intro p l e s m args below meth c H locs cells slots lsr X w S hl hc hn
  exact lv_icmp_ge X.exec X.bytes hd ht (fun z => kt z p l e s m args below meth c H locs cells slots lsr X w S hl hc hn) (fun z => kf z p l e s m args below meth c H locs cells slots lsr X w S hl hc hn)
theorem V.if_gt {G : am_G} {Y : am_Y} {R : Room} {Fn : Array Value → State → List Frame → State → Prop} {k n pc : Nat} {ls : List (Nat × Value)} {st : List Value} {h : List va_E} {x : Int32} {off : Int} {tgt : Nat} (hd : decode Y.2.1 pc = .ok (.ifCond .gt off, 3)) (ht : (pc : Int) + off = (tgt : Int)) (kt : 0 < x → V G Y R Fn k n tgt ls st h) (kf : ¬ 0 < x → V G Y R Fn k n (pc + 3) ls st h) : V G Y R Fn k n pc ls (.int x :: st) h := by
  intro p l e s m args below meth c H locs cells slots lsr X w S hl hc hn
  exact lv_if_gt X.exec X.bytes hd ht (fun z => kt z p l e s m args below meth c H locs cells slots lsr X w S hl hc hn) (fun z => kf z p l e s m args below meth c H locs cells slots lsr X w S hl hc hn)
theorem V.icmp_gt {G : am_G} {Y : am_Y} {R : Room} {Fn : Array Value → State → List Frame → State → Prop} {k n pc : Nat} {ls : List (Nat × Value)} {st : List Value} {h : List va_E} {x y : Int32} {off : Int} {tgt : Nat} (hd : decode Y.2.1 pc = .ok (.if_icmp .gt off, 3)) (ht : (pc : Int) + off = (tgt : Int)) (kt : y < x → V G Y R Fn k n tgt ls st h) (kf : ¬ y < x → V G Y R Fn k n (pc + 3) ls st h) : V G Y R Fn k n pc ls (.int y :: .int x :: st) h := by
  intro p l e s m args below meth c H locs cells slots lsr X w S hl hc hn
  exact lv_icmp_gt X.exec X.bytes hd ht (fun z => kt z p l e s m args below meth c H locs cells slots lsr X w S hl hc hn) (fun z => kf z p l e s m args below meth c H locs cells slots lsr X w S hl hc hn)
theorem V.if_le {G : am_G} {Y : am_Y} {R : Room} {Fn : Array Value → State → List Frame → State → Prop} {k n pc : Nat} {ls : List (Nat × Value)} {st : List Value} {h : List va_E} {x : Int32} {off : Int} {tgt : Nat} (hd : decode Y.2.1 pc = .ok (.ifCond .le off, 3)) (ht : (pc : Int) + off = (tgt : Int)) (kt : x ≤ 0 → V G Y R Fn k n tgt ls st h) (kf : ¬ x ≤ 0 → V G Y R Fn k n (pc + 3) ls st h) : V G Y R Fn k n pc ls (.int x :: st) h := by
  intro p l e s m args below meth c H locs cells slots lsr X w S hl hc hn
  exact lv_if_le X.exec X.bytes hd ht (fun z => kt z p l e s m args below meth c H locs cells slots lsr X w S hl hc hn) (fun z => kf z p l e s m args below meth c H locs cells slots lsr X w S hl hc hn)
theorem V.icmp_le {G : am_G} {Y : am_Y} {R : Room} {Fn : Array Value → State → List Frame → State → Prop} {k n pc : Nat} {ls : List (Nat × Value)} {st : List Value} {h : List va_E} {x y : Int32} {off : Int} {tgt : Nat} (hd : decode Y.2.1 pc = .ok (.if_icmp .le off, 3)) (ht : (pc : Int) + off = (tgt : Int)) (kt : x ≤ y → V G Y R Fn k n tgt ls st h) (kf : ¬ x ≤ y → V G Y R Fn k n (pc + 3) ls st h) : V G Y R Fn k n pc ls (.int y :: .int x :: st) h := by
  intro p l e s m args below meth c H locs cells slots lsr X w S hl hc hn
  exact lv_icmp_le X.exec X.bytes hd ht (fun z => kt z p l e s m args below meth c H locs cells slots lsr X w S hl hc hn) (fun z => kf z p l e s m args below meth c H locs cells slots lsr X w S hl hc hn)
theorem V.tableIn {G : am_G} {Y : am_Y} {R : Room} {Fn : Array Value → State → List Frame → State → Prop} {k n pc : Nat} {ls : List (Nat × Value)} {st : List Value} {h : List va_E} {x : Int32} {dflt lo hi off : Int} {offs : Array Int} {len tgt : Nat} (hd : decode Y.2.1 pc = .ok (.tableswitch dflt lo hi offs, len)) (h1 : ¬ x.toInt < lo) (h2 : ¬ hi < x.toInt) (ho : offs[(x.toInt - lo).toNat]? = some off) (ht : (pc : Int) + off = (tgt : Int)) (kk : V G Y R Fn k n tgt ls st h) : V G Y R Fn k n pc ls (.int x :: st) h := by
  intro p l e s m args below meth c H locs cells slots lsr X w S hl hc hn
  exact lv_tableIn X.exec X.bytes hd h1 h2 ho ht (kk p l e s m args below meth c H locs cells slots lsr X w S hl hc hn)
theorem V.tableOut {G : am_G} {Y : am_Y} {R : Room} {Fn : Array Value → State → List Frame → State → Prop} {k n pc : Nat} {ls : List (Nat × Value)} {st : List Value} {h : List va_E} {x : Int32} {dflt lo hi : Int} {offs : Array Int} {len tgt : Nat} (hd : decode Y.2.1 pc = .ok (.tableswitch dflt lo hi offs, len)) (hz : x.toInt < lo ∨ hi < x.toInt) (ht : (pc : Int) + dflt = (tgt : Int)) (kk : V G Y R Fn k n tgt ls st h) : V G Y R Fn k n pc ls (.int x :: st) h := by
  intro p l e s m args below meth c H locs cells slots lsr X w S hl hc hn
  exact lv_tableOut X.exec X.bytes hd hz ht (kk p l e s m args below meth c H locs cells slots lsr X w S hl hc hn)
theorem V.lookup {G : am_G} {Y : am_Y} {R : Room} {Fn : Array Value → State → List Frame → State → Prop} {k n pc : Nat} {ls : List (Nat × Value)} {st : List Value} {h : List va_E} {x : Int32} {dflt off : Int} {ps : Array (Int × Int)} {len tgt : Nat} (hd : decode Y.2.1 pc = .ok (.lookupswitch dflt ps, len)) (hp : (ps.toList.zip (ps.toList.drop 1)).all (fun (a, next) => a.1 < next.1) = true) (ho : Op.lookupswitch.offset ps.toList dflt x.toInt = off) (ht : (pc : Int) + off = (tgt : Int)) (kk : V G Y R Fn k n tgt ls st h) : V G Y R Fn k n pc ls (.int x :: st) h := by
  intro p l e s m args below meth c H locs cells slots lsr X w S hl hc hn
  exact lv_lookup X.exec X.bytes hd hp ho ht (kk p l e s m args below meth c H locs cells slots lsr X w S hl hc hn)
/-- a field reference: which of ours, which field -/
def am_fd (own : String) (idx ci j : Nat) : Prop := ∃ (C : String) (T : u_T) (N : Nat), am_cl[ci]? = some (C, T, N) ∧ j < N ∧ Cond.fieldLink own idx (T j).1 (T j).2.1 (T j).2.2.1 ∈ am_tbl ∧ ∀ w ∈ u_ws C T N, w ∈ am_tbl
theorem V.get {G : am_G} {Y : am_Y} {R : Room} {Fn : Array Value → State → List Frame → State → Prop} {k n pc : Nat} {ls : List (Nat × Value)} {st : List Value} {h : List va_E} {idx a ci j : Nat} {fs : List Value} {v : Value} (hd : decode Y.2.1 pc = .ok (.getfield idx, 3)) (hf : am_fd Y.1.cls idx ci j) (he : h[a]? = some (.inr (ci, fs))) (hv : fs[j]? = some v) (kk : V G Y R Fn k n (pc + 3) ls (v :: st) h) : V G Y R Fn k n pc ls (.ref a :: st) h := by
  intro p l e s m args below meth c H locs cells slots lsr X w S hl hc hn
  obtain ⟨C, T, N, h1, h2, h3, h4⟩ := hf
  exact va_get (D := gD G) (cl := am_cl) (v := cV G v) (fs := fs.map (cV G)) X.exec X.bytes X.hts h4 X.own X.K.1 w.P a (cW_get he) h1 j h2 (X.hts _ h3) (fun _ z => z) (by simp [hv]) hd (kk p l e s m args below meth c H locs cells slots lsr X w S hl hc hn)
/-- a field that may be written: its types -/
def am_pd (own : String) (idx ci j : Nat) (ty : FieldType) (fin : Bool) (C : String) : Prop := ∃ (T : u_T) (N : Nat) (t0 : Nat → FieldType), am_cl[ci]? = some (C, T, N) ∧ j < N ∧ Cond.fieldLink own idx (T j).1 (T j).2.1 (T j).2.2.1 ∈ am_tbl ∧ (∀ w ∈ u_ws C T N, w ∈ am_tbl) ∧ (∀ k, k < N → parseFieldDescriptor (T k).2.2.1 = some (t0 k)) ∧ (∀ a, a < N → ∀ b, b < N → a ≠ b → (T a).2.1 ≠ (T b).2.1) ∧ t0 j = ty ∧ (T j).2.2.2 = fin ∧ (T j).1 = C
/-- what a value of the layer may be stored as -/
def am_ok (ty : FieldType) (v : Value) : Prop := match v with
  | .int x => narrow ty (.int x) = .int x ∧ fits ty (.int x) = true
  | .ref _ => (∃ C, ty = .object C) ∨ (∃ t, ty = .array t)
  | .null => (∃ C, ty = .object C) ∨ (∃ t, ty = .array t)
  | _ => False
theorem am_ok.use {ty : FieldType} {v : Value} (G : am_G) (o : am_ok ty v) : narrow ty (cV G v) = cV G v ∧ fits ty (cV G v) = true := by
  cases v with
  | int x => exact o
  | ref a => rcases o with ⟨C, rfl⟩ | ⟨t, rfl⟩ <;> exact ⟨rfl, rfl⟩
  | null => rcases o with ⟨C, rfl⟩ | ⟨t, rfl⟩ <;> exact ⟨rfl, rfl⟩
  | long x => exact o.elim
  | float x => exact o.elim
  | double x => exact o.elim
  | retAddr x => exact o.elim
theorem am_set_at {G : am_G} {C : String} {T : u_T} {N ci a j : Nat} {fs : List Value} {v : Value} {H1 : Heap} {cell : Cell} (hc : am_cl[ci]? = some (C, T, N)) (q2 : cell.cls = (gD G).1 ci) (q3 : cell.vm = .none) (q4 : ∀ k, k < N → cell.slots[(gD G).2 ci k]? = some (vp_V (fs.map (cV G)) k)) (hap : ∀ x y, x < N → y < N → x ≠ y → (gD G).2 ci x ≠ (gD G).2 ci y) (hj : j < N) (hl : j < fs.length) (e1 : H1[gB G + a]? = some (cell.setSlot ((gD G).2 ci j) (cV G v))) : va_at (gD G) am_cl (gB G + a, cE G (.inr (ci, fs.set j v))) H1 := by
  refine ⟨_, hc, t_OB.to (V := updV (vp_V (fs.map (cV G))) j (cV G v)) ⟨_, e1, q2, q3, t_set q4 hap hj (cV G v)⟩ (fun x _ => ?_)⟩
  rw [List.map_set]
  exact vp_updV_set (by rw [List.length_map]; exact hl) (cV G v) x
theorem V.put {G : am_G} {Y : am_Y} {R : Room} {Fn : Array Value → State → List Frame → State → Prop} {k n pc : Nat} {ls : List (Nat × Value)} {st : List Value} {h : List va_E} {idx a ci j : Nat} {fs : List Value} {v : Value} {ty : FieldType} {h' : List va_E} {C : String} (hd : decode Y.2.1 pc = .ok (.putfield idx, 3)) (hf : am_pd Y.1.cls idx ci j ty false C) (he : h[a]? = some (.inr (ci, fs))) (hj : j < fs.length) (ho : am_ok ty v) (hh : h.set a (.inr (ci, fs.set j v)) = h') (kk : V G Y R Fn k n (pc + 3) ls st h') : V G Y R Fn k n pc ls (v :: .ref a :: st) h := by
  intro p l e s m args below meth c H locs cells slots lsr X w S hl hc hn
  subst hh
  obtain ⟨T, N, t0, h1, h2, h3, h4, h5, h6, h7, h8, h9⟩ := hf
  have hK := X.K.1
  have hap := va_apart (own := Y.1.cls) X.hts h4 t0 h5 h6 hK h1
  obtain ⟨r, g1, cell, q1, q2, q3, q4⟩ := w.2.2 a _ he
  have hr : r = (C, T, N) := Option.some.inj (g1.symm.trans h1)
  subst hr
  obtain ⟨hS, hfc, kC, hkC, hkind⟩ := hK.1 ci _ h1
  obtain ⟨cf, kf, fi, f, hi, hsl⟩ := hS j h2
  have hlay := X.hts _ (h4 _ (u_in_lay h2))
  unfold u_lay at hlay
  rw [if_neg (by rw [h8]; decide)] at hlay
  have hst := (u_facts hfc hkC (u_lays X.hts h4 h2) hi).1
  have h10 := u_store hfc hkC hkind hlay hi (h7 ▸ h5 j h2) (ho.use G).1 (ho.use G).2
  refine W.putK X.exec X.bytes (f := f) ⟨X.own, X.hts _ h3, ⟨_, _, _, hi⟩, hst⟩ (by rw [q2]; exact h10) q1 q3 (by rw [hsl]; exact k2_hasslot (q4 j h2)) rfl rfl hd fun H' e1 e2 e3 => ?_
  rw [hsl] at e1
  exact kk p l e s m args below meth c H' _ cells slots lsr X (w.set he (am_set_at h1 q2 q3 q4 hap h2 hj e1) e2 e3) (am_S.put S e2 e3) hl hc hn
theorem V.putF {G : am_G} {Y : am_Y} {R : Room} {Fn : Array Value → State → List Frame → State → Prop} {k n pc : Nat} {ls : List (Nat × Value)} {st : List Value} {h : List va_E} {idx a ci j : Nat} {fs : List Value} {v : Value} {ty : FieldType} {h' : List va_E} {C : String} (hd : decode Y.2.1 pc = .ok (.putfield idx, 3)) (hf : am_pd Y.1.cls idx ci j ty true C) (hown : Y.1.cls = C) (hin : Y.1.name = "<init>") (he : h[a]? = some (.inr (ci, fs))) (hj : j < fs.length) (ho : am_ok ty v) (hh : h.set a (.inr (ci, fs.set j v)) = h') (kk : V G Y R Fn k n (pc + 3) ls st h') : V G Y R Fn k n pc ls (v :: .ref a :: st) h := by
  intro p l e s m args below meth c H locs cells slots lsr X w S hl hc hn
  subst hh
  obtain ⟨T, N, t0, h1, h2, h3, h4, h5, h6, h7, h8, h9⟩ := hf
  have hK := X.K.1
  have hap := va_apart (own := Y.1.cls) X.hts h4 t0 h5 h6 hK h1
  obtain ⟨r, g1, cell, q1, q2, q3, q4⟩ := w.2.2 a _ he
  have hr : r = (C, T, N) := Option.some.inj (g1.symm.trans h1)
  subst hr
  obtain ⟨hS, hfc, kC, hkC, hkind⟩ := hK.1 ci _ h1
  obtain ⟨cf, kf, fi, f, hi, hsl⟩ := hS j h2
  have hlay := X.hts _ (h4 _ (u_in_lay h2))
  unfold u_lay at hlay
  rw [if_pos h8] at hlay
  have hst := (u_facts hfc hkC (u_lays X.hts h4 h2) hi).1
  have hcf : m.cls = cf := by
    obtain ⟨_, _, c', _, _, _, -, -, hf', -, -, -, hown2, -⟩ := Cond.laysFinal_spec hlay
    have e1 : c' = cf := by have := hi.symm.trans hf'; simp at this; exact this.1.symm
    rw [h9, ← hown] at hown2
    rw [← e1]; exact Option.some.inj (X.own.symm.trans hown2)
  have h10 := u_fits hfc hkC hkind (Or.inr hlay) hi (h7 ▸ h5 j h2) (ho.use G).1 (ho.use G).2
  refine W.putFinK X.exec X.bytes X.own (X.hts _ h3) hi hst hcf (X.name.trans hin) (by rw [q2]; exact h10) q1 q3 (by rw [hsl]; exact k2_hasslot (q4 j h2)) rfl rfl hd fun H' e1 e2 e3 => ?_
  rw [hsl] at e1
  exact kk p l e s m args below meth c H' _ cells slots lsr X (w.set he (am_set_at h1 q2 q3 q4 hap h2 hj e1) e2 e3) (am_S.put S e2 e3) hl hc hn
theorem V.iald {G : am_G} {Y : am_Y} {R : Room} {Fn : Array Value → State → List Frame → State → Prop} {k n pc : Nat} {ls : List (Nat × Value)} {st : List Value} {h : List va_E} {a N : Nat} {f : Nat → Int32} {i v : Int32} (hd : decode Y.2.1 pc = .ok (.iaload, 1)) (he : h[a]? = some (.inl (0, N, .inl f))) (hi : vp_in i N) (hv : f i.toNatClampNeg = v) (kk : V G Y R Fn k n (pc + 1) ls (.int v :: st) h) : V G Y R Fn k n pc ls (.int i :: .ref a :: st) h := by
  intro p l e s m args below meth c H locs cells slots lsr X w S hl hc hn
  subst hv
  exact va_iald (D := gD G) (cl := am_cl) X.exec X.bytes X.K.1 w.P a 0 (cW_get he) rfl hi hd (kk p l e s m args below meth c H locs cells slots lsr X w S hl hc hn)
theorem V.zald {G : am_G} {Y : am_Y} {R : Room} {Fn : Array Value → State → List Frame → State → Prop} {k n pc : Nat} {ls : List (Nat × Value)} {st : List Value} {h : List va_E} {a N : Nat} {f : Nat → Int32} {i v : Int32} (hd : decode Y.2.1 pc = .ok (.baload, 1)) (he : h[a]? = some (.inl (1, N, .inl f))) (hi : vp_in i N) (hv : f i.toNatClampNeg = v) (kk : V G Y R Fn k n (pc + 1) ls (.int v :: st) h) : V G Y R Fn k n pc ls (.int i :: .ref a :: st) h := by
  intro p l e s m args below meth c H locs cells slots lsr X w S hl hc hn
  subst hv
  exact va_zald (D := gD G) (cl := am_cl) X.exec X.bytes X.K.1 w.P a 1 (cW_get he) rfl hi hd (kk p l e s m args below meth c H locs cells slots lsr X w S hl hc hn)
theorem V.alen {G : am_G} {Y : am_Y} {R : Room} {Fn : Array Value → State → List Frame → State → Prop} {k n pc : Nat} {ls : List (Nat × Value)} {st : List Value} {h : List va_E} {a q : Nat} {x : vp_A} {v : Int32} (hd : decode Y.2.1 pc = .ok (.arraylength, 1)) (he : h[a]? = some (.inl (q, x))) (hq : q < 2) (hv : Int32.ofNat x.1 = v) (kk : V G Y R Fn k n (pc + 1) ls (.int v :: st) h) : V G Y R Fn k n pc ls (.ref a :: st) h := by
  intro p l e s m args below meth c H locs cells slots lsr X w S hl hc hn
  rcases (show q = 0 ∨ q = 1 by omega) with rfl | rfl
  · exact va_alen (D := gD G) (cl := am_cl) X.exec X.bytes X.K.1 w.P a 0 (cW_get he) rfl hv hd (kk p l e s m args below meth c H locs cells slots lsr X w S hl hc hn)
  · exact va_alen (D := gD G) (cl := am_cl) X.exec X.bytes X.K.1 w.P a 1 (cW_get he) rfl hv hd (kk p l e s m args below meth c H locs cells slots lsr X w S hl hc hn)
theorem V.iast {G : am_G} {Y : am_Y} {R : Room} {Fn : Array Value → State → List Frame → State → Prop} {k n pc : Nat} {ls : List (Nat × Value)} {st : List Value} {h : List va_E} {a N : Nat} {f : Nat → Int32} {i x : Int32} {h' : List va_E} (hd : decode Y.2.1 pc = .ok (.iastore, 1)) (he : h[a]? = some (.inl (0, N, .inl f))) (hi : vp_in i N) (hh : h.set a (.inl (0, N, .inl (upd f i.toNatClampNeg x))) = h') (kk : V G Y R Fn k n (pc + 1) ls st h') : V G Y R Fn k n pc ls (.int x :: .int i :: .ref a :: st) h := by
  intro p l e s m args below meth c H locs cells slots lsr X w S hl hc hn
  subst hh
  have hK := X.K.1
  refine W.iast X.exec X.bytes (w.2.2 a _ he) ((hK.2 0 _ rfl).1 N (fun j => .int (f j))) (fun q => by cases q) (by show ¬ (i < 0 ∨ (arrV _ _ _).slots.size ≤ _); rw [arrV_size]; exact hi) rfl rfl hd fun H1 e1 e2 e3 => ?_
  refine kk p l e s m args below meth c H1 _ cells slots lsr X (w.set he ?_ e2 e3) (am_S.put S e2 e3) hl hc hn
  show H1[gB G + a]? = some (arrV (gT G 0) N (fun j => .int (upd f i.toNatClampNeg x j)))
  rw [e1]
  show some ((arrV (gT G 0) N (fun j => .int (f j))).setSlot _ _) = _
  rw [arrV_store]
  congr 2
  funext q
  by_cases hq : q = i.toNatClampNeg
  · subst hq
    simp [updV, upd]
  · simp [updV, upd, hq]
theorem V.zast {G : am_G} {Y : am_Y} {R : Room} {Fn : Array Value → State → List Frame → State → Prop} {k n pc : Nat} {ls : List (Nat × Value)} {st : List Value} {h : List va_E} {a N : Nat} {f : Nat → Int32} {i x : Int32} {h' : List va_E} (hd : decode Y.2.1 pc = .ok (.bastore, 1)) (he : h[a]? = some (.inl (1, N, .inl f))) (hi : vp_in i N) (hx : narrow .boolean (.int x) = .int x) (hh : h.set a (.inl (1, N, .inl (upd f i.toNatClampNeg x))) = h') (kk : V G Y R Fn k n (pc + 1) ls st h') : V G Y R Fn k n pc ls (.int x :: .int i :: .ref a :: st) h := by
  intro p l e s m args below meth c H locs cells slots lsr X w S hl hc hn
  subst hh
  have hK := X.K.1
  refine W.zast X.exec X.bytes (w.2.2 a _ he) ((hK.2 1 _ rfl).1 N (fun j => .int (f j))) (fun q => by cases q) (by show ¬ (i < 0 ∨ (arrV _ _ _).slots.size ≤ _); rw [arrV_size]; exact hi) rfl rfl hd fun H1 e1 e2 e3 => ?_
  refine kk p l e s m args below meth c H1 _ cells slots lsr X (w.set he ?_ e2 e3) (am_S.put S e2 e3) hl hc hn
  show H1[gB G + a]? = some (arrV (gT G 1) N (fun j => .int (upd f i.toNatClampNeg x j)))
  rw [e1, hx]
  show some ((arrV (gT G 1) N (fun j => .int (f j))).setSlot _ _) = _
  rw [arrV_store]
  congr 2
  funext q
  by_cases hq : q = i.toNatClampNeg
  · subst hq
    simp [updV, upd]
  · simp [updV, upd, hq]
theorem V.ildL {G : am_G} {Y : am_Y} {R : Room} {Fn : Array Value → State → List Frame → State → Prop} {k n pc : Nat} {ls : List (Nat × Value)} {st : List Value} {h : List va_E} {a : Nat} {i v : Int32} (hd : decode Y.2.1 pc = .ok (.iaload, 1)) (ha : a < am_low) (hi : vp_in i (gL G a).2.1) (hv : (gL G a).2.2 i.toNatClampNeg = v) (kk : V G Y R Fn k n (pc + 1) ls (.int v :: st) h) : V G Y R Fn k n pc ls (.int i :: .retAddr a :: st) h := by
  intro p l e s m args below meth c H locs cells slots lsr X w S hl hc hn
  have hT := X.K.2.1 a ha
  obtain ⟨cell, h1, h2, h3, h4, h5, h6, h7⟩ := hT
  have hlow : (gL G a).1 < gB G := Nat.not_le.mp h7
  have hT' : va_T .int (gL G a).1 (gL G a).2.1 (fun j => .int ((gL G a).2.2 j)) (gA G) s s.heap := ⟨cell, by rw [X.low _ hlow]; exact h1, h2, h3, h4, h5, h6, h7⟩
  exact va_ti X.exec X.bytes hT' S hi (by rw [hv]; rfl) hd (kk p l e s m args below meth c H locs cells slots lsr X w S hl hc hn)
theorem V.alenL {G : am_G} {Y : am_Y} {R : Room} {Fn : Array Value → State → List Frame → State → Prop} {k n pc : Nat} {ls : List (Nat × Value)} {st : List Value} {h : List va_E} {a : Nat} {v : Int32} (hd : decode Y.2.1 pc = .ok (.arraylength, 1)) (ha : a < am_low) (hv : Int32.ofNat (gL G a).2.1 = v) (kk : V G Y R Fn k n (pc + 1) ls (.int v :: st) h) : V G Y R Fn k n pc ls (.retAddr a :: st) h := by
  intro p l e s m args below meth c H locs cells slots lsr X w S hl hc hn
  have hT := X.K.2.1 a ha
  obtain ⟨cell, h1, h2, h3, h4, h5, h6, h7⟩ := hT
  have hlow : (gL G a).1 < gB G := Nat.not_le.mp h7
  have hT' : va_T .int (gL G a).1 (gL G a).2.1 (fun j => .int ((gL G a).2.2 j)) (gA G) s s.heap := ⟨cell, by rw [X.low _ hlow]; exact h1, h2, h3, h4, h5, h6, h7⟩
  exact va_tlen X.exec X.bytes hT' S hv hd (kk p l e s m args below meth c H locs cells slots lsr X w S hl hc hn)
theorem V.getsL {G : am_G} {Y : am_Y} {R : Room} {Fn : Array Value → State → List Frame → State → Prop} {k n pc : Nat} {ls : List (Nat × Value)} {st : List Value} {h : List va_E} {idx a : Nat} {C f d : String} (hd : decode Y.2.1 pc = .ok (.getstatic idx, 3)) (hz : (C, f, d, a) ∈ am_stat) (hk : Cond.fieldLink Y.1.cls idx C f d ∈ am_tbl) (kk : V G Y R Fn k n (pc + 3) ls (.retAddr a :: st) h) : V G Y R Fn k n pc ls st h := by
  intro p l e s m args below meth c H locs cells slots lsr X w S hl hc hn
  have hZ := X.K.2.2.1 _ hz
  obtain ⟨cf, kf, fi, ff, aa, cell, h1, h2, h3, h4, h5, h6, h7, h8⟩ := hZ
  have hlow : aa < gB G := Nat.not_le.mp h8
  have hZ' : va_Z C f d (.ref (gL G a).1) (gA G) s s.heap := ⟨cf, kf, fi, ff, aa, cell, h1, h2, h3, h4, by rw [X.low _ hlow]; exact h5, h6, h7, h8⟩
  exact va_gets X.exec X.bytes hZ' S X.own (X.hts _ hk) (fun _ z => z) hd (kk p l e s m args below meth c H locs cells slots lsr X w S hl hc hn)
theorem V.getsN {G : am_G} {Y : am_Y} {R : Room} {Fn : Array Value → State → List Frame → State → Prop} {k n pc : Nat} {ls : List (Nat × Value)} {st : List Value} {h : List va_E} {idx a : Nat} {C f d host : String} (hd : decode Y.2.1 pc = .ok (.getstatic idx, 3)) (hz : (C, f, d, a) ∈ am_stat) (hk : Cond.fieldLinkNest Y.1.cls idx C f d host ∈ am_nst) (kk : V G Y R Fn k n (pc + 3) ls (.retAddr a :: st) h) : V G Y R Fn k n pc ls st h := by
  intro p l e s m args below meth c H locs cells slots lsr X w S hl hc hn
  have hZ := X.K.2.2.1 _ hz
  obtain ⟨cf, kf, fi, ff, aa, cell, h1, h2, h3, h4, h5, h6, h7, h8⟩ := hZ
  have hlow : aa < gB G := Nat.not_le.mp h8
  have hZ' : va_Z C f d (.ref (gL G a).1) (gA G) s s.heap := ⟨cf, kf, fi, ff, aa, cell, h1, h2, h3, h4, by rw [X.low _ hlow]; exact h5, h6, h7, h8⟩
  exact va_getsN X.exec X.bytes hZ' S X.own (va_Nw.use rfl (X.K.2.2.2 _ hk)) (fun _ z => z) hd (kk p l e s m args below meth c H locs cells slots lsr X w S hl hc hn)
