/-- the cells: those of the component, then those of the reference, in the order in which the constructors make them -/
def am_shp : List ((Nat × List (Option Nat)) ⊕ (Nat × Nat)) := [.inl (7, [some 1, some 12, some 15, some 21, some 23, some 25, some 30, some 35, some 36, some 41, some 46, none]), .inl (5, [some 2, some 3, some 4, some 9, some 10, some 11, none]), .inr (0, 24), .inr (0, 2), .inl (3, [some 5, some 6, some 7, some 8, none]), .inr (0, 60), .inr (0, 60), .inr (0, 60), .inr (0, 60), .inr (0, 60), .inr (0, 60), .inr (0, 60), .inl (1, [some 13, some 14]), .inr (0, 60), .inr (0, 24), .inl (2, [some 16, some 17, some 18, some 19, some 20]), .inr (0, 2), .inr (0, 24), .inr (0, 24), .inr (0, 24), .inr (0, 24), .inl (0, [some 22]), .inr (0, 61), .inl (6, [some 24]), .inr (1, 241), .inl (3, [some 26, some 27, some 28, some 29, none]), .inr (0, 240), .inr (0, 240), .inr (0, 240), .inr (0, 240), .inl (3, [some 31, some 32, some 33, some 34, none]), .inr (0, 240), .inr (0, 240), .inr (0, 240), .inr (0, 240), .inr (0, 64), .inl (4, [some 37, some 38, some 39, some 40, none, none]), .inr (0, 32), .inr (0, 48), .inr (0, 64), .inr (0, 50), .inl (4, [some 42, some 43, some 44, some 45, none, none]), .inr (0, 32), .inr (0, 48), .inr (0, 64), .inr (0, 50), .inl (4, [some 47, some 48, some 49, some 50, none, none]), .inr (0, 32), .inr (0, 48), .inr (0, 64), .inr (0, 50), .inl (8, [none, some 52, none, some 53, some 54, some 55, some 56, some 57, some 58, some 59, some 60, some 61, some 62, some 63, some 64, some 65, some 66, some 67, none, none, some 68, some 69, some 70, some 71, some 72, none, some 73, some 74]), .inr (0, 24), .inr (0, 60), .inr (0, 60), .inr (0, 60), .inr (0, 60), .inr (0, 2), .inr (0, 64), .inr (0, 60), .inr (0, 60), .inr (0, 24), .inr (0, 24), .inr (0, 24), .inr (0, 24), .inr (0, 3200), .inr (0, 2), .inr (0, 62), .inr (0, 50), .inr (0, 64), .inr (0, 32), .inr (0, 64), .inr (0, 24), .inr (0, 2), .inr (0, 2)]
abbrev mM : Nat := 51
abbrev m_classes : Nat := 52
abbrev m_ops : Nat := 53
abbrev m_first : Nat := 54
abbrev m_second : Nat := 55
abbrev m_third : Nat := 56
abbrev m_registers : Nat := 57
abbrev m_memory : Nat := 58
abbrev m_before : Nat := 59
abbrev m_behind : Nat := 60
abbrev m_way : Nat := 61
abbrev m_weights : Nat := 62
abbrev m_order : Nat := 63
abbrev m_homes : Nat := 64
abbrev m_code : Nat := 65
abbrev m_items : Nat := 66
abbrev m_firstItem : Nat := 67
abbrev m_said : Nat := 68
abbrev m_left : Nat := 69
abbrev m_held : Nat := 70
abbrev m_slots : Nat := 71
abbrev m_now : Nat := 72
abbrev m_fetches : Nat := 73
abbrev m_into : Nat := 74
abbrev m_ds : List (Option Nat) := [none, some 52, none, some 53, some 54, some 55, some 56, some 57, some 58, some 59, some 60, some 61, some 62, some 63, some 64, some 65, some 66, some 67, none, none, some 68, some 69, some 70, some 71, some 72, none, some 73, some 74]
/-! THE SHAPE: behind the two constructors no cell is made any more; a heap is then what its whole numbers are: I (object, field) and A (row, place). -/
abbrev am_C : Type := (Nat × List (Option Nat)) ⊕ (Nat × Nat)
def am_flds (f : Nat → Int32) : Nat → List (Option Nat) → List Value
  | _, [] => []
  | k, none :: t => .int (f k) :: am_flds f (k + 1) t
  | k, some q :: t => .ref q :: am_flds f (k + 1) t
def am_cell (I A : Nat → Nat → Int32) (a : Nat) (c : am_C) : va_E := match c with
  | .inl o => .inr (o.1, am_flds (I a) 0 o.2)
  | .inr r => .inl (r.1, r.2, .inl (A a))
def hp (I A : Nat → Nat → Int32) : List va_E := am_shp.mapIdx (fun a c => am_cell I A a c)
def upA (A : Nat → Nat → Int32) (a : Nat) (g : Nat → Int32) : Nat → Nat → Int32 := fun b => if b = a then g else A b
def upI (I : Nat → Nat → Int32) (a j : Nat) (v : Int32) : Nat → Nat → Int32 := fun b k => if b = a ∧ k = j then v else I b k
theorem upA_s {A : Nat → Nat → Int32} {a : Nat} {g : Nat → Int32} : upA A a g a = g := by simp [upA]
theorem upA_n {A : Nat → Nat → Int32} {a b : Nat} {g : Nat → Int32} (h : b ≠ a) : upA A a g b = A b := by simp [upA, h]
theorem upA_u {A : Nat → Nat → Int32} {a : Nat} {f g : Nat → Int32} : upA (upA A a f) a g = upA A a g := by
  funext b
  by_cases h : b = a <;> simp [upA, h]
theorem upA_c {A : Nat → Nat → Int32} {a b : Nat} {f g : Nat → Int32} (h : a ≠ b) : upA (upA A a f) b g = upA (upA A b g) a f := by
  funext c
  by_cases h1 : c = a
  · subst h1; simp [upA, h]
  · by_cases h2 : c = b
    · subst h2; simp [upA, h1]
    · simp [upA, h1, h2]
theorem upA_r2 {A : Nat → Nat → Int32} {a b : Nat} {f g x : Nat → Int32} (h : a ≠ b) : upA (upA (upA A a f) b x) a g = upA (upA A a g) b x := by
  rw [upA_c (Ne.symm h), upA_u]
theorem upA_r3 {A : Nat → Nat → Int32} {a b c : Nat} {f g x y : Nat → Int32} (h : a ≠ b) (h2 : a ≠ c) : upA (upA (upA (upA A a f) b x) c y) a g = upA (upA (upA A a g) b x) c y := by
  rw [upA_c (Ne.symm h2), upA_r2 h]
theorem upA_r4 {A : Nat → Nat → Int32} {a b c d : Nat} {f g x y z : Nat → Int32} (h : a ≠ b) (h2 : a ≠ c) (h3 : a ≠ d) : upA (upA (upA (upA (upA A a f) b x) c y) d z) a g = upA (upA (upA (upA A a g) b x) c y) d z := by
  rw [upA_c (Ne.symm h3), upA_r3 h h2]
theorem upA_i {A : Nat → Nat → Int32} {a : Nat} : upA A a (A a) = A := by
  funext b
  by_cases h : b = a
  · subst h; simp [upA]
  · simp [upA, h]
theorem upI_s {I : Nat → Nat → Int32} {a j : Nat} {v : Int32} : upI I a j v a j = v := by simp [upI]
theorem upI_n {I : Nat → Nat → Int32} {a j b k : Nat} {v : Int32} (h : b ≠ a ∨ k ≠ j) : upI I a j v b k = I b k := by
  unfold upI
  rw [if_neg]
  intro z
  rcases h with h | h
  · exact h z.1
  · exact h z.2
theorem upI_u {I : Nat → Nat → Int32} {a j : Nat} {v u : Int32} : upI (upI I a j v) a j u = upI I a j u := by
  funext b k
  by_cases h : b = a ∧ k = j <;> simp [upI, h]
theorem upI_i {I : Nat → Nat → Int32} {a j : Nat} : upI I a j (I a j) = I := by
  funext b k
  by_cases h : b = a ∧ k = j
  · obtain ⟨rfl, rfl⟩ := h; simp [upI]
  · simp [upI, h]
theorem am_flds_len (f : Nat → Int32) : ∀ (ds : List (Option Nat)) (k : Nat), (am_flds f k ds).length = ds.length
  | [], _ => rfl
  | none :: t, k => by simp [am_flds, am_flds_len f t (k + 1)]
  | some q :: t, k => by simp [am_flds, am_flds_len f t (k + 1)]
theorem am_flds_i (f : Nat → Int32) : ∀ (ds : List (Option Nat)) (k j : Nat), ds[j]? = some none → (am_flds f k ds)[j]? = some (.int (f (k + j)))
  | [], _, _, h => by simp at h
  | d :: t, k, 0, h => by
    simp at h
    subst h
    simp [am_flds]
  | d :: t, k, j + 1, h => by
    have h1 := am_flds_i f t (k + 1) j (by simpa using h)
    cases d <;> simp [am_flds, h1] <;> congr 1 <;> omega
theorem am_flds_r (f : Nat → Int32) : ∀ (ds : List (Option Nat)) (k j : Nat) (q : Nat), ds[j]? = some (some q) → (am_flds f k ds)[j]? = some (.ref q)
  | [], _, _, _, h => by simp at h
  | d :: t, k, 0, q, h => by
    simp at h
    subst h
    simp [am_flds]
  | d :: t, k, j + 1, q, h => by
    have h1 := am_flds_r f t (k + 1) j q (by simpa using h)
    cases d <;> simp [am_flds, h1]
theorem am_flds_set (f : Nat → Int32) (v : Int32) : ∀ (ds : List (Option Nat)) (k j : Nat), ds[j]? = some none → (am_flds f k ds).set j (.int v) = am_flds (fun x => if x = k + j then v else f x) k ds
  | [], _, _, h => by simp at h
  | d :: t, k, 0, h => by
    simp at h
    subst h
    have key : ∀ (l : List (Option Nat)) (m : Nat), k < m → am_flds f m l = am_flds (fun x => if x = k + 0 then v else f x) m l := by
      intro l
      induction l with
      | nil => intro m _; rfl
      | cons d l ih =>
        intro m hm
        cases d with
        | none => simp only [am_flds]; rw [ih (m + 1) (by omega)]; congr 2; rw [if_neg (by omega)]
        | some q => simp only [am_flds]; rw [ih (m + 1) (by omega)]
    simp only [am_flds, List.set_cons_zero]
    rw [key t (k + 1) (by omega)]
    simp
  | d :: t, k, j + 1, h => by
    have h1 := am_flds_set f v t (k + 1) j (by simpa using h)
    have e : (fun x => if x = k + 1 + j then v else f x) = (fun x => if x = k + (j + 1) then v else f x) := by
      funext x
      rw [show k + 1 + j = k + (j + 1) by omega]
    rw [e] at h1
    cases d with
    | none => simp only [am_flds, List.set_cons_succ]; rw [h1]; congr 2; rw [if_neg (by omega)]
    | some q => simp only [am_flds, List.set_cons_succ]; rw [h1]
theorem hp_get {I A : Nat → Nat → Int32} {a : Nat} {c : am_C} (h : am_shp[a]? = some c) : (hp I A)[a]? = some (am_cell I A a c) := by simp [hp, h]
theorem hp_setA {I A : Nat → Nat → Int32} {a q N : Nat} {g : Nat → Int32} (h : am_shp[a]? = some (.inr (q, N))) : (hp I A).set a (.inl (q, N, .inl g)) = hp I (upA A a g) := by
  apply List.ext_getElem?
  intro b
  by_cases hb : b = a
  · subst hb
    have hl : b < (hp I A).length := (List.getElem?_eq_some_iff.mp (hp_get h)).1
    rw [List.getElem?_set_self hl, hp_get h]
    simp [am_cell, upA]
  · rw [List.getElem?_set_ne (Ne.symm hb)]
    simp only [hp, List.getElem?_mapIdx]
    cases am_shp[b]? with
    | none => rfl
    | some c => cases c with
      | inl o => rfl
      | inr r => simp [am_cell, upA, hb]
theorem hp_setI {I A : Nat → Nat → Int32} {a ci j : Nat} {ds : List (Option Nat)} {v : Int32} (h : am_shp[a]? = some (.inl (ci, ds))) (hj : ds[j]? = some none) : (hp I A).set a (.inr (ci, (am_flds (I a) 0 ds).set j (.int v))) = hp (upI I a j v) A := by
  apply List.ext_getElem?
  intro b
  by_cases hb : b = a
  · subst hb
    have hl : b < (hp I A).length := (List.getElem?_eq_some_iff.mp (hp_get h)).1
    rw [List.getElem?_set_self hl, hp_get h, am_flds_set _ _ _ _ _ hj]
    simp only [am_cell]
    congr 4
    funext x
    simp [upI]
  · rw [List.getElem?_set_ne (Ne.symm hb)]
    simp only [hp, List.getElem?_mapIdx]
    cases am_shp[b]? with
    | none => rfl
    | some c => cases c with
      | inl o => simp only [Option.map_some, am_cell]; congr 4; funext x; simp [upI, hb]
      | inr r => rfl
theorem V.geti {G : am_G} {Y : am_Y} {R : Room} {Fn : Array Value → State → List Frame → State → Prop} {k n pc : Nat} {ls : List (Nat × Value)} {st : List Value} {I A : Nat → Nat → Int32} {idx a ci j : Nat} {ds : List (Option Nat)} (hd : decode Y.2.1 pc = .ok (.getfield idx, 3)) (hf : am_fd Y.1.cls idx ci j) (hs : am_shp[a]? = some (.inl (ci, ds))) {v : Int32} (hj : ds[j]? = some none) (hv : I a j = v) (kk : V G Y R Fn k n (pc + 3) ls (.int v :: st) (hp I A)) : V G Y R Fn k n pc ls (.ref a :: st) (hp I A) := V.get hd hf (hp_get hs) (by have h := am_flds_i (I a) ds 0 j hj; rw [Nat.zero_add, hv] at h; exact h) kk
theorem V.getr {G : am_G} {Y : am_Y} {R : Room} {Fn : Array Value → State → List Frame → State → Prop} {k n pc : Nat} {ls : List (Nat × Value)} {st : List Value} {I A : Nat → Nat → Int32} {idx a ci j : Nat} {ds : List (Option Nat)} {q : Nat} (hd : decode Y.2.1 pc = .ok (.getfield idx, 3)) (hf : am_fd Y.1.cls idx ci j) (hs : am_shp[a]? = some (.inl (ci, ds))) (hj : ds[j]? = some (some q)) (kk : V G Y R Fn k n (pc + 3) ls (.ref q :: st) (hp I A)) : V G Y R Fn k n pc ls (.ref a :: st) (hp I A) := V.get hd hf (hp_get hs) (am_flds_r (I a) ds 0 j q hj) kk
theorem V.puti {G : am_G} {Y : am_Y} {R : Room} {Fn : Array Value → State → List Frame → State → Prop} {k n pc : Nat} {ls : List (Nat × Value)} {st : List Value} {I A : Nat → Nat → Int32} {idx a ci j : Nat} {ds : List (Option Nat)} {C : String} {v : Int32} (hd : decode Y.2.1 pc = .ok (.putfield idx, 3)) (hf : am_pd Y.1.cls idx ci j .int false C) (hs : am_shp[a]? = some (.inl (ci, ds))) (hj : ds[j]? = some none) (kk : V G Y R Fn k n (pc + 3) ls st (hp (upI I a j v) A)) : V G Y R Fn k n pc ls (.int v :: .ref a :: st) (hp I A) := V.put hd hf (hp_get hs) (by rw [am_flds_len]; exact (List.getElem?_eq_some_iff.mp hj).1) ⟨rfl, rfl⟩ (hp_setI hs hj) kk
theorem V.lda {G : am_G} {Y : am_Y} {R : Room} {Fn : Array Value → State → List Frame → State → Prop} {k n pc : Nat} {ls : List (Nat × Value)} {st : List Value} {I A : Nat → Nat → Int32} {a N i : Nat} {v : Int32} (hd : decode Y.2.1 pc = .ok (.iaload, 1)) (hs : am_shp[a]? = some (.inr (0, N))) (hi : i < N) (hN : N < 2 ^ 31) (hv : A a i = v) (kk : V G Y R Fn k n (pc + 1) ls (.int v :: st) (hp I A)) : V G Y R Fn k n pc ls (.int (nI i) :: .ref a :: st) (hp I A) := V.ialdN hd (hp_get hs) hi hN hv kk
theorem V.ldz {G : am_G} {Y : am_Y} {R : Room} {Fn : Array Value → State → List Frame → State → Prop} {k n pc : Nat} {ls : List (Nat × Value)} {st : List Value} {I A : Nat → Nat → Int32} {a N i : Nat} {v : Int32} (hd : decode Y.2.1 pc = .ok (.baload, 1)) (hs : am_shp[a]? = some (.inr (1, N))) (hi : i < N) (hN : N < 2 ^ 31) (hv : A a i = v) (kk : V G Y R Fn k n (pc + 1) ls (.int v :: st) (hp I A)) : V G Y R Fn k n pc ls (.int (nI i) :: .ref a :: st) (hp I A) := V.zaldN hd (hp_get hs) hi hN hv kk
theorem V.sta {G : am_G} {Y : am_Y} {R : Room} {Fn : Array Value → State → List Frame → State → Prop} {k n pc : Nat} {ls : List (Nat × Value)} {st : List Value} {I A : Nat → Nat → Int32} {a N i : Nat} {x : Int32} {g : Nat → Int32} (hd : decode Y.2.1 pc = .ok (.iastore, 1)) (hs : am_shp[a]? = some (.inr (0, N))) (hi : i < N) (hN : N < 2 ^ 31) (hg : upd (A a) i x = g) (kk : V G Y R Fn k n (pc + 1) ls st (hp I (upA A a g))) : V G Y R Fn k n pc ls (.int x :: .int (nI i) :: .ref a :: st) (hp I A) := V.iastN hd (hp_get hs) hi hN (by rw [hg]; exact hp_setA hs) kk
theorem V.stz {G : am_G} {Y : am_Y} {R : Room} {Fn : Array Value → State → List Frame → State → Prop} {k n pc : Nat} {ls : List (Nat × Value)} {st : List Value} {I A : Nat → Nat → Int32} {a N i : Nat} {x : Int32} {g : Nat → Int32} (hd : decode Y.2.1 pc = .ok (.bastore, 1)) (hs : am_shp[a]? = some (.inr (1, N))) (hi : i < N) (hN : N < 2 ^ 31) (hx : narrow .boolean (.int x) = .int x) (hg : upd (A a) i x = g) (kk : V G Y R Fn k n (pc + 1) ls st (hp I (upA A a g))) : V G Y R Fn k n pc ls (.int x :: .int (nI i) :: .ref a :: st) (hp I A) := V.zastN hd (hp_get hs) hi hN hx (by rw [hg]; exact hp_setA hs) kk
theorem V.len {G : am_G} {Y : am_Y} {R : Room} {Fn : Array Value → State → List Frame → State → Prop} {k n pc : Nat} {ls : List (Nat × Value)} {st : List Value} {I A : Nat → Nat → Int32} {a q N : Nat} (hd : decode Y.2.1 pc = .ok (.arraylength, 1)) (hs : am_shp[a]? = some (.inr (q, N))) (hq : q < 2) (kk : V G Y R Fn k n (pc + 1) ls (.int (nI N) :: st) (hp I A)) : V G Y R Fn k n pc ls (.ref a :: st) (hp I A) := V.alen hd (hp_get hs) hq rfl kk
/-- a contract over the shape: from the numbers I, A to an answer and numbers -/
def Pm (Q : Option Value → (Nat → Nat → Int32) → (Nat → Nat → Int32) → Prop) : Option Value → List va_E → Prop := fun r h => ∃ I' A', h = hp I' A' ∧ Q r I' A'
def Cm (G : am_G) (Y : am_Y) (d lo : Nat) (as : List Value) (I A : Nat → Nat → Int32) (Q : Option Value → (Nat → Nat → Int32) → (Nat → Nat → Int32) → Prop) : Prop := Ct G Y d lo 0 0 as (hp I A) (Pm Q)
theorem Pm.use {G : am_G} {Y : am_Y} {R : Room} {Fn : Array Value → State → List Frame → State → Prop} {k n pc : Nat} {ls : List (Nat × Value)} {st : List Value} {Q : Option Value → (Nat → Nat → Int32) → (Nat → Nat → Int32) → Prop} (kk : ∀ (r : Option Value) (I' A' : Nat → Nat → Int32), Q r I' A' → V G Y R Fn k n pc ls (r.toList ++ st) (hp I' A')) : ∀ (r : Option Value) (h' : List va_E), Pm Q r h' → V G Y R Fn (k - 0) (n - 0) pc ls (r.toList ++ st) h' := by
  intro r h' q
  obtain ⟨I', A', e, hq⟩ := q
  have h1 := kk r I' A' hq
  rw [← e] at h1
  exact h1
theorem Cm.of {G : am_G} {Y : am_Y} {d lo : Nat} {as : List Value} {I A : Nat → Nat → Int32} {Q : Option Value → (Nat → Nat → Int32) → (Nat → Nat → Int32) → Prop} (hy : plainName Y.1.cls = true) (hl : as.length ≤ Y.2.2.1) (hc : as.all (fun v => v.category == 1) = true) (hv : V G Y (am_R d lo 0 0) (am_Fin G 0 0 (Pm Q)) 0 0 0 (am_as 0 as) [] (hp I A)) : Cm G Y d lo as I A Q := Ct.of hy hl (fun v hv => by have h := List.all_eq_true.mp hc v hv; simpa using h) hv
theorem V.ri {G : am_G} {Y : am_Y} {d lo pc : Nat} {Q : Option Value → (Nat → Nat → Int32) → (Nat → Nat → Int32) → Prop} {ls : List (Nat × Value)} {I A : Nat → Nat → Int32} {x : Int32} (hd : decode Y.2.1 pc = .ok (.ireturn, 1)) (hr : Y.2.2.2 = some .int) (hq : Q (some (.int x)) I A) : V G Y (am_R d lo 0 0) (am_Fin G 0 0 (Pm Q)) 0 0 pc ls [.int x] (hp I A) := V.iret hd hr ⟨I, A, rfl, hq⟩
theorem V.rz {G : am_G} {Y : am_Y} {d lo pc : Nat} {Q : Option Value → (Nat → Nat → Int32) → (Nat → Nat → Int32) → Prop} {ls : List (Nat × Value)} {I A : Nat → Nat → Int32} {x : Int32} (hd : decode Y.2.1 pc = .ok (.ireturn, 1)) (hr : Y.2.2.2 = some .boolean) (hx : narrow .boolean (.int x) = .int x) (hq : Q (some (.int x)) I A) : V G Y (am_R d lo 0 0) (am_Fin G 0 0 (Pm Q)) 0 0 pc ls [.int x] (hp I A) := V.zret hd hr hx ⟨I, A, rfl, hq⟩
theorem V.rv {G : am_G} {Y : am_Y} {d lo pc : Nat} {Q : Option Value → (Nat → Nat → Int32) → (Nat → Nat → Int32) → Prop} {ls : List (Nat × Value)} {I A : Nat → Nat → Int32} (hd : decode Y.2.1 pc = .ok (.return_, 1)) (hr : Y.2.2.2 = none) (hq : Q none I A) : V G Y (am_R d lo 0 0) (am_Fin G 0 0 (Pm Q)) 0 0 pc ls [] (hp I A) := V.vret hd hr ⟨I, A, rfl, hq⟩
theorem V.ra {G : am_G} {Y : am_Y} {d lo pc : Nat} {Q : Option Value → (Nat → Nat → Int32) → (Nat → Nat → Int32) → Prop} {ls : List (Nat × Value)} {I A : Nat → Nat → Int32} {a : Nat} {C : String} (hd : decode Y.2.1 pc = .ok (.areturn, 1)) (hr : Y.2.2.2 = some (.object C)) (hq : Q (some (.ref a)) I A) : V G Y (am_R d lo 0 0) (am_Fin G 0 0 (Pm Q)) 0 0 pc ls [.ref a] (hp I A) := V.aret hd hr (Or.inl ⟨_, rfl⟩) ⟨I, A, rfl, hq⟩
theorem V.cS {G : am_G} {Y : am_Y} {R : Room} {Fn : Array Value → State → List Frame → State → Prop} {k n pc : Nat} {ls : List (Nat × Value)} {st : List Value} {I A : Nat → Nat → Int32} {Y' : am_Y} {d' lo' idx : Nat} {As st0 : List Value} {Q' : Option Value → (Nat → Nat → Int32) → (Nat → Nat → Int32) → Prop} (hd : decode Y.2.1 pc = .ok (.invokestatic idx, 3)) (hsite : am_site Y.1.cls idx Y' As.length) (hstat : Cond.static Y'.1 ∈ am_tbl) (hC : Cm G Y' d' lo' As I A Q') (hR : d' + 1 ≤ R.frames ∧ 8 + (Y'.2.2.1 + 11) + lo' ≤ R.locals) (hst8 : (st.map fun v => v.category).sum ≤ 8) (hs0 : st0 = As.reverse ++ st) (kk : ∀ (r : Option Value) (I' A' : Nat → Nat → Int32), Q' r I' A' → V G Y R Fn k n (pc + 3) ls (r.toList ++ st) (hp I' A')) : V G Y R Fn k n pc ls st0 (hp I A) := V.callS (mc' := 0) (ms' := 0) (Post' := Pm Q') hd hsite hstat hC hR (Nat.zero_le _) (Nat.zero_le _) hst8 hs0 (Pm.use kk)
theorem V.cSN {G : am_G} {Y : am_Y} {R : Room} {Fn : Array Value → State → List Frame → State → Prop} {k n pc : Nat} {ls : List (Nat × Value)} {st : List Value} {I A : Nat → Nat → Int32} {Y' : am_Y} {d' lo' idx : Nat} {As st0 : List Value} {Q' : Option Value → (Nat → Nat → Int32) → (Nat → Nat → Int32) → Prop} {host : String} (hd : decode Y.2.1 pc = .ok (.invokestatic idx, 3)) (hsite : am_siteN Y.1.cls idx Y' As.length host) (hstat : Cond.static Y'.1 ∈ am_tbl) (hC : Cm G Y' d' lo' As I A Q') (hR : d' + 1 ≤ R.frames ∧ 8 + (Y'.2.2.1 + 11) + lo' ≤ R.locals) (hst8 : (st.map fun v => v.category).sum ≤ 8) (hs0 : st0 = As.reverse ++ st) (kk : ∀ (r : Option Value) (I' A' : Nat → Nat → Int32), Q' r I' A' → V G Y R Fn k n (pc + 3) ls (r.toList ++ st) (hp I' A')) : V G Y R Fn k n pc ls st0 (hp I A) := V.callSN (mc' := 0) (ms' := 0) (Post' := Pm Q') hd hsite hstat hC hR (Nat.zero_le _) (Nat.zero_le _) hst8 hs0 (Pm.use kk)
theorem V.cV {G : am_G} {Y : am_Y} {R : Room} {Fn : Array Value → State → List Frame → State → Prop} {k n pc : Nat} {ls : List (Nat × Value)} {st : List Value} {I A : Nat → Nat → Int32} {Y' : am_Y} {d' lo' idx : Nat} {As st0 : List Value} {Q' : Option Value → (Nat → Nat → Int32) → (Nat → Nat → Int32) → Prop} {a ci N : Nat} {T : u_T} {ds : List (Option Nat)} (hd : decode Y.2.1 pc = .ok (.invokevirtual idx, 3)) (hsite : am_site Y.1.cls idx Y' As.length) (hinst : Cond.instanceMethod Y'.1 ∈ am_tbl) (hsel : Cond.selects Y'.1.cls Y'.1 Y'.1 ∈ am_tbl) (hcl : am_cl[ci]? = some (Y'.1.cls, T, N)) (hs : am_shp[a]? = some (.inl (ci, ds))) (hC : Cm G Y' d' lo' (.ref a :: As) I A Q') (hR : d' + 1 ≤ R.frames ∧ 8 + (Y'.2.2.1 + 11) + lo' ≤ R.locals) (hst8 : (st.map fun v => v.category).sum ≤ 8) (hs0 : st0 = As.reverse ++ .ref a :: st) (kk : ∀ (r : Option Value) (I' A' : Nat → Nat → Int32), Q' r I' A' → V G Y R Fn k n (pc + 3) ls (r.toList ++ st) (hp I' A')) : V G Y R Fn k n pc ls st0 (hp I A) := V.callV (mc' := 0) (ms' := 0) (Post' := Pm Q') hd hsite hinst hsel hcl (hp_get hs) hC hR (Nat.zero_le _) (Nat.zero_le _) hst8 hs0 (Pm.use kk)
theorem V.cVN {G : am_G} {Y : am_Y} {R : Room} {Fn : Array Value → State → List Frame → State → Prop} {k n pc : Nat} {ls : List (Nat × Value)} {st : List Value} {I A : Nat → Nat → Int32} {Y' : am_Y} {d' lo' idx : Nat} {As st0 : List Value} {Q' : Option Value → (Nat → Nat → Int32) → (Nat → Nat → Int32) → Prop} {host : String} {a ci N : Nat} {T : u_T} {ds : List (Option Nat)} (hd : decode Y.2.1 pc = .ok (.invokevirtual idx, 3)) (hsite : am_siteN Y.1.cls idx Y' As.length host) (hinst : Cond.instanceMethod Y'.1 ∈ am_tbl) (hsel : Cond.selects Y'.1.cls Y'.1 Y'.1 ∈ am_tbl) (hcl : am_cl[ci]? = some (Y'.1.cls, T, N)) (hs : am_shp[a]? = some (.inl (ci, ds))) (hC : Cm G Y' d' lo' (.ref a :: As) I A Q') (hR : d' + 1 ≤ R.frames ∧ 8 + (Y'.2.2.1 + 11) + lo' ≤ R.locals) (hst8 : (st.map fun v => v.category).sum ≤ 8) (hs0 : st0 = As.reverse ++ .ref a :: st) (kk : ∀ (r : Option Value) (I' A' : Nat → Nat → Int32), Q' r I' A' → V G Y R Fn k n (pc + 3) ls (r.toList ++ st) (hp I' A')) : V G Y R Fn k n pc ls st0 (hp I A) := V.callVN (mc' := 0) (ms' := 0) (Post' := Pm Q') hd hsite hinst hsel hcl (hp_get hs) hC hR (Nat.zero_le _) (Nat.zero_le _) hst8 hs0 (Pm.use kk)
theorem V.st {G : am_G} {Y : am_Y} {R : Room} {Fn : Array Value → State → List Frame → State → Prop} {k n pc : Nat} {ls : List (Nat × Value)} {st : List Value} {I A : Nat → Nat → Int32} {st' : List Value} (e : st = st') (kk : V G Y R Fn k n pc ls st' (hp I A)) : V G Y R Fn k n pc ls st (hp I A) := e ▸ kk
theorem am_bz (c : Prop) [Decidable c] : narrow .boolean (.int (if c then 1 else 0)) = .int (if c then 1 else 0) := by by_cases h : c <;> simp [h] <;> decide
noncomputable def bI (c : Prop) : Int32 := @ite Int32 c (Classical.propDecidable c) 1 0
theorem bI_t {c : Prop} (h : c) : bI c = 1 := if_pos h
theorem bI_f {c : Prop} (h : ¬ c) : bI c = 0 := if_neg h
theorem am_s1 {c : Prop} (h : c) : some (Value.int (nI 1)) = some (Value.int (bI c)) := by rw [bI_t h]; rfl
theorem am_s0 {c : Prop} (h : ¬ c) : some (Value.int (nI 0)) = some (Value.int (bI c)) := by rw [bI_f h]; rfl
theorem bI_bz (c : Prop) : narrow .boolean (.int (bI c)) = .int (bI c) := by
  by_cases h : c
  · rw [bI_t h]; rfl
  · rw [bI_f h]; rfl
theorem V.lse {G : am_G} {Y : am_Y} {R : Room} {Fn : Array Value → State → List Frame → State → Prop} {k n pc : Nat} {ls : List (Nat × Value)} {st : List Value} {I A : Nat → Nat → Int32} {ls' : List (Nat × Value)} (e : ls = ls') (kk : V G Y R Fn k n pc ls' st (hp I A)) : V G Y R Fn k n pc ls st (hp I A) := e ▸ kk
theorem V.fewer {G : am_G} {Y : am_Y} {R : Room} {Fn : Array Value → State → List Frame → State → Prop} {k n pc : Nat} {ls : List (Nat × Value)} {st : List Value} {I A : Nat → Nat → Int32} {ls' : List (Nat × Value)} (ps : List Nat) (e : ps.filterMap (fun i => ls[i]?) = ls') (kk : V G Y R Fn k n pc ls' st (hp I A)) : V G Y R Fn k n pc ls st (hp I A) := by
  intro p l e0 s m args below meth c H locs cells slots lsr X w S hl hc hn
  refine kk p l e0 s m args below meth c H locs cells slots lsr X w S ⟨hl.1, hl.2.1, fun q hq => ?_⟩ hc hn
  obtain ⟨z, hz, rfl⟩ := List.mem_map.mp hq
  rw [← e] at hz
  obtain ⟨i, -, hi⟩ := List.mem_filterMap.mp hz
  exact hl.2.2 _ (List.mem_map.mpr ⟨z, List.mem_of_getElem? hi, rfl⟩)
theorem V.hpe {G : am_G} {Y : am_Y} {R : Room} {Fn : Array Value → State → List Frame → State → Prop} {k n pc : Nat} {ls : List (Nat × Value)} {st : List Value} {I A : Nat → Nat → Int32} {I' A' : Nat → Nat → Int32} (e1 : I = I') (e2 : A = A') (kk : V G Y R Fn k n pc ls st (hp I' A')) : V G Y R Fn k n pc ls st (hp I A) := by subst e1; subst e2; exact kk
