/-! what the component has worked out is what the reference works out, whatever lies in the reference's rows -/
def cz_sp (nv : Nat) (A B : Nat → Nat → Int32) : Prop := B m_ops = A 5 ∧ B m_first = A 6 ∧ B m_second = A 7 ∧ B m_third = A 8 ∧ B m_classes = A 2 ∧ B m_registers = A 16 ∧ ∀ v, nv ≤ v → B m_homes v = 0
/-- the component's told part is well formed -/
def cz_K (nv ns : Nat) (I A : Nat → Nat → Int32) : Prop := I 1 6 = nI nv ∧ I 4 4 = nI ns ∧ nv ≤ 24 ∧ ns ≤ 60 ∧ (∀ s, s < ns → mz_sw nv (A 5 s) (A 6 s) (A 7 s) (A 8 s)) ∧ (∀ v, v < nv → ∃ cc, cc < 2 ∧ A 2 v = nI cc) ∧ (∀ c, c < 2 → ∃ R, R ≤ 8 ∧ A 16 c = nI R) ∧ (∀ c, c < 2 → ∀ i, bg_t (A 3 c) i = true ↔ i < nv ∧ A 2 i = nI c) ∧ (∀ s, s < ns → A 9 s = mz_anew (A 5) (A 6) s) ∧ (∀ s, s < ns → A 10 s = mz_tak0 (A 5) (A 6) (A 7) s) ∧ (∀ s, s < ns → A 11 s = mz_tak1 (A 5) (A 7) (A 8) s) ∧ ∀ v, nv ≤ v → A 20 v = 0
theorem mz_sw_8 {nv : Nat} {o a b c : Int32} (h : mz_sw nv o a b c) (e : o = nI 8) : ¬ a < 0 := by
  obtain ⟨k, hk, ek, -, -, -, -, -, h8⟩ := h
  obtain ⟨x, hx, ex⟩ := h8 ((nI_eq (by omega) (by omega)).mp (ek.symm.trans e))
  rw [ex]; exact nI_pos (by omega)
theorem mz_sw_7 {nv : Nat} {o a b c : Int32} (h : mz_sw nv o a b c) (e : o = nI 7) : ¬ c < 0 := by
  obtain ⟨k, hk, ek, -, -, -, -, h7, -⟩ := h
  obtain ⟨x, hx, ex⟩ := h7 ((nI_eq (by omega) (by omega)).mp (ek.symm.trans e))
  rw [ex]; exact nI_pos (by omega)
def cz_F1 (nv ns : Nat) (A : Nat → Nat → Int32) : Prop := ∀ B k, cz_sp nv A B → mz_fm ns B k = nI 0 → cz_eq ns (A 13) (mz_fl ns B k).1 ∧ cz_eq nv (A 14) (mz_W nv ns B (mz_fl ns B k).2)
def cz_F2 (nv ns : Nat) (A : Nat → Nat → Int32) : Prop := ∀ B B1, cz_sp nv A B → mz_stl nv ns B B1 → cz_eq nv (A 17) (B1 m_weights) ∧ cz_eq nv (A 18) (B1 m_order) ∧ A 20 = B1 m_homes
/-- where the items lead to -/
def cz_tg (c : Nat → Int32) (n : Nat) : Prop := ∀ i, i < n → (c (4 * i) = nI 7 → ∃ x, x ≤ n ∧ c (4 * i + 3) = nI x) ∧ (c (4 * i) = nI 8 → ∃ x, x ≤ n ∧ c (4 * i + 1) = nI x)
def cz_F3 (nv ns : Nat) (I A : Nat → Nat → Int32) : Prop := ∃ n, n ≤ 240 ∧ I 25 4 = nI n ∧ (∀ i, i < n → mz_i2 (cz_v A) 0 i) ∧ cz_tg (cz_v A) n ∧ ∀ B B1 fe it c0 f0 c n' f, cz_sp nv A B → mz_stl nv ns B B1 → mz_cds (B m_ops) (B m_first) (B m_second) (B m_third) (B m_classes) (B1 m_homes) ns 0 fe it c0 0 f0 c n' f → n = n' ∧ ∀ j, j < 4 * n → cz_v A j = mz_rts ns n' f n' 0 c j
abbrev cz_tv (A : Nat → Nat → Int32) : Nat → Int32 := cz_u (A 31) (A 32) (A 33) (A 34)
def cz_F4 (nv ns : Nat) (I A : Nat → Nat → Int32) : Prop := ∃ n, n ≤ 240 ∧ I 30 4 = nI n ∧ (∀ i, i < n → mz_i2 (cz_tv A) 1600 i) ∧ ∀ B B1 fe it c0 f0 c n' f cR nR, cz_sp nv A B → mz_stl nv ns B B1 → mz_cds (B m_ops) (B m_first) (B m_second) (B m_third) (B m_classes) (B1 m_homes) ns 0 fe it c0 0 f0 c n' f → n' ≤ 240 → mz_tids n' (mz_cp (4 * n') 0 (mz_rts ns n' f n' 0 c)) cR nR → n = nR ∧ tz_all (cz_tv A) cR n
/-! they are there -/
theorem mz_home_ex {R : Nat} {J F : Nat → Prop} (h : ∃ k, 100 ≤ k ∧ F k) : ∃ x, mz_home R J F x := by
  by_cases h1 : ∃ k, k < R ∧ J k ∧ F k
  · obtain ⟨x, hx, hmin⟩ := pk_least _ h1
    exact ⟨x, Or.inl ⟨hx.1, hx.2, fun k hk z => hmin k hk ⟨by omega, z⟩⟩⟩
  · by_cases h2 : ∃ k, k < R ∧ F k
    · obtain ⟨x, hx, hmin⟩ := pk_least _ h2
      exact ⟨x, Or.inr ⟨fun k hk z => h1 ⟨k, hk, z⟩, Or.inl ⟨hx.1, hx.2, fun k hk z => hmin k hk ⟨by omega, z⟩⟩⟩⟩
    · obtain ⟨x, hx, hmin⟩ := pk_least _ h
      exact ⟨x, Or.inr ⟨fun k hk z => h1 ⟨k, hk, z⟩, Or.inr ⟨fun k hk z => h2 ⟨k, hk, z⟩, hx.1, hx.2, fun k hk1 hk2 z => hmin k hk2 ⟨hk1, z⟩⟩⟩⟩
theorem mz_set_ex {nv ns : Nat} {op fa fb cl rg W O : Nat → Int32} (hnv : nv ≤ 24) (hcl : ∀ v, v < nv → ∃ cc, cc < 2 ∧ cl v = nI cc) (hrg : ∀ c, c < 2 → ∃ R, R ≤ 8 ∧ rg c = nI R) (ho : mz_ok nv nv nv O) : ∀ (m i : Nat) (hm : Nat → Int32), i + m = nv → ∃ hm', mz_set nv ns op fa fb cl rg W O m i hm hm'
  | 0, i, hm, _ => ⟨hm, rfl⟩
  | m + 1, i, hm, h => by
    obtain ⟨t, ht, et⟩ := ho i (by omega) (by omega)
    obtain ⟨cc, hcc, ec⟩ := hcl t ht
    obtain ⟨R, hR, eR⟩ := hrg cc hcc
    obtain ⟨x, hx⟩ := mz_home_ex (R := R) (J := fun k => mz_J nv ns op fa fb cl hm t cc k) (mz_hasfree nv hnv (W t) hm)
    obtain ⟨hm', h'⟩ := mz_set_ex hnv hcl hrg ho m (i + 1) (upd hm t (nI x)) (by omega)
    exact ⟨hm', t, cc, R, x, ht, hcc, hR, et, ec, eR, hx, h'⟩
theorem mz_sort_ok {nv : Nat} {wt o : Nat → Int32} (hnv : nv ≤ 24) : mz_ok nv nv nv (mz_sort wt nv 0 o) := by
  have key : ∀ (m v : Nat) (o : Nat → Int32), mz_ok v v v o → mz_ok (v + m) (v + m) (v + m) (mz_sort wt m v o) := by
    intro m
    induction m with
    | zero => intro v o h; exact h
    | succ m ih =>
      intro v o h
      have h1 : mz_ok (v + 1) v v o := fun j hj hne => h j (by omega) (by omega)
      obtain ⟨h2, h3⟩ := mz_ins_ok wt (wt v) v o (by omega) h1
      have h4 := ih (v + 1) _ (mz_ok_fill h2 (show v < v + 1 by omega))
      rw [show v + 1 + m = v + (m + 1) by omega] at h4
      exact h4
  have := key nv 0 o (fun j hj => absurd hj (Nat.not_lt_zero _))
  rw [Nat.zero_add] at this
  exact this
theorem mz_stl_ex {nv ns : Nat} {B : Nat → Nat → Int32} (hnv : nv ≤ 24) (hns : ns ≤ 60) (hsw : ∀ s, s < ns → mz_sw nv (B m_ops s) (B m_first s) (B m_second s) (B m_third s)) (hcl : ∀ v, v < nv → ∃ cc, cc < 2 ∧ B m_classes v = nI cc) (hrg : ∀ c, c < 2 → ∃ R, R ≤ 8 ∧ B m_registers c = nI R) : ∃ B1, mz_stl nv ns B B1 := by
  obtain ⟨k, hk⟩ := mz_fends (A := B) hns (fun s hs e => mz_sw_8 (hsw s hs) e) (fun s hs e => mz_sw_7 (hsw s hs) e)
  obtain ⟨hm, h⟩ := mz_set_ex (ns := ns) (op := B m_ops) (fa := B m_first) (fb := B m_second) (W := mz_W nv ns B (mz_fl ns B k).2) (O := mz_O nv ns B) hnv hcl hrg (mz_sort_ok hnv) nv 0 (mz_N nv B) (by omega)
  exact ⟨_, k, hm, hk, h, rfl⟩
/-- a state of the reference with the component's program -/
theorem cz_sp_ex (nv : Nat) (A : Nat → Nat → Int32) : ∃ B, cz_sp nv A B := by
  refine ⟨upA (upA (upA (upA (upA (upA (upA A m_ops (A 5)) m_first (A 6)) m_second (A 7)) m_third (A 8)) m_classes (A 2)) m_registers (A 16)) m_homes (fun _ => 0), ?_⟩
  exact ⟨rfl, rfl, rfl, rfl, rfl, rfl, fun _ _ => rfl⟩
theorem cz_stl_ex {nv ns : Nat} {I A : Nat → Nat → Int32} (hK : cz_K nv ns I A) : ∃ B B1, cz_sp nv A B ∧ mz_stl nv ns B B1 := by
  obtain ⟨-, -, hnv, hns, hsw, hcl, hrg, -⟩ := hK
  obtain ⟨B, hB⟩ := cz_sp_ex nv A
  obtain ⟨e1, e2, e3, e4, e5, e6, -⟩ := id hB
  obtain ⟨B1, h⟩ := mz_stl_ex (B := B) hnv hns (by rw [e1, e2, e3, e4]; exact hsw) (by rw [e5]; exact hcl) (by rw [e6]; exact hrg)
  exact ⟨B, B1, hB, h⟩
/-! F1 .. F4 come true -/
theorem cz_mkF1 {nv ns kf : Nat} {I A : Nat → Nat → Int32} {f0 w0 : Nat → Int32} (hK : cz_K nv ns I A) (hf0 : ∀ s, s < ns → f0 s = nI 0) (hkf : cz_mo ns (A 5) (A 6) (A 7) (A 8) f0 kf = nI 0) : cz_F1 nv ns (upA (upA A 13 (cz_it ns (A 5) (A 6) (A 7) (A 8) f0 (kf + 1))) 14 (cz_WW (A 5) (A 6) (A 7) (A 2) (fun s => mz_out ns (A 5) (A 6) (A 8) (cz_it ns (A 5) (A 6) (A 7) (A 8) f0 (kf + 1)) s) (A 3) ns 0 (mz_fill nv 0 w0))) := by
  obtain ⟨-, -, hnv, hns, hsw, hcl, hrg, hmem, -⟩ := hK
  intro B k hB hk
  obtain ⟨e1, e2, e3, e4, e5, e6, -⟩ := hB
  have e1 : B m_ops = A 5 := e1
  have e2 : B m_first = A 6 := e2
  have e3 : B m_second = A 7 := e3
  have e4 : B m_third = A 8 := e4
  have e5 : B m_classes = A 2 := e5
  rw [← e1, ← e2, ← e3, ← e4] at hsw hkf ⊢
  rw [← e5] at hcl hmem ⊢
  have h8 : ∀ s, s < ns → B m_ops s = nI 8 → ¬ B m_first s < 0 := fun s hs e => mz_sw_8 (hsw s hs) e
  have h7 : ∀ s, s < ns → B m_ops s = nI 7 → ¬ B m_third s < 0 := fun s hs e => mz_sw_7 (hsw s hs) e
  have hbf := cz_flow hns h8 h7 hf0 hkf hk
  exact ⟨hbf, cz_ways hnv hns hsw h8 h7 hcl hmem hk hbf⟩
theorem cz_mkF2 {nv ns : Nat} {I A : Nat → Nat → Int32} (hK : cz_K nv ns I A) (h1 : cz_F1 nv ns A) : cz_F2 nv ns (upA (upA (upA (upA A 17 (mz_meetG (A 5) (A 6) (A 7) (A 8) ns 0 (mz_fill nv 0 (A 17)))) 19 (cz_jj (A 5) (A 6) (A 7) (A 2) ns 0 (mz_fill nv 0 (A 19)))) 18 (mz_sort (mz_meetG (A 5) (A 6) (A 7) (A 8) ns 0 (mz_fill nv 0 (A 17))) nv 0 (A 18))) 20 (cz_set (A 2) (A 16) (A 14) (cz_jj (A 5) (A 6) (A 7) (A 2) ns 0 (mz_fill nv 0 (A 19))) (mz_sort (mz_meetG (A 5) (A 6) (A 7) (A 8) ns 0 (mz_fill nv 0 (A 17))) nv 0 (A 18)) nv 0 (mz_none nv 0 (A 20)))) := by
  obtain ⟨-, -, hnv, hns, hsw, hcl, hrg, hmem, -, -, -, h20⟩ := hK
  intro B B1 hB hstl
  obtain ⟨e1, e2, e3, e4, e5, e6, e7⟩ := id hB
  have e1 : B m_ops = A 5 := e1
  have e2 : B m_first = A 6 := e2
  have e3 : B m_second = A 7 := e3
  have e4 : B m_third = A 8 := e4
  have e5 : B m_classes = A 2 := e5
  have e6 : B m_registers = A 16 := e6
  have hB0 : cz_sp nv A B := ⟨e1, e2, e3, e4, e5, e6, e7⟩
  obtain ⟨k, hm, hk, hset, rfl⟩ := hstl
  obtain ⟨-, hW⟩ := h1 B k hB0 hk
  have han : ∀ s, s < ns → mz_anew (B m_ops) (B m_first) s = (-1) ∨ ∃ a, a < nv ∧ mz_anew (B m_ops) (B m_first) s = nI a := fun s hs => by rw [e1, e2]; exact mz_sw_anew (fb := A 7) (fc := A 8) (hsw s hs)
  have hg : cz_eq nv (mz_meetG (A 5) (A 6) (A 7) (A 8) ns 0 (mz_fill nv 0 (A 17))) (mz_G nv ns B) := by
    unfold mz_G
    rw [e1, e2, e3, e4]
    exact cz_meetG_c hnv hsw ns 0 _ _ (by omega) cz_fill_c
  have hod : cz_eq nv (mz_sort (mz_meetG (A 5) (A 6) (A 7) (A 8) ns 0 (mz_fill nv 0 (A 17))) nv 0 (A 18)) (mz_O nv ns B) := cz_sort_c hnv hg nv 0 _ _ (by omega) (fun s hs => absurd hs (Nat.not_lt_zero _)) (fun j hj => absurd hj (Nat.not_lt_zero _))
  refine ⟨hg, hod, ?_⟩
  have hij : mz_ij nv nv (mz_O nv ns B) := by
    have := mz_sort_ij (mz_G nv ns B) nv 0 (B m_order) (by omega) (fun a b ha => absurd ha (Nat.not_lt_zero _)) (fun j hj => absurd hj (Nat.not_lt_zero _))
    rw [Nat.zero_add] at this
    exact this
  obtain ⟨r1, r2⟩ := cz_set_e (ns := ns) (op := B m_ops) (fa := B m_first) (fb := B m_second) (cl := B m_classes) (rg := B m_registers) (W := mz_W nv ns B (mz_fl ns B k).2) (O := mz_O nv ns B) (wy := A 14) (jn := cz_jj (A 5) (A 6) (A 7) (A 2) ns 0 (mz_fill nv 0 (A 19))) (od := mz_sort (mz_meetG (A 5) (A 6) (A 7) (A 8) ns 0 (mz_fill nv 0 (A 17))) nv 0 (A 18)) hnv hW hod (fun t ht => mz_W_irr hnv han t ht) hij (fun t u ht hu => by
      rw [cz_jj_bit hnv hsw t u ht hu ns 0 _ (by omega), mz_fill_at, if_pos (by omega), bg_0, e1, e2, e3, e5]
      unfold mz_joined
      constructor
      · rintro (z | ⟨⟨y, -, z2, z3⟩, z4⟩)
        · cases z
        · exact ⟨⟨y, by omega, z3⟩, z4⟩
      · rintro ⟨⟨y, z2, z3⟩, z4⟩
        exact Or.inr ⟨⟨y, by omega, by omega, z3⟩, z4⟩) nv 0 (mz_none nv 0 (A 20)) (mz_N nv B) hm (by omega) (fun s hs => by unfold mz_N; rw [mz_none_at, mz_none_at, if_pos (by omega), if_pos (by omega)]) (fun u hu => Or.inl (by unfold mz_N; rw [mz_none_at, if_pos (by omega)])) (fun j t _ _ ht _ => by unfold mz_N; rw [mz_none_at, if_pos (by omega)]) hset
  show cz_set (A 2) (A 16) (A 14) _ _ nv 0 (mz_none nv 0 (A 20)) = hm
  rw [← e5, ← e6] at *
  funext v
  by_cases q : v < nv
  · rw [e5] at r1 ⊢; exact r1 v q
  · obtain ⟨r3, r4⟩ := r2 v (by omega)
    rw [e5] at r4 ⊢
    rw [r4, r3]
    unfold mz_N
    rw [mz_none_at, mz_none_at, if_neg (by omega), if_neg (by omega), h20 v (by omega), e7 v (by omega)]
