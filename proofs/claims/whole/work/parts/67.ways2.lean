/-! the ways of the component and those of the reference -/
theorem cz_bl_bit {a : Nat} {oth : Int32} (ha : a < 32) (x i : Nat) : ∀ (m v : Nat) (w : Nat → Int32), bg_t (cz_bl a oth m v w x) i = true ↔ bg_t (w x) i = true ∨ (v ≤ x ∧ x < v + m ∧ bg_t oth x = true ∧ i = a)
  | 0, v, w => by
    constructor
    · exact Or.inl
    · rintro (h | ⟨h1, h2, -⟩)
      · exact h
      · omega
  | m + 1, v, w => by
    show bg_t (cz_bl a oth m (v + 1) _ x) i = true ↔ _
    rw [cz_bl_bit ha x i m (v + 1)]
    by_cases hb : bg_t oth v = true
    · rw [if_pos hb]
      by_cases q : x = v
      · subst q
        rw [pk_us, bg_or, bg_bit ha, Bool.or_eq_true, decide_eq_true_iff]
        constructor
        · rintro ((h | h) | h)
          · exact Or.inl h
          · exact Or.inr ⟨Nat.le_refl _, by omega, hb, h⟩
          · omega
        · rintro (h | h)
          · exact Or.inl (Or.inl h)
          · exact Or.inl (Or.inr h.2.2.2)
      · rw [pk_un q]
        constructor
        · rintro (h | ⟨h1, h2, h3, h4⟩)
          · exact Or.inl h
          · exact Or.inr ⟨by omega, by omega, h3, h4⟩
        · rintro (h | ⟨h1, h2, h3, h4⟩)
          · exact Or.inl h
          · exact Or.inr ⟨by omega, by omega, h3, h4⟩
    · rw [if_neg hb]
      constructor
      · rintro (h | ⟨h1, h2, h3, h4⟩)
        · exact Or.inl h
        · exact Or.inr ⟨by omega, by omega, h3, h4⟩
      · rintro (h | ⟨h1, h2, h3, h4⟩)
        · exact Or.inl h
        · refine Or.inr ⟨?_, by omega, h3, h4⟩
          have : ¬ x = v := fun z => hb (z ▸ h3)
          omega
theorem cz_bAll_bit {a : Nat} {oth : Int32} {w : Nat → Int32} (ha : a < 32) (x i : Nat) : bg_t (cz_bAll a oth w x) i = true ↔ bg_t (w x) i = true ∨ (x = a ∧ bg_t oth i = true) ∨ (x < 24 ∧ bg_t oth x = true ∧ i = a) := by
  unfold cz_bAll
  rw [cz_bl_bit ha]
  by_cases q : x = a
  · subst q
    rw [pk_us, bg_or, Bool.or_eq_true]
    constructor
    · rintro ((h | h) | ⟨-, h2, h3, h4⟩)
      · exact Or.inl h
      · exact Or.inr (Or.inl ⟨rfl, h⟩)
      · exact Or.inr (Or.inr ⟨by omega, h3, h4⟩)
    · rintro (h | ⟨-, h⟩ | ⟨h2, h3, h4⟩)
      · exact Or.inl (Or.inl h)
      · exact Or.inl (Or.inr h)
      · exact Or.inr ⟨by omega, by omega, h3, h4⟩
  · rw [pk_un q]
    constructor
    · rintro (h | ⟨-, h2, h3, h4⟩)
      · exact Or.inl h
      · exact Or.inr (Or.inr ⟨by omega, h3, h4⟩)
    · rintro (h | ⟨h, -⟩ | ⟨h2, h3, h4⟩)
      · exact Or.inl h
      · exact absurd h q
      · exact Or.inr ⟨by omega, by omega, h3, h4⟩
section WAYS2
variable {nv ns : Nat} {op fa fb fc cl mem : Nat → Int32}
theorem cz_blk_bit {bh : Nat → Int32} {s a cc : Nat} (hnv : nv ≤ 24) (hsw : mz_sw nv (op s) (fa s) (fb s) (fc s)) (ha : a < nv) (hcc : cc < 2) (ea : cl a = nI cc) (hmem : ∀ c, c < 2 → ∀ i, bg_t (mem c) i = true ↔ i < nv ∧ cl i = nI c) (i : Nat) : bg_t (cz_blk op fb (bh s) (mem cc) s a) i = true ↔ i < nv ∧ mz_cC op fb cl bh s a i := by
  have h32 : bg_t (cz_blk op fb (bh s) (mem cc) s a) i = true → i < 32 := fun h => Classical.byContradiction fun z => by rw [bg_hi _ (by omega)] at h; cases h
  constructor
  · intro h
    have hi := h32 h
    unfold cz_blk at h
    rw [bg_and, bg_not _ hi, bg_bit (by omega), Bool.and_eq_true] at h
    obtain ⟨h1, h2⟩ := h
    have hne : ¬ i = a := fun z => by rw [z] at h2; simp at h2
    by_cases q : op s = nI 1
    · rw [if_pos q, bg_and, bg_and, Bool.and_eq_true, Bool.and_eq_true] at h1
      obtain ⟨⟨h3, h4⟩, h5⟩ := h1
      obtain ⟨h6, h7⟩ := (hmem cc hcc i).mp h4
      refine ⟨h6, hne, by rw [h7, ea], (bg_sh1 hi).mpr h3, fun z => ?_⟩
      rw [← z.2, bg_not _ hi, bg_bit hi] at h5
      simp at h5
    · rw [if_neg q, bg_and, Bool.and_eq_true] at h1
      obtain ⟨h3, h4⟩ := h1
      obtain ⟨h6, h7⟩ := (hmem cc hcc i).mp h4
      exact ⟨h6, hne, by rw [h7, ea], (bg_sh1 hi).mpr h3, fun z => q z.1⟩
  · rintro ⟨hi, h1, h2, h3, h4⟩
    have hi32 : i < 32 := by omega
    have h5 := (bg_sh1 hi32).mp h3
    have h6 := (hmem cc hcc i).mpr ⟨hi, by rw [h2, ea]⟩
    unfold cz_blk
    rw [bg_and, bg_not _ hi32, bg_bit (by omega), decide_eq_false h1]
    by_cases q : op s = nI 1
    · rw [if_pos q, bg_and, bg_and, h5, h6, bg_not _ hi32]
      obtain ⟨k, hk, ek, -, h8, -⟩ := hsw
      obtain ⟨b, hb, eb⟩ := h8 (by have := (nI_eq (by omega) (by omega)).mp (ek.symm.trans q); omega)
      rw [eb, bg_bit (by omega), decide_eq_false (fun z => h4 ⟨q, by rw [eb, z]⟩)]
      rfl
    · rw [if_neg q, bg_and, h5, h6]
      rfl
theorem cz_W1_bit {bh w : Nat → Int32} {s : Nat} (hnv : nv ≤ 24) (hsw : mz_sw nv (op s) (fa s) (fb s) (fc s)) (hcl : ∀ v, v < nv → ∃ cc, cc < 2 ∧ cl v = nI cc) (hmem : ∀ c, c < 2 → ∀ i, bg_t (mem c) i = true ↔ i < nv ∧ cl i = nI c) (x i : Nat) : bg_t (cz_W1 op fa fb cl bh mem s w x) i = true ↔ bg_t (w x) i = true ∨ mz_wB nv op fa fb cl bh s x i := by
  unfold cz_W1
  rcases mz_sw_anew (op := op) (fa := fa) (fb := fb) (fc := fc) hsw with e | ⟨a, ha, e⟩
  · rw [if_pos e]
    constructor
    · exact Or.inl
    · rintro (h | ⟨a, y, ha, -, h2, -⟩)
      · exact h
      · rw [e] at h2; exact absurd h2.symm (nI_nm1 (by omega))
  · obtain ⟨cc, hcc, ec⟩ := hcl a ha
    rw [e, if_neg (nI_nm1 (by omega)), nI_clamp (by omega), ec, nI_clamp (by omega), cz_bAll_bit (by omega), cz_blk_bit hnv hsw ha hcc ec hmem, cz_blk_bit hnv hsw ha hcc ec hmem]
    constructor
    · rintro (h | ⟨h1, h2, h3⟩ | ⟨h1, ⟨h2, h3⟩, h4⟩)
      · exact Or.inl h
      · exact Or.inr ⟨a, i, ha, h2, e, h3, Or.inl ⟨h1, rfl⟩⟩
      · exact Or.inr ⟨a, x, ha, h2, e, h3, Or.inr ⟨rfl, h4⟩⟩
    · rintro (h | ⟨a', y, ha', hy, h1, h2, h3⟩)
      · exact Or.inl h
      · obtain rfl : a = a' := (nI_eq (by omega) (by omega)).mp (e.symm.trans h1)
        rcases h3 with ⟨h3, h4⟩ | ⟨h3, h4⟩
        · subst h4; exact Or.inr (Or.inl ⟨h3, hy, h2⟩)
        · subst h3; exact Or.inr (Or.inr ⟨by omega, ⟨hy, h2⟩, h4⟩)
theorem cz_WW_bit {bh : Nat → Int32} (hnv : nv ≤ 24) (hsw : ∀ s, s < ns → mz_sw nv (op s) (fa s) (fb s) (fc s)) (hcl : ∀ v, v < nv → ∃ cc, cc < 2 ∧ cl v = nI cc) (hmem : ∀ c, c < 2 → ∀ i, bg_t (mem c) i = true ↔ i < nv ∧ cl i = nI c) (x i : Nat) : ∀ (m s : Nat) (w : Nat → Int32), s + m ≤ ns → (bg_t (cz_WW op fa fb cl bh mem m s w x) i = true ↔ bg_t (w x) i = true ∨ ∃ y, s ≤ y ∧ y < s + m ∧ mz_wB nv op fa fb cl bh y x i)
  | 0, s, w, _ => by
    constructor
    · exact Or.inl
    · rintro (h | ⟨y, h1, h2, -⟩)
      · exact h
      · omega
  | m + 1, s, w, hm => by
    show bg_t (cz_WW op fa fb cl bh mem m (s + 1) (cz_W1 op fa fb cl bh mem s w) x) i = true ↔ _
    rw [cz_WW_bit hnv hsw hcl hmem x i m (s + 1) _ (by omega), cz_W1_bit hnv (hsw s (by omega)) hcl hmem]
    constructor
    · rintro ((h | h) | ⟨y, h1, h2, h3⟩)
      · exact Or.inl h
      · exact Or.inr ⟨s, by omega, by omega, h⟩
      · exact Or.inr ⟨y, by omega, by omega, h3⟩
    · rintro (h | ⟨y, h1, h2, h3⟩)
      · exact Or.inl (Or.inl h)
      · by_cases q : y = s
        · subst q; exact Or.inl (Or.inr h3)
        · exact Or.inr ⟨y, by omega, by omega, h3⟩
end WAYS2
theorem mz_wB_c {nv : Nat} {op fa fb cl bh bh' : Nat → Int32} {s x i : Nat} (h : bh s = bh' s) : mz_wB nv op fa fb cl bh s x i ↔ mz_wB nv op fa fb cl bh' s x i := by
  unfold mz_wB mz_cC
  rw [h]
/-- the component's ways are the reference's -/
theorem cz_ways {nv ns k : Nat} {A : Nat → Nat → Int32} {bf mem w0 : Nat → Int32} (hnv : nv ≤ 24) (hns : ns ≤ 60) (hsw : ∀ s, s < ns → mz_sw nv (A m_ops s) (A m_first s) (A m_second s) (A m_third s)) (h8 : ∀ s, s < ns → A m_ops s = nI 8 → ¬ A m_first s < 0) (h7 : ∀ s, s < ns → A m_ops s = nI 7 → ¬ A m_third s < 0) (hcl : ∀ v, v < nv → ∃ cc, cc < 2 ∧ A m_classes v = nI cc) (hmem : ∀ c, c < 2 → ∀ i, bg_t (mem c) i = true ↔ i < nv ∧ A m_classes i = nI c) (hk : mz_fm ns A k = nI 0) (hbf : cz_eq ns bf (mz_fl ns A k).1) : cz_eq nv (cz_WW (A m_ops) (A m_first) (A m_second) (A m_classes) (fun s => mz_out ns (A m_ops) (A m_first) (A m_third) bf s) mem ns 0 (mz_fill nv 0 w0)) (mz_W nv ns A (mz_fl ns A k).2) := by
  intro x hx
  apply bg_ext
  intro i _
  have han : ∀ s, s < ns → mz_anew (A m_ops) (A m_first) s = (-1) ∨ ∃ a, a < nv ∧ mz_anew (A m_ops) (A m_first) s = nI a := fun s hs => mz_sw_anew (hsw s hs)
  have e : bg_t (cz_WW (A m_ops) (A m_first) (A m_second) (A m_classes) (fun s => mz_out ns (A m_ops) (A m_first) (A m_third) bf s) mem ns 0 (mz_fill nv 0 w0) x) i = true ↔ bg_t (mz_W nv ns A (mz_fl ns A k).2 x) i = true := by
    rw [cz_WW_bit hnv hsw hcl hmem x i ns 0 _ (by omega), mz_W_bit hnv han hx, mz_fill_at, if_pos (by omega), bg_0]
    have hb : ∀ y, y < ns → (mz_wB nv (A m_ops) (A m_first) (A m_second) (A m_classes) (fun s => mz_out ns (A m_ops) (A m_first) (A m_third) bf s) y x i ↔ mz_wB nv (A m_ops) (A m_first) (A m_second) (A m_classes) (mz_fl ns A k).2 y x i) := fun y hy => mz_wB_c (by
      show mz_out ns (A m_ops) (A m_first) (A m_third) bf y = _
      rw [cz_out_c hns h8 h7 hbf hy, (mz_fl_fix hk y hy).2])
    constructor
    · rintro (h | ⟨y, -, h2, h3⟩)
      · cases h
      · exact ⟨y, by omega, (hb y (by omega)).mp h3⟩
    · rintro ⟨y, h2, h3⟩
      exact Or.inr ⟨y, by omega, by omega, (hb y h2).mpr h3⟩
  cases h1 : bg_t (cz_WW (A m_ops) (A m_first) (A m_second) (A m_classes) (fun s => mz_out ns (A m_ops) (A m_first) (A m_third) bf s) mem ns 0 (mz_fill nv 0 w0) x) i with
  | true => exact (e.mp h1).symm
  | false =>
    cases h2 : bg_t (mz_W nv ns A (mz_fl ns A k).2 x) i with
    | true => rw [e.mpr h2] at h1; cases h1
    | false => rfl
/-! weights and order -/
theorem cz_inc_c {nv : Nat} {g g' : Nat → Int32} (hnv : nv ≤ 24) (h : cz_eq nv g g') {v : Int32} (hv : v = (-1) ∨ ∃ a, a < nv ∧ v = nI a) : cz_eq nv (mz_inc g v) (mz_inc g' v) := by
  rcases hv with rfl | ⟨a, ha, rfl⟩
  · rw [mz_inc_m, mz_inc_m]; exact h
  · rw [mz_inc_n (by omega), mz_inc_n (by omega)]
    exact cz_eq_upd h (by rw [h a ha])
theorem cz_meetG_c {nv ns : Nat} {op fa fb fc : Nat → Int32} (hnv : nv ≤ 24) (hsw : ∀ s, s < ns → mz_sw nv (op s) (fa s) (fb s) (fc s)) : ∀ (m s : Nat) (g g' : Nat → Int32), s + m ≤ ns → cz_eq nv g g' → cz_eq nv (mz_meetG op fa fb fc m s g) (mz_meetG op fa fb fc m s g')
  | 0, s, g, g', _, h => h
  | m + 1, s, g, g', hm, h => cz_meetG_c hnv hsw m (s + 1) _ _ (by omega) (cz_inc_c hnv (cz_inc_c hnv (cz_inc_c hnv h (mz_sw_anew (fb := fb) (fc := fc) (hsw s (by omega)))) (mz_sw_tak0 (hsw s (by omega)))) (mz_sw_tak1 (hsw s (by omega))))
theorem cz_fill_c {n : Nat} {f f' : Nat → Int32} : cz_eq n (mz_fill n 0 f) (mz_fill n 0 f') := fun s hs => by rw [mz_fill_at, mz_fill_at, if_pos (by omega), if_pos (by omega)]
def cz_eqh (n h : Nat) (f g : Nat → Int32) : Prop := ∀ s, s < n → ¬ s = h → f s = g s
theorem cz_ins_c {nv v : Nat} {wt wt' : Nat → Int32} {x : Int32} (hnv : nv ≤ 24) (hv : v < nv) (hw : cz_eq nv wt wt') : ∀ (k : Nat) (o o' : Nat → Int32), k ≤ v → cz_eqh (v + 1) k o o' → mz_ok (v + 1) k v o → (mz_ins wt x k o).1 = (mz_ins wt' x k o').1 ∧ cz_eqh (v + 1) (mz_ins wt x k o).1 (mz_ins wt x k o).2 (mz_ins wt' x k o').2
  | 0, o, o', _, h, _ => ⟨rfl, h⟩
  | k + 1, o, o', hk, h, hok => by
    obtain ⟨t, ht, et⟩ := hok k (by omega) (by omega)
    have e1 : o' k = nI t := by rw [← h k (by omega) (by omega), et]
    have e2 : wt t = wt' t := hw t (by omega)
    unfold mz_ins
    rw [et, e1, nI_clamp (by omega), e2]
    by_cases q : x ≤ wt' t
    · rw [if_pos q, if_pos q]; exact ⟨rfl, h⟩
    · rw [if_neg q, if_neg q]
      refine cz_ins_c hnv hv hw k _ _ (by omega) (fun s hs hne => ?_) (by rw [← et]; exact mz_ok_shift hok (by omega))
      by_cases z : s = k + 1
      · subst z; rw [pk_us, pk_us]
      · rw [pk_un z, pk_un z]; exact h s hs z
theorem cz_sort_c {nv : Nat} {wt wt' : Nat → Int32} (hnv : nv ≤ 24) (hw : cz_eq nv wt wt') : ∀ (m v : Nat) (o o' : Nat → Int32), v + m = nv → cz_eq v o o' → mz_ok v v v o → cz_eq nv (mz_sort wt m v o) (mz_sort wt' m v o')
  | 0, v, o, o', hm, h, _ => by rw [show nv = v by omega]; exact h
  | m + 1, v, o, o', hm, h, hok => by
    have hok1 : mz_ok (v + 1) v v o := fun j hj hne => hok j (by omega) (by omega)
    obtain ⟨h1, h2⟩ := cz_ins_c (x := wt v) hnv (show v < nv by omega) hw v o o' (Nat.le_refl _) (fun s hs hne => h s (by omega)) hok1
    obtain ⟨h3, h4⟩ := mz_ins_ok wt (wt v) v o (by omega) hok1
    show cz_eq nv (mz_sort wt m (v + 1) (upd (mz_ins wt (wt v) v o).2 (mz_ins wt (wt v) v o).1 (nI v))) (mz_sort wt' m (v + 1) (upd (mz_ins wt' (wt' v) v o').2 (mz_ins wt' (wt' v) v o').1 (nI v)))
    refine cz_sort_c hnv hw m (v + 1) _ _ (by omega) (fun s hs => ?_) (mz_ok_fill h3 (by omega))
    rw [← hw v (by omega), ← h1]
    by_cases q : s = (mz_ins wt (wt v) v o).1
    · rw [q, pk_us, pk_us]
    · rw [pk_un q, pk_un q]; exact h2 s hs q
/-- no two places tell the same value -/
def mz_ij (n h : Nat) (o : Nat → Int32) : Prop := ∀ a b, a < n → b < n → ¬ a = h → ¬ b = h → ¬ a = b → ¬ o a = o b
theorem mz_ij_shift {n k : Nat} {o : Nat → Int32} (h : mz_ij n (k + 1) o) (hk : k + 1 < n) : mz_ij n k (upd o (k + 1) (o k)) := by
  intro a b ha hb h1 h2 h3
  by_cases qa : a = k + 1
  · subst qa
    rw [pk_us, pk_un (Ne.symm h3)]
    exact h k b (by omega) hb (by omega) (fun z => h3 z.symm) (fun z => h2 z.symm)
  · by_cases qb : b = k + 1
    · subst qb
      rw [pk_us, pk_un h3]
      exact h a k ha (by omega) qa (by omega) h1
    · rw [pk_un qa, pk_un qb]
      exact h a b ha hb qa qb h3
theorem mz_ins_ij (wt : Nat → Int32) (x : Int32) {n : Nat} : ∀ (k : Nat) (o : Nat → Int32), k < n → mz_ij n k o → mz_ij n (mz_ins wt x k o).1 (mz_ins wt x k o).2
  | 0, o, hk, h => h
  | k + 1, o, hk, h => by
    unfold mz_ins
    split
    · exact h
    · exact mz_ins_ij wt x k _ (by omega) (mz_ij_shift h hk)
theorem mz_sort_ij (wt : Nat → Int32) : ∀ (m v : Nat) (o : Nat → Int32), v + m ≤ 24 → mz_ij v v o → mz_ok v v v o → mz_ij (v + m) (v + m) (mz_sort wt m v o)
  | 0, v, o, _, h, _ => h
  | m + 1, v, o, hm, h, hok => by
    have hok1 : mz_ok (v + 1) v v o := fun j hj hne => hok j (by omega) (by omega)
    have hij1 : mz_ij (v + 1) v o := fun a b ha hb h1 h2 h3 => h a b (by omega) (by omega) h1 h2 h3
    obtain ⟨h3, h4⟩ := mz_ins_ok wt (wt v) v o (by omega) hok1
    have h5 := mz_ins_ij wt (wt v) v o (by omega) hij1
    rw [show v + (m + 1) = v + 1 + m by omega]
    refine mz_sort_ij wt m (v + 1) _ (by omega) (fun a b ha hb h1 h2 hne => ?_) (mz_ok_fill h3 (by omega))
    by_cases qa : a = (mz_ins wt (wt v) v o).1
    · rw [qa, pk_us, pk_un (by omega)]
      obtain ⟨t, ht, et⟩ := h3 b hb (by omega)
      rw [et, nI_eq (by omega) (by omega)]
      omega
    · by_cases qb : b = (mz_ins wt (wt v) v o).1
      · rw [qb, pk_us, pk_un (by omega)]
        obtain ⟨t, ht, et⟩ := h3 a ha (by omega)
        rw [et, nI_eq (by omega) (by omega)]
        omega
      · rw [pk_un qa, pk_un qb]
        exact h5 a b ha hb qa qb hne
