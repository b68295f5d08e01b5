/-! THE FLOW ENDS: each pass but the last sets a bit that wasn't set. -/
def bg_t (x : Int32) (i : Nat) : Bool := x.toBitVec.getLsbD i
/-- every bit of x is one of y -/
def bg_s (x y : Int32) : Prop := ∀ i, bg_t x i = true → bg_t y i = true
theorem bg_ext {x y : Int32} (h : ∀ i, i < 32 → bg_t x i = bg_t y i) : x = y := by
  apply Int32.toBitVec_inj.mp
  apply BitVec.eq_of_getLsbD_eq
  intro i hi
  exact h i hi
theorem bg_or (x y : Int32) (i : Nat) : bg_t (x ||| y) i = (bg_t x i || bg_t y i) := by simp [bg_t]
theorem bg_and (x y : Int32) (i : Nat) : bg_t (x &&& y) i = (bg_t x i && bg_t y i) := by simp [bg_t]
theorem bg_0 (i : Nat) : bg_t (nI 0) i = false := by
  show (nI 0).toBitVec.getLsbD i = false
  rw [show (nI 0).toBitVec = 0#32 from rfl]
  simp
theorem bg_rf (x : Int32) : bg_s x x := fun _ h => h
theorem bg_s0 (y : Int32) : bg_s (nI 0) y := fun i h => by rw [bg_0] at h; cases h
theorem bg_sor {a b c d : Int32} (h1 : bg_s a c) (h2 : bg_s b d) : bg_s (a ||| b) (c ||| d) := by
  intro i h
  rw [bg_or, Bool.or_eq_true] at h ⊢
  rcases h with h | h
  · exact Or.inl (h1 i h)
  · exact Or.inr (h2 i h)
theorem bg_sand {a c m : Int32} (h1 : bg_s a c) : bg_s (a &&& m) (c &&& m) := by
  intro i h
  rw [bg_and, Bool.and_eq_true] at h ⊢
  exact ⟨h1 i h.1, h.2⟩
/-- how many of the first n bits are not set -/
def bg_z (x : Int32) : Nat → Nat
  | 0 => 0
  | n + 1 => bg_z x n + if bg_t x n = true then 0 else 1
theorem bg_z_le (x : Int32) : ∀ n, bg_z x n ≤ n
  | 0 => Nat.le_refl _
  | n + 1 => by
    have := bg_z_le x n
    unfold bg_z
    split <;> omega
theorem bg_z_mono {x y : Int32} (h : bg_s x y) : ∀ n, bg_z y n ≤ bg_z x n
  | 0 => Nat.le_refl _
  | n + 1 => by
    have h1 := bg_z_mono h n
    have h2 := h n
    unfold bg_z
    by_cases hx : bg_t x n = true
    · rw [if_pos hx, if_pos (h2 hx)]; omega
    · rw [if_neg hx]; split <;> omega
theorem bg_z_lt {x y : Int32} (h : bg_s x y) : ∀ n i, i < n → bg_t x i = false → bg_t y i = true → bg_z y n < bg_z x n
  | 0, i, hi, _, _ => absurd hi (Nat.not_lt_zero _)
  | n + 1, i, hi, hx, hy => by
    unfold bg_z
    by_cases hin : i = n
    · subst hin
      have h1 := bg_z_mono h i
      rw [if_pos hy, if_neg (by rw [hx]; decide)]
      omega
    · have h1 := bg_z_lt h n i (by omega) hx hy
      have h2 := h n
      by_cases hxn : bg_t x n = true
      · rw [if_pos hxn, if_pos (h2 hxn)]; omega
      · rw [if_neg hxn]; split <;> omega
theorem bg_z_ne {x y : Int32} (h : bg_s x y) (hne : ¬ x = y) : bg_z y 32 < bg_z x 32 := by
  have h1 : ∃ i, i < 32 ∧ bg_t x i = false ∧ bg_t y i = true := by
    apply Classical.byContradiction
    intro q
    apply hne
    apply bg_ext
    intro i hi
    cases hx : bg_t x i with
    | true => rw [h i hx]
    | false =>
      cases hy : bg_t y i with
      | false => rfl
      | true => exact absurd ⟨i, hi, hx, hy⟩ q
  obtain ⟨i, h2, h3, h4⟩ := h1
  exact bg_z_lt h 32 i h2 h3 h4
/-- the zeros of n places of two rows -/
def bg_m (f g : Nat → Int32) : Nat → Nat
  | 0 => 0
  | n + 1 => bg_m f g n + bg_z (f n) 32 + bg_z (g n) 32
def bg_r (n : Nat) (f g : Nat → Int32) : Prop := ∀ s, s < n → bg_s (f s) (g s)
theorem bg_m_mono {f g f' g' : Nat → Int32} : ∀ n, bg_r n f f' → bg_r n g g' → bg_m f' g' n ≤ bg_m f g n
  | 0, _, _ => Nat.le_refl _
  | n + 1, h1, h2 => by
    have h3 := bg_m_mono n (fun s hs => h1 s (by omega)) (fun s hs => h2 s (by omega))
    have h4 := bg_z_mono (h1 n (by omega)) 32
    have h5 := bg_z_mono (h2 n (by omega)) 32
    unfold bg_m
    omega
theorem bg_m_lt {f g f' g' : Nat → Int32} : ∀ n s, s < n → bg_r n f f' → bg_r n g g' → (¬ f s = f' s ∨ ¬ g s = g' s) → bg_m f' g' n < bg_m f g n
  | 0, s, hs, _, _, _ => absurd hs (Nat.not_lt_zero _)
  | n + 1, s, hs, h1, h2, hne => by
    have h4 := bg_z_mono (h1 n (by omega)) 32
    have h5 := bg_z_mono (h2 n (by omega)) 32
    have h3 := bg_m_mono n (fun s hs => h1 s (by omega)) (fun s hs => h2 s (by omega))
    unfold bg_m
    by_cases hsn : s = n
    · subst hsn
      rcases hne with q | q
      · have := bg_z_ne (h1 s (by omega)) q; omega
      · have := bg_z_ne (h2 s (by omega)) q; omega
    · have := bg_m_lt n s (by omega) (fun s hs => h1 s (by omega)) (fun s hs => h2 s (by omega)) hne
      omega
theorem bg_at {ns : Nat} {f f' : Nat → Int32} (h : bg_r ns f f') (hns : ns < 2 ^ 31) (x : Int32) (hx : ¬ x < 0) : bg_s (mz_at ns f x) (mz_at ns f' x) := by
  unfold mz_at
  by_cases q : nI ns ≤ x
  · rw [if_pos q, if_pos q]; exact bg_rf _
  · rw [if_neg q, if_neg q]
    obtain ⟨j, hj, rfl⟩ := mz_nat (nv := ns) hns ⟨hx, q⟩
    rw [nI_clamp (by omega)]
    exact h j hj
section FLOWEND
variable {ns : Nat} {op fa fb fc : Nat → Int32} (hns : ns ≤ 60) (h8 : ∀ s, s < ns → op s = nI 8 → ¬ fa s < 0) (h7 : ∀ s, s < ns → op s = nI 7 → ¬ fc s < 0)
theorem bg_out {f f' : Nat → Int32} (hns : ns ≤ 60) (h8 : ∀ s, s < ns → op s = nI 8 → ¬ fa s < 0) (h7 : ∀ s, s < ns → op s = nI 7 → ¬ fc s < 0) (h : bg_r ns f f') (s : Nat) (hs : s < ns) : bg_s (mz_out ns op fa fc f s) (mz_out ns op fa fc f' s) := by
  unfold mz_out
  refine bg_sor ?_ ?_
  · by_cases q : op s = nI 8
    · rw [if_pos q, if_pos q]; exact bg_at h (by omega) _ (h8 s hs q)
    · rw [if_neg q, if_neg q]
      by_cases q2 : op s = nI 10
      · rw [if_pos q2, if_pos q2]; exact bg_rf _
      · rw [if_neg q2, if_neg q2]; exact bg_at h (by omega) _ (nI_pos (by omega))
  · by_cases q : op s = nI 7
    · rw [if_pos q, if_pos q]; exact bg_at h (by omega) _ (h7 s hs q)
    · rw [if_neg q, if_neg q]; exact bg_rf _
theorem bg_inn {f f' : Nat → Int32} (hns : ns ≤ 60) (h8 : ∀ s, s < ns → op s = nI 8 → ¬ fa s < 0) (h7 : ∀ s, s < ns → op s = nI 7 → ¬ fc s < 0) (h : bg_r ns f f') (s : Nat) (hs : s < ns) : bg_s (mz_inn ns op fa fb fc f s) (mz_inn ns op fa fb fc f' s) := by
  unfold mz_inn
  refine bg_sor (bg_rf _) ?_
  have ho := bg_out (f := f) (f' := f') hns h8 h7 h s hs
  by_cases q : mz_anew op fa s = (-1)
  · rw [if_pos q, if_pos q]; exact ho
  · rw [if_neg q, if_neg q]; exact bg_sand ho
theorem bg_upd {n s : Nat} {f f' : Nat → Int32} {x y : Int32} (h : bg_r n f f') (hxy : bg_s x y) : bg_r n (upd f s x) (upd f' s y) := by
  intro t ht
  by_cases q : t = s
  · subst q; simp [upd]; exact hxy
  · simp [upd, q]; exact h t ht
/-- a pass over more gives more -/
theorem bg_pass (hns : ns ≤ 60) (h8 : ∀ s, s < ns → op s = nI 8 → ¬ fa s < 0) (h7 : ∀ s, s < ns → op s = nI 7 → ¬ fc s < 0) : ∀ (m : Nat) (f g f' g' : Nat → Int32) (mo mo' : Int32), m ≤ ns → bg_r ns f f' → bg_r ns g g' → bg_r ns (mz_pass ns op fa fb fc m f g mo).1 (mz_pass ns op fa fb fc m f' g' mo').1 ∧ bg_r ns (mz_pass ns op fa fb fc m f g mo).2.1 (mz_pass ns op fa fb fc m f' g' mo').2.1
  | 0, f, g, f', g', mo, mo', _, h1, h2 => ⟨h1, h2⟩
  | m + 1, f, g, f', g', mo, mo', hm, h1, h2 => bg_pass hns h8 h7 m _ _ _ _ _ _ (by omega) (bg_upd h1 (bg_inn hns h8 h7 h1 m (by omega))) (bg_upd h2 (bg_out hns h8 h7 h1 m (by omega)))
theorem bg_mor {ns : Nat} {op fa fb fc bf bh : Nat → Int32} {mo : Int32} {s : Nat} (h : mz_mor ns op fa fb fc bf bh mo s = 0) : mo = 0 ∧ mz_inn ns op fa fb fc bf s = bf s ∧ mz_out ns op fa fc bf s = bh s := by
  unfold mz_mor at h
  by_cases h1 : mo = 0
  · rw [if_neg (fun q => q h1)] at h
    by_cases h2 : mz_inn ns op fa fb fc bf s = bf s
    · rw [if_neg (fun q => q h2)] at h
      by_cases h3 : mz_out ns op fa fc bf s = bh s
      · exact ⟨h1, h2, h3⟩
      · rw [if_neg h3] at h; exact absurd h (by decide)
    · rw [if_pos h2] at h; exact absurd h (by decide)
  · rw [if_pos h1] at h; exact absurd h (by decide)
/-- behind place m a pass changes nothing; if it tells that something moved, something did -/
theorem bg_keep {ns : Nat} {op fa fb fc : Nat → Int32} : ∀ (m : Nat) (f g : Nat → Int32) (mo : Int32) (s : Nat), m ≤ s → (mz_pass ns op fa fb fc m f g mo).1 s = f s ∧ (mz_pass ns op fa fb fc m f g mo).2.1 s = g s
  | 0, f, g, mo, s, _ => ⟨rfl, rfl⟩
  | m + 1, f, g, mo, s, h => by
    obtain ⟨h1, h2⟩ := bg_keep (ns := ns) (op := op) (fa := fa) (fb := fb) (fc := fc) m (upd f m (mz_inn ns op fa fb fc f m)) (upd g m (mz_out ns op fa fc f m)) (mz_mor ns op fa fb fc f g mo m) s (by omega)
    have hne : ¬ s = m := by omega
    exact ⟨h1.trans (by simp [upd, hne]), h2.trans (by simp [upd, hne])⟩
theorem bg_moved {ns : Nat} {op fa fb fc : Nat → Int32} : ∀ (m : Nat) (f g : Nat → Int32) (mo : Int32), ¬ (mz_pass ns op fa fb fc m f g mo).2.2 = 0 → mo = 0 → ∃ s, s < m ∧ (¬ f s = (mz_pass ns op fa fb fc m f g mo).1 s ∨ ¬ g s = (mz_pass ns op fa fb fc m f g mo).2.1 s)
  | 0, f, g, mo, h, h0 => absurd h0 h
  | m + 1, f, g, mo, h, h0 => by
    by_cases q : mz_mor ns op fa fb fc f g mo m = 0
    · obtain ⟨-, q1, q2⟩ := bg_mor q
      obtain ⟨s, h1, h2⟩ := bg_moved m _ _ _ h q
      have hne : ¬ s = m := by omega
      refine ⟨s, by omega, ?_⟩
      rcases h2 with h2 | h2
      · left; intro z; apply h2; rw [show upd f m (mz_inn ns op fa fb fc f m) s = f s by simp [upd, hne]]; exact z
      · right; intro z; apply h2; rw [show upd g m (mz_out ns op fa fc f m) s = g s by simp [upd, hne]]; exact z
    · refine ⟨m, by omega, ?_⟩
      obtain ⟨k1, k2⟩ := bg_keep (ns := ns) (op := op) (fa := fa) (fb := fb) (fc := fc) m (upd f m (mz_inn ns op fa fb fc f m)) (upd g m (mz_out ns op fa fc f m)) (mz_mor ns op fa fb fc f g mo m) m (Nat.le_refl _)
      have e1 : (mz_pass ns op fa fb fc (m + 1) f g mo).1 m = mz_inn ns op fa fb fc f m := k1.trans (by simp [upd])
      have e2 : (mz_pass ns op fa fb fc (m + 1) f g mo).2.1 m = mz_out ns op fa fc f m := k2.trans (by simp [upd])
      rw [e1, e2]
      unfold mz_mor at q
      rw [if_neg (fun z => z h0)] at q
      by_cases h2 : mz_inn ns op fa fb fc f m = f m
      · rw [if_neg (fun z => z h2)] at q
        by_cases h3 : mz_out ns op fa fc f m = g m
        · rw [if_pos h3] at q; exact absurd rfl q
        · exact Or.inr (fun z => h3 z.symm)
      · exact Or.inl (fun z => h2 z.symm)
end FLOWEND
/-- the flow ends, where it begins with nothing -/
theorem mz_ends {ns : Nat} {op fa fb fc bf bh : Nat → Int32} (hns : ns ≤ 60) (h8 : ∀ s, s < ns → op s = nI 8 → ¬ fa s < 0) (h7 : ∀ s, s < ns → op s = nI 7 → ¬ fc s < 0) (hf : ∀ s, s < ns → bf s = nI 0) (hg : ∀ s, s < ns → bh s = nI 0) : ∃ k, mz_mo ns op fa fb fc bf bh k = nI 0 := by
  have up : ∀ k, bg_r ns (mz_it ns op fa fb fc bf bh k).1 (mz_it ns op fa fb fc bf bh (k + 1)).1 ∧ bg_r ns (mz_it ns op fa fb fc bf bh k).2 (mz_it ns op fa fb fc bf bh (k + 1)).2 := by
    intro k
    induction k with
    | zero => exact ⟨fun s hs => by rw [show (mz_it ns op fa fb fc bf bh 0).1 s = nI 0 from hf s hs]; exact bg_s0 _, fun s hs => by rw [show (mz_it ns op fa fb fc bf bh 0).2 s = nI 0 from hg s hs]; exact bg_s0 _⟩
    | succ k ih => exact bg_pass hns h8 h7 ns _ _ _ _ _ _ (Nat.le_refl _) ih.1 ih.2
  apply Classical.byContradiction
  intro hno
  have hall : ∀ k, ¬ mz_mo ns op fa fb fc bf bh k = nI 0 := fun k q => hno ⟨k, q⟩
  have dn : ∀ k, bg_m (mz_it ns op fa fb fc bf bh k).1 (mz_it ns op fa fb fc bf bh k).2 ns + k ≤ bg_m bf bh ns := by
    intro k
    induction k with
    | zero => exact Nat.le_refl _
    | succ k ih =>
      obtain ⟨s, h1, h2⟩ := bg_moved ns (mz_it ns op fa fb fc bf bh k).1 (mz_it ns op fa fb fc bf bh k).2 (nI 0) (hall k) rfl
      have := bg_m_lt ns s h1 (up k).1 (up k).2 h2
      omega
  have := dn (bg_m bf bh ns + 1)
  omega
theorem mz_fends {ns : Nat} {A : Nat → Nat → Int32} (hns : ns ≤ 60) (h8 : ∀ s, s < ns → A m_ops s = nI 8 → ¬ A m_first s < 0) (h7 : ∀ s, s < ns → A m_ops s = nI 7 → ¬ A m_third s < 0) : ∃ k, mz_fm ns A k = nI 0 :=
  mz_ends hns h8 h7 (fun s hs => by rw [mz_fill_at, if_pos (by omega)]) (fun s hs => by rw [mz_fill_at, if_pos (by omega)])
