/-! EVERY ITEM IS WELL FORMED: homes, registers, slots and targets are in their ranges. -/
def mz_cov (n h b : Nat) (o : Nat → Int32) : Prop := ∀ t, t < b → ∃ j, j < n ∧ ¬ j = h ∧ o j = nI t
theorem mz_cov_shift {n k b : Nat} {o : Nat → Int32} (h : mz_cov n (k + 1) b o) (hk : k + 1 < n) : mz_cov n k b (upd o (k + 1) (o k)) := by
  intro t ht
  obtain ⟨j, h1, h2, h3⟩ := h t ht
  by_cases q : j = k
  · subst q
    exact ⟨j + 1, hk, by omega, by simp [upd, h3]⟩
  · exact ⟨j, h1, q, by simp [upd, h2, h3]⟩
theorem mz_cov_fill {n k b : Nat} {o : Nat → Int32} (h : mz_cov n k b o) (hk : k < n) : mz_cov n n (b + 1) (upd o k (nI b)) := by
  intro t ht
  by_cases q : t = b
  · subst q
    exact ⟨k, hk, by omega, by simp [upd]⟩
  · obtain ⟨j, h1, h2, h3⟩ := h t (by omega)
    exact ⟨j, h1, by omega, by simp [upd, h2, h3]⟩
theorem mz_ins_cov (wt : Nat → Int32) (x : Int32) {n b : Nat} : ∀ (k : Nat) (o : Nat → Int32), k < n → mz_cov n k b o → mz_cov n (mz_ins wt x k o).1 b (mz_ins wt x k o).2 ∧ (mz_ins wt x k o).1 < n
  | 0, o, hk, h => ⟨h, hk⟩
  | k + 1, o, hk, h => by
    unfold mz_ins
    split
    · exact ⟨h, hk⟩
    · exact mz_ins_cov wt x k _ (by omega) (mz_cov_shift h hk)
theorem mz_sort_cov (wt : Nat → Int32) : ∀ (m v : Nat) (o : Nat → Int32), mz_cov v v v o → mz_cov (v + m) (v + m) (v + m) (mz_sort wt m v o)
  | 0, v, o, h => h
  | m + 1, v, o, h => by
    have h1 : mz_cov (v + 1) v v o := fun t ht => by
      obtain ⟨j, h2, h3, h4⟩ := h t ht
      exact ⟨j, by omega, by omega, h4⟩
    obtain ⟨h2, h3⟩ := mz_ins_cov wt (wt v) v o (by omega) h1
    have h4 := mz_sort_cov wt m (v + 1) _ (mz_cov_fill h2 h3)
    rw [show v + 1 + m = v + (m + 1) by omega] at h4
    exact h4
/-- a home that a value may have -/
def mz_hg (x : Int32) : Prop := ∃ h, (h < 8 ∨ (100 ≤ h ∧ h ≤ 124)) ∧ x = nI h
theorem mz_home_rg {nv R x : Nat} {J : Nat → Prop} {w : Int32} {hm : Nat → Int32} (hnv : nv ≤ 24) (hR : R ≤ 8) (h : mz_home R J (fun k => mz_free nv w hm (nI k)) x) : x < 8 ∨ (100 ≤ x ∧ x ≤ 124) := by
  rcases h with ⟨h, -⟩ | ⟨-, ⟨h, -⟩ | ⟨-, h1, -, h2⟩⟩
  · exact Or.inl (by omega)
  · exact Or.inl (by omega)
  · obtain ⟨k, k1, k2, k3⟩ := mz_hasfree2 nv hnv w hm
    by_cases q : x ≤ 124
    · exact Or.inr ⟨h1, q⟩
    · exact absurd k3 (h2 k k1 (by omega))
theorem mz_set_hg {nv ns : Nat} {op fa fb cl rg wy od : Nat → Int32} (hnv : nv ≤ 24) : ∀ (m i : Nat) (hm hm' : Nat → Int32), mz_set nv ns op fa fb cl rg wy od m i hm hm' → (∀ v, mz_hg (hm v) → mz_hg (hm' v)) ∧ ∀ j t, i ≤ j → j < i + m → t < 2 ^ 31 → od j = nI t → mz_hg (hm' t)
  | 0, i, hm, hm', h => by
    have h : hm' = hm := h
    subst h
    exact ⟨fun _ h => h, fun j t h1 h2 => by omega⟩
  | m + 1, i, hm, hm', h => by
    obtain ⟨t, cc, R, x, ht, hcc, hR, et, ec, eR, hx, h⟩ := h
    obtain ⟨h1, h2⟩ := mz_set_hg hnv m (i + 1) _ hm' h
    have hg : mz_hg (nI x) := ⟨x, mz_home_rg hnv hR hx, rfl⟩
    refine ⟨fun v hv => h1 v ?_, fun j u h3 h4 h5 h6 => ?_⟩
    · by_cases q : v = t
      · subst q; simp [upd]; exact hg
      · simp [upd, q]; exact hv
    · by_cases q : j = i
      · subst q
        have e : t = u := (nI_eq (by omega) h5).mp (et.symm.trans h6)
        subst e
        exact h1 t (by simp [upd]; exact hg)
      · exact h2 j u (by omega) (by omega) h5 h6
/-- behind settle every value has a home -/
theorem mz_stl_hg {nv ns : Nat} {A A' : Nat → Nat → Int32} (hnv : nv ≤ 24) (h : mz_stl nv ns A A') : ∀ v, v < nv → mz_hg (A' m_homes v) := by
  obtain ⟨k, hm, -, h2, rfl⟩ := h
  intro v hv
  have hc := mz_sort_cov (mz_G nv ns A) nv 0 (A m_order) (fun t ht => absurd ht (Nat.not_lt_zero _))
  rw [Nat.zero_add] at hc
  obtain ⟨j, h3, -, h4⟩ := hc v hv
  exact (mz_set_hg hnv nv 0 _ hm h2).2 j v (Nat.zero_le _) (by omega) (by omega) h4
def mz_isR (x : Int32) : Prop := ∃ q, q < 32 ∧ x = nI q
theorem mz_reg_R {c k : Int32} {cc q : Nat} (h1 : c = nI cc) (h2 : cc < 2) (h3 : k = nI q) (h4 : q < 16) : mz_isR (mz_reg c k) := by
  refine ⟨16 * cc + q, by omega, ?_⟩
  unfold mz_reg
  rw [h1, h3, pk_mul, nI_add]
theorem mz_hg_lt {x : Int32} (h : mz_hg x) (h2 : x < nI 100) : ∃ q, q < 8 ∧ x = nI q := by
  obtain ⟨q, h3, h4⟩ := h
  rw [h4, nI_ltI (by omega) (by omega)] at h2
  exact ⟨q, by omega, h4⟩
theorem mz_hg_sl {x : Int32} (h : mz_hg x) (h2 : ¬ x < nI 100) : ∃ q, q < 32 ∧ x - nI 100 = nI q := by
  obtain ⟨q, h3, h4⟩ := h
  rw [h4, nI_ltI (by omega) (by omega)] at h2
  exact ⟨q - 100, by omega, by rw [h4, pk_sub (by omega)]⟩
section ITEMS
variable {nv : Nat} {cl hm : Nat → Int32}
/-- the values that there are: their classes and homes -/
def mz_vok (nv : Nat) (cl hm : Nat → Int32) : Prop := ∀ v, v < nv → (∃ cc, cc < 2 ∧ cl v = nI cc) ∧ mz_hg (hm v)
theorem mz_to_R (h : mz_vok nv cl hm) {v : Nat} (hv : v < nv) : mz_isR (mz_to cl hm v) := by
  obtain ⟨⟨cc, h1, h2⟩, h3⟩ := h v hv
  unfold mz_to
  by_cases q : hm v < nI 100
  · rw [if_pos q]
    obtain ⟨x, h4, h5⟩ := mz_hg_lt h3 q
    exact mz_reg_R h2 h1 h5 (by omega)
  · rw [if_neg q]
    exact mz_reg_R h2 h1 (q := 8) rfl (by omega)
/-- what has been fetched: into registers, and all that have slots among P -/
def mz_FI (hm : Nat → Int32) (F : mz_FS) (P : Nat → Prop) : Prop := (∀ i, i < F.1 → mz_isR (F.2.2.1 i)) ∧ ∀ v, P v → ¬ hm v < nI 100 → ∃ i, i < F.1 ∧ F.2.1 i = nI v
theorem mz_ft_FI (h : mz_vok nv cl hm) {F : mz_FS} {P : Nat → Prop} (hF : mz_FI hm F P) {v : Nat} (hv : v < nv) : mz_FI hm (mz_ft cl hm v F) (fun u => P u ∨ u = v) := by
  obtain ⟨⟨cc, h1, h2⟩, -⟩ := h v hv
  unfold mz_ft
  by_cases q : F.1 = 1 ∧ F.2.1 0 = nI v
  · rw [if_pos q]
    refine ⟨hF.1, fun u hu hs => ?_⟩
    rcases hu with hu | rfl
    · exact hF.2 u hu hs
    · exact ⟨0, by omega, q.2⟩
  · rw [if_neg q]
    refine ⟨fun i hi => ?_, fun u hu hs => ?_⟩
    · by_cases qi : i = F.1
      · subst qi
        have e : (upd F.2.2.1 F.1 (mz_reg (cl v) (if F.1 = 1 ∧ cl (F.2.1 0).toNatClampNeg = cl v then nI 9 else nI 8))) F.1 = mz_reg (cl v) (if F.1 = 1 ∧ cl (F.2.1 0).toNatClampNeg = cl v then nI 9 else nI 8) := by simp [upd]
        show mz_isR (upd F.2.2.1 F.1 _ F.1)
        rw [e]
        by_cases q2 : F.1 = 1 ∧ cl (F.2.1 0).toNatClampNeg = cl v
        · rw [if_pos q2]; exact mz_reg_R h2 h1 (q := 9) rfl (by omega)
        · rw [if_neg q2]; exact mz_reg_R h2 h1 (q := 8) rfl (by omega)
      · show mz_isR (upd F.2.2.1 F.1 _ i)
        have hi2 : i < F.1 + 1 := hi
        rw [show ∀ y, upd F.2.2.1 F.1 y i = F.2.2.1 i from fun y => by simp [upd, qi]]
        exact hF.1 i (by omega)
    · rcases hu with hu | rfl
      · obtain ⟨i, h3, h4⟩ := hF.2 u hu hs
        refine ⟨i, by show i < F.1 + 1; omega, ?_⟩
        show upd F.2.1 F.1 _ i = nI u
        rw [show ∀ y, upd F.2.1 F.1 y i = F.2.1 i from fun y => by simp [upd, show ¬ i = F.1 by omega]]
        exact h4
      · refine ⟨F.1, by show F.1 < F.1 + 1; omega, ?_⟩
        show upd F.2.1 F.1 _ F.1 = nI u
        simp [upd]
theorem mz_f1_FI (h : mz_vok nv cl hm) (hnv : nv ≤ 24) {F : mz_FS} {P : Nat → Prop} (hF : mz_FI hm F P) {x : Int32} (hx : x = (-1) ∨ ∃ a, a < nv ∧ x = nI a) : mz_FI hm (mz_f1 cl hm x F) (fun u => P u ∨ (u < nv ∧ x = nI u)) := by
  rcases hx with rfl | ⟨a, ha, rfl⟩
  · rw [mz_f1_m]
    exact ⟨hF.1, fun u hu hs => hu.elim (fun z => hF.2 u z hs) (fun z => absurd z.2.symm (nI_nm1 (by omega)))⟩
  · by_cases q : hm a < nI 100
    · rw [mz_f1_r (by omega) q]
      refine ⟨hF.1, fun u hu hs => hu.elim (fun z => hF.2 u z hs) (fun z => ?_)⟩
      have e : a = u := (nI_eq (by omega) (by omega)).mp z.2
      subst e
      exact absurd q hs
    · rw [mz_f1_s (by omega) q]
      have h1 := mz_ft_FI h hF ha
      refine ⟨h1.1, fun u hu hs => h1.2 u (hu.elim Or.inl (fun z => Or.inr ?_)) hs⟩
      exact ((nI_eq (by omega) (by omega)).mp z.2).symm
theorem mz_from_R (h : mz_vok nv cl hm) {F : mz_FS} {P : Nat → Prop} (hF : mz_FI hm F P) (hq : F.1 ≤ 2) {v : Nat} (hv : v < nv) (hP : P v) : mz_isR (mz_from cl hm F.2.1 F.2.2.1 F.1 v) := by
  obtain ⟨⟨cc, h1, h2⟩, h3⟩ := h v hv
  have base : (∀ i, i < F.1 → ¬ F.2.1 i = nI v) → mz_isR (mz_reg (cl v) (hm v)) := by
    intro hno
    by_cases q : hm v < nI 100
    · obtain ⟨x, h4, h5⟩ := mz_hg_lt h3 q
      exact mz_reg_R h2 h1 h5 (by omega)
    · obtain ⟨i, h4, h5⟩ := hF.2 v hP q
      exact absurd h5 (hno i h4)
  rcases (show F.1 = 0 ∨ F.1 = 1 ∨ F.1 = 2 by omega) with e | e | e
  · rw [e]
    exact base (fun i hi => by omega)
  · rw [e]
    show mz_isR (if F.2.1 0 = nI v then F.2.2.1 0 else mz_reg (cl v) (hm v))
    by_cases q : F.2.1 0 = nI v
    · rw [if_pos q]; exact hF.1 0 (by omega)
    · rw [if_neg q]
      exact base (fun i hi => by rw [show i = 0 by omega]; exact q)
  · rw [e]
    show mz_isR (if F.2.1 1 = nI v then F.2.2.1 1 else if F.2.1 0 = nI v then F.2.2.1 0 else mz_reg (cl v) (hm v))
    by_cases q : F.2.1 1 = nI v
    · rw [if_pos q]; exact hF.1 1 (by omega)
    · rw [if_neg q]
      by_cases q2 : F.2.1 0 = nI v
      · rw [if_pos q2]; exact hF.1 0 (by omega)
      · rw [if_neg q2]
        exact base (fun i hi => by rcases (show i = 0 ∨ i = 1 by omega) with rfl | rfl <;> assumption)
end ITEMS
