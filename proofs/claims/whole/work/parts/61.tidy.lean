/-! what taking an item away does, item by item -/
theorem mz_shl_at : ∀ (m k : Nat) (c : Nat → Int32) (j : Nat), mz_shl m k c j = if k ≤ j ∧ j < k + m then c (j + 4) else c j
  | 0, k, c, j => by rw [if_neg (by omega)]; rfl
  | m + 1, k, c, j => by
    show mz_shl m (k + 1) (upd c k (c (k + 4))) j = _
    rw [mz_shl_at m (k + 1)]
    by_cases h : k + 1 ≤ j ∧ j < k + 1 + m
    · rw [if_pos h, if_pos (by omega), pk_un (by omega)]
    · rw [if_neg h]
      by_cases q : j = k
      · subst q; rw [pk_us, if_pos (by omega)]
      · rw [pk_un q, if_neg (by omega)]
theorem mz_off_le {c : Nat → Int32} {k : Nat} : mz_off c k ≤ 3 := by
  unfold mz_off
  split <;> omega
theorem mz_dc_o {c : Nat → Int32} {i k j : Nat} (h : j < 1600 + 4 * k ∨ 1600 + 4 * k + 4 ≤ j) : mz_dc c i k j = c j := by
  have := mz_off_le (c := c) (k := k)
  unfold mz_dc
  split
  · rfl
  · exact pk_un (by omega)
theorem mz_dec_o {i : Nat} : ∀ (m k : Nat) (c : Nat → Int32) (j : Nat), j < 1600 + 4 * k ∨ 1600 + 4 * (k + m) ≤ j → mz_dec i m k c j = c j
  | 0, k, c, j, h => rfl
  | m + 1, k, c, j, h => by
    show mz_dec i m (k + 1) (mz_dc c i k) j = c j
    rw [mz_dec_o m (k + 1) _ j (by omega), mz_dc_o (by omega)]
/-- two codes have the same item t, at the base 1600 -/
def tz_eq (c c' : Nat → Int32) (t t' : Nat) : Prop := ∀ r, r < 4 → c (1600 + 4 * t + r) = c' (1600 + 4 * t' + r)
theorem tz_0 {c c' : Nat → Int32} {t t' : Nat} (h : tz_eq c c' t t') : c (1600 + 4 * t) = c' (1600 + 4 * t') := h 0 (by omega)
theorem tz_leads {c c' : Nat → Int32} {t t' : Nat} (h : tz_eq c c' t t') : mz_leads c t = mz_leads c' t' ∧ mz_off c t = mz_off c' t' := by
  unfold mz_leads mz_off
  rw [tz_0 h, h 3 (by omega), h 1 (by omega)]
  exact ⟨rfl, rfl⟩
theorem tz_dc {c c' : Nat → Int32} {i t t' : Nat} (h : tz_eq c c' t t') : tz_eq (mz_dc c i t) (mz_dc c' i t') t t' := by
  obtain ⟨h1, h2⟩ := tz_leads h
  have h3 := mz_off_le (c := c') (k := t')
  intro r hr
  unfold mz_dc
  rw [h1, h2]
  by_cases q : mz_leads c' t' ≤ nI i
  · rw [if_pos q, if_pos q]; exact h r hr
  · rw [if_neg q, if_neg q]
    by_cases e : r = mz_off c' t'
    · subst e; rw [pk_us, pk_us, h _ (by omega)]
    · rw [pk_un (by omega), pk_un (by omega)]; exact h r hr
theorem tz_dec {i t : Nat} : ∀ (m k : Nat) (c : Nat → Int32), k ≤ t → t < k + m → tz_eq (mz_dec i m k c) (mz_dc c i t) t t
  | 0, k, c, h1, h2 => by omega
  | m + 1, k, c, h1, h2 => by
    by_cases q : t = k
    · subst q
      intro r hr
      exact mz_dec_o m (t + 1) _ _ (by omega)
    · intro r hr
      have h3 := tz_dec (i := i) (t := t) m (k + 1) (mz_dc c i k) (by omega) (by omega) r hr
      have h4 : tz_eq (mz_dc c i k) c t t := fun r hr => mz_dc_o (by omega)
      exact h3.trans (tz_dc h4 r hr)
/-- item t of what is left when item i is taken away: it was item t, or the next one -/
theorem tz_take {c : Nat → Int32} {n i t : Nat} (hi : i ≤ n) (ht : t < n) : ∃ s, tz_eq s c t (if t < i then t else t + 1) ∧ tz_eq (mz_take c n i) (mz_dc s i t) t t := by
  refine ⟨mz_shl (4 * n - 4 * i) (1600 + 4 * i) c, fun r hr => ?_, tz_dec n 0 _ (Nat.zero_le _) (by omega)⟩
  rw [mz_shl_at]
  by_cases q : t < i
  · rw [if_pos q, if_neg (by omega)]
  · rw [if_neg q, if_pos (by omega)]
    exact congrArg c (by omega)
theorem mz_take_o {c : Nat → Int32} {n i j : Nat} (h : j < 1600) : mz_take c n i j = c j := by
  unfold mz_take
  rw [mz_dec_o n 0 _ j (by omega), mz_shl_at, if_neg (by omega)]
/-- where an item leads to, behind -/
theorem tz_take_ld {c : Nat → Int32} {n i t : Nat} (hi : i ≤ n) (hn : n < 1000) (ht : t < n) : mz_leads (mz_take c n i) t = if mz_leads c (if t < i then t else t + 1) ≤ nI i then mz_leads c (if t < i then t else t + 1) else mz_leads c (if t < i then t else t + 1) - nI 1 := by
  obtain ⟨s, h1, h2⟩ := tz_take (c := c) hi ht
  generalize (if t < i then t else t + 1) = u at h1
  rw [(tz_leads h2).1, ← (tz_leads h1).1]
  unfold mz_dc
  by_cases q : mz_leads s t ≤ nI i
  · rw [if_pos q, if_pos q]
  · rw [if_neg q, if_neg q]
    have hj : s (1600 + 4 * t) = nI 7 ∨ s (1600 + 4 * t) = nI 8 := by
      apply Classical.byContradiction
      intro z
      rw [cz_ld_n z] at q
      exact q (cz_m1_le (by omega))
    rw [cz_ld_e hj]
    have hup : ∀ x, upd s (1600 + 4 * t + mz_off s t) x (1600 + 4 * t) = s (1600 + 4 * t) := fun x => by
      have : 1 ≤ mz_off s t := by unfold mz_off; split <;> omega
      exact pk_un (by omega)
    have hoff : mz_off (upd s (1600 + 4 * t + mz_off s t) (s (1600 + 4 * t + mz_off s t) - nI 1)) t = mz_off s t := by
      show (if _ = nI 7 then 3 else 1) = _
      rw [hup]
    rw [cz_ld_e (by rw [hup]; exact hj), hoff, pk_us]
/-- targets are items, or the end -/
def tz_ok (c : Nat → Int32) (n : Nat) : Prop := ∀ t, t < n → mz_leads c t = (-1) ∨ ∃ x, x ≤ n ∧ mz_leads c t = nI x
theorem tz_ok_take {c : Nat → Int32} {n i : Nat} (hn : n < 1000) (hi : i ≤ n) (h : tz_ok c (n + 1)) : tz_ok (mz_take c n i) n := by
  intro t ht
  rw [tz_take_ld hi hn ht]
  rcases h (if t < i then t else t + 1) (by split <;> omega) with e | ⟨x, hx, e⟩
  · rw [e, if_pos (cz_m1_le (by omega))]
    exact Or.inl rfl
  · rw [e]
    by_cases q : x ≤ i
    · rw [if_pos ((nI_leI (by omega) (by omega)).mpr q)]
      exact Or.inr ⟨x, by omega, rfl⟩
    · rw [if_neg (fun z => q ((nI_leI (by omega) (by omega)).mp z)), pk_sub (by omega)]
      exact Or.inr ⟨x - 1, by omega, rfl⟩
