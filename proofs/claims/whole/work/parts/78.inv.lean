/-! what holds between the calls of the law -/
def cz_M (nv ns : Nat) (I A : Nat → Nat → Int32) : Prop := I mM 0 = nI nv ∧ I mM 2 = nI ns ∧ A m_classes = A 2 ∧ A m_ops = A 5 ∧ A m_first = A 6 ∧ A m_second = A 7 ∧ A m_third = A 8 ∧ A m_registers = A 16 ∧ A m_memory = A 35 ∧ ∀ v, nv ≤ v → A m_homes v = 0
def cz_Rn (I A : Nat → Nat → Int32) : Prop := ∃ t, t ≤ 2000 ∧ I 36 4 = nI t ∧ I mM 19 = nI t ∧ I 36 5 = I mM 18 ∧ cz_eq 64 (A 39) (A m_left) ∧ cz_eq (min t 50) (A 40) (A m_said)
def cz_J (nv ns rd : Nat) (I A : Nat → Nat → Int32) : Prop := cz_K nv ns I A ∧ cz_M nv ns I A ∧ cz_Rn I A ∧ rd ≤ 4 ∧ I 0 11 = nI rd ∧ cz_L rd nv ns I A
def cz_Inv (I A : Nat → Nat → Int32) : Prop := ∃ nv ns rd, cz_J nv ns rd I A
theorem cz_M_sp {nv ns : Nat} {I A : Nat → Nat → Int32} (h : cz_M nv ns I A) : cz_sp nv A A := by
  obtain ⟨-, -, a1, a2, a3, a4, a5, a6, -, a8⟩ := h
  exact ⟨a2, a3, a4, a5, a1, a6, a8⟩
theorem cz_wf {nv ns : Nat} {I A : Nat → Nat → Int32} (hK : cz_K nv ns I A) (hM : cz_M nv ns I A) : mz_wf nv ns I A ∧ ∀ s, s < ns → mz_sw nv (A m_ops s) (A m_first s) (A m_second s) (A m_third s) := by
  obtain ⟨-, -, hnv, hns, hsw, hcl, hrg, -⟩ := hK
  obtain ⟨m1, m2, a1, a2, a3, a4, a5, a6, -, -⟩ := hM
  have hsw2 : ∀ s, s < ns → mz_sw nv (A m_ops s) (A m_first s) (A m_second s) (A m_third s) := by rw [a2, a3, a4, a5]; exact hsw
  have h8 : ∀ s, s < ns → A m_ops s = nI 8 → ¬ A m_first s < 0 := fun s hs e => mz_sw_8 (hsw2 s hs) e
  have h7 : ∀ s, s < ns → A m_ops s = nI 7 → ¬ A m_third s < 0 := fun s hs e => mz_sw_7 (hsw2 s hs) e
  exact ⟨⟨m1, hnv, m2, hns, h8, h7, fun s hs => mz_sw_anew (hsw2 s hs), fun s hs => mz_sw_tak0 (hsw2 s hs), fun s hs => mz_sw_tak1 (hsw2 s hs), by rw [a1]; exact hcl, by rw [a6]; exact hrg, mz_fends hns h8 h7⟩, hsw2⟩
/-- behind workOut -/
theorem cz_Wk_J {nv ns rd w : Nat} {I A I' A' : Nat → Nat → Int32} (h : cz_J nv ns rd I A) (hw : w ≤ 4) (hk : cz_Wk rd w nv ns I A I' A') : cz_J nv ns (max rd w) I' A' := by
  obtain ⟨-, ⟨m1, m2, a1, a2, a3, a4, a5, a6, a7, a8⟩, ⟨t, t1, t2, t3, t4, t5, t6⟩, h4, -, -⟩ := h
  obtain ⟨fI, fA, e, hK, hL⟩ := hk
  refine ⟨hK, ?_, ?_, by omega, e, hL⟩
  · unfold cz_M
    rw [fI mM 0 (by decide) (by decide) (by decide), fI mM 2 (by decide) (by decide) (by decide), fA m_classes (by decide), fA m_ops (by decide), fA m_first (by decide), fA m_second (by decide), fA m_third (by decide), fA m_registers (by decide), fA m_memory (by decide), fA m_homes (by decide), fA 2 (by decide), fA 5 (by decide), fA 6 (by decide), fA 7 (by decide), fA 8 (by decide), fA 16 (by decide), fA 35 (by decide)]
    exact ⟨m1, m2, a1, a2, a3, a4, a5, a6, a7, a8⟩
  · refine ⟨t, t1, ?_, ?_, ?_, ?_, ?_⟩
    · rw [fI 36 4 (by decide) (by decide) (by decide)]; exact t2
    · rw [fI mM 19 (by decide) (by decide) (by decide)]; exact t3
    · rw [fI 36 5 (by decide) (by decide) (by decide), fI mM 18 (by decide) (by decide) (by decide)]; exact t4
    · rw [fA 39 (by decide), fA m_left (by decide)]; exact t5
    · rw [fA 40 (by decide), fA m_said (by decide)]; exact t6
theorem cz_L_r {l nv ns : Nat} {I I2 A A2 : Nat → Nat → Int32} (hI : ∀ a j, ¬ a = mM → I2 a j = I a j) (hA : ∀ k, k ≤ 50 → A2 k = A k) (h : cz_L l nv ns I A) : cz_L l nv ns I2 A2 := by
  unfold cz_L cz_F1 cz_F2 cz_F3 cz_F4 cz_sp cz_v cz_tv at h ⊢
  rw [hA 2 (by omega), hA 5 (by omega), hA 6 (by omega), hA 7 (by omega), hA 8 (by omega), hA 13 (by omega), hA 14 (by omega), hA 16 (by omega), hA 17 (by omega), hA 18 (by omega), hA 20 (by omega), hA 26 (by omega), hA 27 (by omega), hA 28 (by omega), hA 29 (by omega), hA 31 (by omega), hA 32 (by omega), hA 33 (by omega), hA 34 (by omega), hI 25 4 (by decide), hI 30 4 (by decide)]
  exact h
theorem cz_K_r {nv ns : Nat} {I I2 A A2 : Nat → Nat → Int32} (hI : ∀ a j, ¬ a = mM → I2 a j = I a j) (hA : ∀ k, k ≤ 50 → A2 k = A k) (h : cz_K nv ns I A) : cz_K nv ns I2 A2 := by
  unfold cz_K at h ⊢
  rw [hA 2 (by omega), hA 3 (by omega), hA 5 (by omega), hA 6 (by omega), hA 7 (by omega), hA 8 (by omega), hA 9 (by omega), hA 10 (by omega), hA 11 (by omega), hA 16 (by omega), hA 20 (by omega), hI 1 6 (by decide), hI 4 4 (by decide)]
  exact h
/-- what a question may change of the reference -/
def mz_fr (nv : Nat) (I A I2 A2 : Nat → Nat → Int32) : Prop := (∀ a j, ¬ a = mM → I2 a j = I a j) ∧ (∀ k, k ≤ 50 → A2 k = A k) ∧ I2 mM 0 = I mM 0 ∧ I2 mM 2 = I mM 2 ∧ I2 mM 18 = I mM 18 ∧ I2 mM 19 = I mM 19 ∧ A2 m_classes = A m_classes ∧ A2 m_ops = A m_ops ∧ A2 m_first = A m_first ∧ A2 m_second = A m_second ∧ A2 m_third = A m_third ∧ A2 m_registers = A m_registers ∧ A2 m_memory = A m_memory ∧ A2 m_left = A m_left ∧ A2 m_said = A m_said ∧ ∀ v, nv ≤ v → A2 m_homes v = A m_homes v
theorem mz_fr_J {nv ns rd : Nat} {I A I2 A2 : Nat → Nat → Int32} (h : cz_J nv ns rd I A) (f : mz_fr nv I A I2 A2) : cz_J nv ns rd I2 A2 := by
  obtain ⟨hK, ⟨m1, m2, a1, a2, a3, a4, a5, a6, a7, a8⟩, ⟨t, t1, t2, t3, t4, t5, t6⟩, h4, e, hL⟩ := h
  obtain ⟨hI, hA, i0, i2, i18, i19, c1, c2, c3, c4, c5, c6, c7, c8, c9, c10⟩ := f
  refine ⟨cz_K_r hI hA hK, ?_, ?_, h4, by rw [hI 0 11 (by decide)]; exact e, cz_L_r hI hA hL⟩
  · unfold cz_M
    rw [i0, i2, c1, c2, c3, c4, c5, c6, c7, hA 2 (by omega), hA 5 (by omega), hA 6 (by omega), hA 7 (by omega), hA 8 (by omega), hA 16 (by omega), hA 35 (by omega)]
    exact ⟨m1, m2, a1, a2, a3, a4, a5, a6, a7, fun v hv => by rw [c10 v hv]; exact a8 v hv⟩
  · refine ⟨t, t1, by rw [hI 36 4 (by decide)]; exact t2, by rw [i19]; exact t3, by rw [hI 36 5 (by decide), i18]; exact t4, by rw [hA 39 (by omega), c8]; exact t5, by rw [hA 40 (by omega), c9]; exact t6⟩
theorem mz_fr_r {nv : Nat} {I A : Nat → Nat → Int32} : mz_fr nv I A I A := ⟨fun _ _ _ => rfl, fun _ _ => rfl, rfl, rfl, rfl, rfl, rfl, rfl, rfl, rfl, rfl, rfl, rfl, rfl, rfl, fun _ _ => rfl⟩
theorem mz_lo_u {A A' : Nat → Nat → Int32} {b : Nat} {g : Nat → Int32} (h : ∀ k, k ≤ 50 → A' k = A k) (hb : 50 < b) : ∀ k, k ≤ 50 → upA A' b g k = A k := fun k hk => by
  rw [upA_n (show k ≠ b by omega)]
  exact h k hk
theorem mz_stl_fr {nv ns : Nat} {I A A2 : Nat → Nat → Int32} (h : mz_stl nv ns A A2) : mz_fr nv I A I A2 := by
  have ho := mz_stl_o h
  obtain ⟨k, hm, -, -, rfl⟩ := h
  exact ⟨fun _ _ _ => rfl, mz_lo_u (mz_lo_u (mz_lo_u (mz_lo_u (mz_lo_u (mz_lo_u (fun _ _ => rfl) (by decide)) (by decide)) (by decide)) (by decide)) (by decide)) (by decide), rfl, rfl, rfl, rfl, rfl, rfl, rfl, rfl, rfl, rfl, rfl, rfl, rfl, ho⟩
theorem mz_made_fr {nv ns : Nat} {I A I2 A2 : Nat → Nat → Int32} (h : mz_made nv ns I A I2 A2) : mz_fr nv I A I2 A2 := by
  obtain ⟨A1, z, fe, it, c, n, f, c', n', hst, -, -, -, rfl, rfl⟩ := h
  obtain ⟨-, hlo, -, -, -, -, e1, e2, e3, e4, e5, e6, e7, e8, e9, e10⟩ := mz_stl_fr (I := I) hst
  refine ⟨fun a j ha => upI_n (Or.inl ha), ?_, rfl, rfl, rfl, rfl, e1, e2, e3, e4, e5, e6, e7, e8, e9, e10⟩
  unfold mz_FA
  exact mz_lo_u (mz_lo_u (mz_lo_u (mz_lo_u (mz_lo_u (mz_lo_u (mz_lo_u hlo (by decide)) (by decide)) (by decide)) (by decide)) (by decide)) (by decide)) (by decide)
/-- the reference's items are well formed -/
theorem mz_made_i2 {nv ns : Nat} {I A I2 A2 : Nat → Nat → Int32} (hnv : nv ≤ 24) (hns : ns ≤ 60) (hsw : ∀ s, s < ns → mz_sw nv (A m_ops s) (A m_first s) (A m_second s) (A m_third s)) (hcl : ∀ v, v < nv → ∃ cc, cc < 2 ∧ A m_classes v = nI cc) (h : mz_made nv ns I A I2 A2) : ∃ A1 fe it c n f n', mz_stl nv ns A A1 ∧ mz_cds (A m_ops) (A m_first) (A m_second) (A m_third) (A m_classes) (A1 m_homes) ns 0 fe it (A1 m_code) 0 (A1 m_firstItem) c n f ∧ n ≤ 240 ∧ n' ≤ n ∧ A2 m_items 0 = nI n ∧ A2 m_items 1 = nI n' ∧ (∀ j, j < 4 * n → A2 m_code j = mz_rts ns n f n 0 c j) ∧ mz_tids n (mz_cp (4 * n) 0 (mz_rts ns n f n 0 c)) (A2 m_code) n' ∧ (∀ i, i < n → mz_i2 (A2 m_code) 0 i) ∧ ∀ i, i < n' → mz_i2 (A2 m_code) 1600 i := by
  obtain ⟨A1, z, fe, it, c, n, f, c', n', hst, hcds, hn4, ht, -, rfl⟩ := h
  have han : ∀ s, s < ns → mz_anew (A m_ops) (A m_first) s = (-1) ∨ ∃ a, a < nv ∧ mz_anew (A m_ops) (A m_first) s = nI a := fun s hs => mz_sw_anew (hsw s hs)
  obtain ⟨e1, e2, e3, e4, e5, -⟩ := mz_stl_k hst
  rw [e1, e2, e3, e4, e5] at hcds
  have hvok : mz_vok nv (A m_classes) (A1 m_homes) := fun v hv => ⟨hcl v hv, mz_stl_hg hnv hst v hv⟩
  obtain ⟨w1, w2⟩ := mz_cds_iw hvok hnv hsw ns 0 _ _ (A1 m_code) 0 (A1 m_firstItem) c n f (by omega) (by omega) (fun j hj => absurd hj (Nat.not_lt_zero _)) (fun j hj => absurd hj (Nat.not_lt_zero _)) hns hcds
  have w3 := mz_C24_cds hnv (mz_stl_h3 hnv han hst) hsw ns 0 _ _ (A1 m_code) 0 (A1 m_firstItem) c n f (by omega) (fun j hj => absurd hj (Nat.not_lt_zero _)) hcds
  have hok := mz_cds_ok hsw ns 0 _ _ (A1 m_code) 0 (A1 m_firstItem) c n f (by omega) (fun j hj => absurd hj (Nat.not_lt_zero _)) hcds
  have hi2 := mz_i2_rts hns (by omega) w2 hok (fun i hi => ⟨w1 i hi, w3 i hi⟩)
  have hcp : ∀ t, t < n → mz_i2 (mz_cp (4 * n) 0 (mz_rts ns n f n 0 c)) 1600 t := fun t h => mz_i2_c (hi2 t h) (fun r hr => by
    rw [mz_cp_at _ _ _ _ (by omega), if_pos (by omega)]
    exact congrArg _ (by omega))
  obtain ⟨k1, k2⟩ := mz_i2_tids n _ c' n' (by omega) hcp ht
  have hlow : ∀ j, j < 4 * n → c' j = mz_rts ns n f n 0 c j := fun j hj => by rw [k2 j (by omega), mz_cp_at _ _ _ _ (by omega), if_neg (by omega)]
  exact ⟨A1, _, _, c, n, f, n', hst, hcds, by omega, mz_tids_le _ _ _ _ ht, rfl, rfl, hlow, ht, fun i hi => mz_i2_c (hi2 i hi) (fun r hr => by show c' (0 + 4 * i + r) = _; exact hlow _ (by omega)), k1⟩
