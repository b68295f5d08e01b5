/-- a step as it was let in -/
def mz_sw (nv : Nat) (o a b c : Int32) : Prop := ∃ k, k ≤ 10 ∧ o = nI k ∧ (k ≤ 7 ∨ k = 9 → ∃ x, x < nv ∧ a = nI x) ∧ (1 ≤ k ∧ k ≤ 7 → ∃ x, x < nv ∧ b = nI x) ∧ (2 ≤ k ∧ k ≤ 4 → ∃ x, x < nv ∧ c = nI x) ∧ (k = 5 ∨ k = 6 → ∃ x, x < 64 ∧ c = nI x) ∧ (k = 7 → ∃ x, x ≤ 60 ∧ c = nI x) ∧ (k = 8 → ∃ x, x ≤ 60 ∧ a = nI x)
theorem mz_sw_anew {nv s : Nat} {op fa fb fc : Nat → Int32} (h : mz_sw nv (op s) (fa s) (fb s) (fc s)) : mz_anew op fa s = (-1) ∨ ∃ a, a < nv ∧ mz_anew op fa s = nI a := by
  obtain ⟨k, h1, h2, h3, -⟩ := h
  unfold mz_anew
  rw [h2]
  by_cases h : 6 ≤ k
  · rw [if_pos (nI_le h (by omega))]; exact Or.inl rfl
  · obtain ⟨x, h4, h5⟩ := h3 (Or.inl (by omega))
    rw [if_neg (nI_ge (by omega) (by omega)), h5]
    exact Or.inr ⟨x, h4, rfl⟩
theorem mz_sw_tak0 {nv s : Nat} {op fa fb fc : Nat → Int32} (h : mz_sw nv (op s) (fa s) (fb s) (fc s)) : mz_tak0 op fa fb s = (-1) ∨ ∃ a, a < nv ∧ mz_tak0 op fa fb s = nI a := by
  obtain ⟨k, h1, h2, h3, h4, -⟩ := h
  unfold mz_tak0
  rw [h2]
  split
  · rename_i q
    obtain ⟨x, h5, h6⟩ := h4 (by rcases q with q | q <;> (rw [nI_eq (by omega) (by omega)] at q; omega))
    exact Or.inr ⟨x, h5, h6⟩
  · split
    · rename_i q
      rw [nI_leI (by omega) (by omega), nI_leI (by omega) (by omega)] at q
      obtain ⟨x, h5, h6⟩ := h4 (by omega)
      exact Or.inr ⟨x, h5, h6⟩
    · split
      · rename_i q
        obtain ⟨x, h5, h6⟩ := h3 (by rcases q with q | q <;> (rw [nI_eq (by omega) (by omega)] at q; omega))
        exact Or.inr ⟨x, h5, h6⟩
      · split
        · rename_i q
          rw [nI_eq (by omega) (by omega)] at q
          obtain ⟨x, h5, h6⟩ := h3 (by omega)
          exact Or.inr ⟨x, h5, h6⟩
        · exact Or.inl rfl
theorem mz_sw_tak1 {nv s : Nat} {op fa fb fc : Nat → Int32} (h : mz_sw nv (op s) (fa s) (fb s) (fc s)) : mz_tak1 op fb fc s = (-1) ∨ ∃ a, a < nv ∧ mz_tak1 op fb fc s = nI a := by
  obtain ⟨k, h1, h2, h3, h4, h5, -⟩ := h
  unfold mz_tak1
  rw [h2]
  split
  · exact Or.inl rfl
  · split
    · rename_i q
      rw [nI_leI (by omega) (by omega), nI_leI (by omega) (by omega)] at q
      obtain ⟨x, h6, h7⟩ := h5 (by omega)
      exact Or.inr ⟨x, h6, h7⟩
    · split
      · rename_i q
        obtain ⟨x, h6, h7⟩ := h4 (by rcases q with q | q <;> (rw [nI_eq (by omega) (by omega)] at q; omega))
        exact Or.inr ⟨x, h6, h7⟩
      · exact Or.inl rfl
theorem mz_ft_le {cl hm : Nat → Int32} {v : Nat} {F : mz_FS} : (mz_ft cl hm v F).1 ≤ F.1 + 1 ∧ (mz_ft cl hm v F).2.2.2.2 ≤ F.2.2.2.2 + 1 := by
  unfold mz_ft
  split
  · exact ⟨by omega, by omega⟩
  · exact ⟨Nat.le_refl _, Nat.le_refl _⟩
theorem mz_f1_le {cl hm : Nat → Int32} {v : Int32} {F : mz_FS} : (mz_f1 cl hm v F).1 ≤ F.1 + 1 ∧ (mz_f1 cl hm v F).2.2.2.2 ≤ F.2.2.2.2 + 1 := by
  unfold mz_f1
  split
  · exact ⟨by omega, by omega⟩
  · split
    · exact ⟨by omega, by omega⟩
    · exact mz_ft_le
theorem mz_f2_le {op fa fb fc cl hm : Nat → Int32} {s : Nat} {F : mz_FS} : (mz_f2 op fa fb fc cl hm s F).1 ≤ F.1 + 2 ∧ (mz_f2 op fa fb fc cl hm s F).2.2.2.2 ≤ F.2.2.2.2 + 2 := by
  unfold mz_f2
  have h1 := mz_f1_le (cl := cl) (hm := hm) (v := mz_tak1 op fb fc s) (F := mz_f1 cl hm (mz_tak0 op fa fb s) F)
  have h2 := mz_f1_le (cl := cl) (hm := hm) (v := mz_tak0 op fa fb s) (F := F)
  omega
theorem mz_FA_2 {A : Nat → Nat → Int32} {g c : Nat → Int32} {F : mz_FS} {n : Nat} : upA (upA (mz_FA A g F) m_code c) m_items (upd g 0 (nI n)) = mz_FA A g (F.1, F.2.1, F.2.2.1, c, n) := by
  unfold mz_FA
  rw [upA_r2 (a := m_code) (b := m_items) (by decide), upA_u]
/-- x, y, z of a step's own item -/
def mz_xyz (cl hm fe it : Nat → Int32) (q k : Nat) (a b c : Int32) : Int32 × Int32 × Int32 := match k with
  | 0 => (mz_to cl hm a.toNatClampNeg, b, nI 0)
  | 1 => (mz_to cl hm a.toNatClampNeg, mz_from cl hm fe it q b.toNatClampNeg, nI 0)
  | 2 => (mz_to cl hm a.toNatClampNeg, mz_from cl hm fe it q b.toNatClampNeg, mz_from cl hm fe it q c.toNatClampNeg)
  | 3 => (mz_to cl hm a.toNatClampNeg, mz_from cl hm fe it q b.toNatClampNeg, mz_from cl hm fe it q c.toNatClampNeg)
  | 4 => (mz_to cl hm a.toNatClampNeg, mz_from cl hm fe it q b.toNatClampNeg, mz_from cl hm fe it q c.toNatClampNeg)
  | 5 => (mz_to cl hm a.toNatClampNeg, mz_from cl hm fe it q b.toNatClampNeg, c)
  | 6 => (mz_from cl hm fe it q a.toNatClampNeg, mz_from cl hm fe it q b.toNatClampNeg, c)
  | 7 => (mz_from cl hm fe it q a.toNatClampNeg, mz_from cl hm fe it q b.toNatClampNeg, c)
  | 8 => (a, nI 0, nI 0)
  | 9 => (mz_from cl hm fe it q a.toNatClampNeg, nI 0, nI 0)
  | _ => (nI 0, nI 0, nI 0)
def mz_ndl (op fa fb cl hm : Nat → Int32) (s : Nat) : Prop := op s = nI 1 ∧ cl (fa s).toNatClampNeg = cl (fb s).toNatClampNeg ∧ hm (fa s).toNatClampNeg = hm (fb s).toNatClampNeg
/-- the items of a step that makes some: the code and how many items there are then -/
def mz_mkN (op fa fb fc cl hm : Nat → Int32) (s : Nat) (F : mz_FS) : (Nat → Int32) × Nat := mz_kp cl hm (mz_anew op fa s) (mz_lay F.2.2.2.1 F.2.2.2.2 (op s) (mz_xyz cl hm F.2.1 F.2.2.1 F.1 (op s).toNatClampNeg (fa s) (fb s) (fc s)).1 (mz_xyz cl hm F.2.1 F.2.2.1 F.1 (op s).toNatClampNeg (fa s) (fb s) (fc s)).2.1 (mz_xyz cl hm F.2.1 F.2.2.1 F.1 (op s).toNatClampNeg (fa s) (fb s) (fc s)).2.2) (F.2.2.2.2 + 1)
noncomputable def mz_mk (op fa fb fc cl hm : Nat → Int32) (s : Nat) (fe it c : Nat → Int32) (n : Nat) : (Nat → Int32) × Nat := @ite _ (mz_ndl op fa fb cl hm s) (Classical.propDecidable _) (c, n) (mz_mkN op fa fb fc cl hm s (mz_f2 op fa fb fc cl hm s (0, fe, it, c, n)))
theorem mz_mk_t {op fa fb fc cl hm fe it c : Nat → Int32} {s n : Nat} (h : mz_ndl op fa fb cl hm s) : mz_mk op fa fb fc cl hm s fe it c n = (c, n) := if_pos h
theorem mz_mk_f {op fa fb fc cl hm fe it c : Nat → Int32} {s n : Nat} (h : ¬ mz_ndl op fa fb cl hm s) : mz_mk op fa fb fc cl hm s fe it c n = mz_mkN op fa fb fc cl hm s (mz_f2 op fa fb fc cl hm s (0, fe, it, c, n)) := if_neg h
theorem mz_mkN_0 {op fa fb fc cl hm : Nat → Int32} {s a : Nat} {F : mz_FS} (ek : op s = nI 0) (ha : a < 2 ^ 31) (ea : fa s = nI a) : mz_mkN op fa fb fc cl hm s F = mz_kp cl hm (mz_anew op fa s) (mz_lay F.2.2.2.1 F.2.2.2.2 (nI 0) (mz_to cl hm a) (fb s) (nI 0)) (F.2.2.2.2 + 1) := by
  unfold mz_mkN
  rw [ek, nI_clamp (show 0 < 2 ^ 31 by omega)]
  dsimp only [mz_xyz]
  rw [ea, nI_clamp ha]
  rfl
theorem mz_mkN_1 {op fa fb fc cl hm : Nat → Int32} {s a b : Nat} {F : mz_FS} (ek : op s = nI 1) (ha : a < 2 ^ 31) (ea : fa s = nI a) (hb : b < 2 ^ 31) (eb : fb s = nI b) : mz_mkN op fa fb fc cl hm s F = mz_kp cl hm (mz_anew op fa s) (mz_lay F.2.2.2.1 F.2.2.2.2 (nI 1) (mz_to cl hm a) (mz_from cl hm F.2.1 F.2.2.1 F.1 b) (nI 0)) (F.2.2.2.2 + 1) := by
  unfold mz_mkN
  rw [ek, nI_clamp (show 1 < 2 ^ 31 by omega)]
  dsimp only [mz_xyz]
  rw [ea, eb, nI_clamp ha, nI_clamp hb]
  rfl
theorem mz_mkN_2 {op fa fb fc cl hm : Nat → Int32} {s a b c : Nat} {F : mz_FS} (ek : op s = nI 2) (ha : a < 2 ^ 31) (ea : fa s = nI a) (hb : b < 2 ^ 31) (eb : fb s = nI b) (hc : c < 2 ^ 31) (ec : fc s = nI c) : mz_mkN op fa fb fc cl hm s F = mz_kp cl hm (mz_anew op fa s) (mz_lay F.2.2.2.1 F.2.2.2.2 (nI 2) (mz_to cl hm a) (mz_from cl hm F.2.1 F.2.2.1 F.1 b) (mz_from cl hm F.2.1 F.2.2.1 F.1 c)) (F.2.2.2.2 + 1) := by
  unfold mz_mkN
  rw [ek, nI_clamp (show 2 < 2 ^ 31 by omega)]
  dsimp only [mz_xyz]
  rw [ea, eb, ec, nI_clamp ha, nI_clamp hb, nI_clamp hc]
  rfl
theorem mz_mkN_3 {op fa fb fc cl hm : Nat → Int32} {s a b c : Nat} {F : mz_FS} (ek : op s = nI 3) (ha : a < 2 ^ 31) (ea : fa s = nI a) (hb : b < 2 ^ 31) (eb : fb s = nI b) (hc : c < 2 ^ 31) (ec : fc s = nI c) : mz_mkN op fa fb fc cl hm s F = mz_kp cl hm (mz_anew op fa s) (mz_lay F.2.2.2.1 F.2.2.2.2 (nI 3) (mz_to cl hm a) (mz_from cl hm F.2.1 F.2.2.1 F.1 b) (mz_from cl hm F.2.1 F.2.2.1 F.1 c)) (F.2.2.2.2 + 1) := by
  unfold mz_mkN
  rw [ek, nI_clamp (show 3 < 2 ^ 31 by omega)]
  dsimp only [mz_xyz]
  rw [ea, eb, ec, nI_clamp ha, nI_clamp hb, nI_clamp hc]
  rfl
theorem mz_mkN_4 {op fa fb fc cl hm : Nat → Int32} {s a b c : Nat} {F : mz_FS} (ek : op s = nI 4) (ha : a < 2 ^ 31) (ea : fa s = nI a) (hb : b < 2 ^ 31) (eb : fb s = nI b) (hc : c < 2 ^ 31) (ec : fc s = nI c) : mz_mkN op fa fb fc cl hm s F = mz_kp cl hm (mz_anew op fa s) (mz_lay F.2.2.2.1 F.2.2.2.2 (nI 4) (mz_to cl hm a) (mz_from cl hm F.2.1 F.2.2.1 F.1 b) (mz_from cl hm F.2.1 F.2.2.1 F.1 c)) (F.2.2.2.2 + 1) := by
  unfold mz_mkN
  rw [ek, nI_clamp (show 4 < 2 ^ 31 by omega)]
  dsimp only [mz_xyz]
  rw [ea, eb, ec, nI_clamp ha, nI_clamp hb, nI_clamp hc]
  rfl
theorem mz_mkN_5 {op fa fb fc cl hm : Nat → Int32} {s a b : Nat} {F : mz_FS} (ek : op s = nI 5) (ha : a < 2 ^ 31) (ea : fa s = nI a) (hb : b < 2 ^ 31) (eb : fb s = nI b) : mz_mkN op fa fb fc cl hm s F = mz_kp cl hm (mz_anew op fa s) (mz_lay F.2.2.2.1 F.2.2.2.2 (nI 5) (mz_to cl hm a) (mz_from cl hm F.2.1 F.2.2.1 F.1 b) (fc s)) (F.2.2.2.2 + 1) := by
  unfold mz_mkN
  rw [ek, nI_clamp (show 5 < 2 ^ 31 by omega)]
  dsimp only [mz_xyz]
  rw [ea, eb, nI_clamp ha, nI_clamp hb]
  rfl
theorem mz_mkN_6 {op fa fb fc cl hm : Nat → Int32} {s a b : Nat} {F : mz_FS} (ek : op s = nI 6) (ha : a < 2 ^ 31) (ea : fa s = nI a) (hb : b < 2 ^ 31) (eb : fb s = nI b) : mz_mkN op fa fb fc cl hm s F = mz_kp cl hm (mz_anew op fa s) (mz_lay F.2.2.2.1 F.2.2.2.2 (nI 6) (mz_from cl hm F.2.1 F.2.2.1 F.1 a) (mz_from cl hm F.2.1 F.2.2.1 F.1 b) (fc s)) (F.2.2.2.2 + 1) := by
  unfold mz_mkN
  rw [ek, nI_clamp (show 6 < 2 ^ 31 by omega)]
  dsimp only [mz_xyz]
  rw [ea, eb, nI_clamp ha, nI_clamp hb]
  rfl
theorem mz_mkN_7 {op fa fb fc cl hm : Nat → Int32} {s a b : Nat} {F : mz_FS} (ek : op s = nI 7) (ha : a < 2 ^ 31) (ea : fa s = nI a) (hb : b < 2 ^ 31) (eb : fb s = nI b) : mz_mkN op fa fb fc cl hm s F = mz_kp cl hm (mz_anew op fa s) (mz_lay F.2.2.2.1 F.2.2.2.2 (nI 7) (mz_from cl hm F.2.1 F.2.2.1 F.1 a) (mz_from cl hm F.2.1 F.2.2.1 F.1 b) (fc s)) (F.2.2.2.2 + 1) := by
  unfold mz_mkN
  rw [ek, nI_clamp (show 7 < 2 ^ 31 by omega)]
  dsimp only [mz_xyz]
  rw [ea, eb, nI_clamp ha, nI_clamp hb]
  rfl
theorem mz_mkN_8 {op fa fb fc cl hm : Nat → Int32} {s : Nat} {F : mz_FS} (ek : op s = nI 8) : mz_mkN op fa fb fc cl hm s F = mz_kp cl hm (mz_anew op fa s) (mz_lay F.2.2.2.1 F.2.2.2.2 (nI 8) (fa s) (nI 0) (nI 0)) (F.2.2.2.2 + 1) := by
  unfold mz_mkN
  rw [ek, nI_clamp (show 8 < 2 ^ 31 by omega)]
  rfl
theorem mz_mkN_9 {op fa fb fc cl hm : Nat → Int32} {s a : Nat} {F : mz_FS} (ek : op s = nI 9) (ha : a < 2 ^ 31) (ea : fa s = nI a) : mz_mkN op fa fb fc cl hm s F = mz_kp cl hm (mz_anew op fa s) (mz_lay F.2.2.2.1 F.2.2.2.2 (nI 9) (mz_from cl hm F.2.1 F.2.2.1 F.1 a) (nI 0) (nI 0)) (F.2.2.2.2 + 1) := by
  unfold mz_mkN
  rw [ek, nI_clamp (show 9 < 2 ^ 31 by omega)]
  dsimp only [mz_xyz]
  rw [ea, nI_clamp ha]
  rfl
theorem mz_mkN_10 {op fa fb fc cl hm : Nat → Int32} {s : Nat} {F : mz_FS} (ek : op s = nI 10) : mz_mkN op fa fb fc cl hm s F = mz_kp cl hm (mz_anew op fa s) (mz_lay F.2.2.2.1 F.2.2.2.2 (nI 10) (nI 0) (nI 0) (nI 0)) (F.2.2.2.2 + 1) := by
  unfold mz_mkN
  rw [ek, nI_clamp (show 10 < 2 ^ 31 by omega)]
  rfl
set_option maxRecDepth 100000 in
set_option maxHeartbeats 4000000 in
theorem md_makeStep0 {G : am_G} (I A : Nat → Nat → Int32) (nv : Nat) (hnv : nv ≤ 24) (s : Nat) (hs : s < 60) (hsw : mz_sw nv (A m_ops s) (A m_first s) (A m_second s) (A m_third s)) (g : Nat → Int32) (n : Nat) (hg : A m_items = upd g 0 (nI n)) (hn : n < 390) (ek : A m_ops s = nI 0) (a : Nat) (ha : a < nv) (ea : A m_first s = nI a) : Cm G MX8_makeStep 2 48 [.ref mM, .int (nI s)] I A (fun r I' A' => r = none ∧ ∃ (z : Int32) (fe it : Nat → Int32), upI I mM 25 z = I' ∧ mz_FA A g (0, fe, it, (mz_mk (A m_ops) (A m_first) (A m_second) (A m_third) (A m_classes) (A m_homes) s (A m_fetches) (A m_into) (A m_code) n).1, (mz_mk (A m_ops) (A m_first) (A m_second) (A m_third) (A m_classes) (A m_homes) s (A m_fetches) (A m_into) (A m_code) n).2) = A') := by
  refine Cm.of (by decide) (Nat.le_of_ble_eq_true rfl) rfl ?_
  show V G MX8_makeStep (am_R 2 48 0 0) _ 0 0 0 [(0, .ref mM), (1, .int (nI s))] [] (hp I A)
  refine V.aload_n (j := 0) rfl dX8_makeStep_0 ?_
  refine V.getr (q := m_ops) dX8_makeStep_1 fX8_13 rfl rfl ?_
  refine V.iload_n (j := 1) rfl dX8_makeStep_4 ?_
  refine V.lda (v := nI 0) dX8_makeStep_5 rfl (by omega) (by decide) ek ?_
  refine V.istore_n (ls' := [(0, .ref mM), (1, .int (nI s)), (2, .int (nI 0))]) dX8_makeStep_6 (by decide) rfl ?_
  refine V.aload_n (j := 0) rfl dX8_makeStep_7 ?_
  refine V.getr (q := m_first) dX8_makeStep_8 fX8_16 rfl rfl ?_
  refine V.iload_n (j := 1) rfl dX8_makeStep_11 ?_
  refine V.lda (v := nI a) dX8_makeStep_12 rfl (by omega) (by decide) ea ?_
  refine V.istore_n (ls' := [(0, .ref mM), (1, .int (nI s)), (2, .int (nI 0)), (3, .int (nI a))]) dX8_makeStep_13 (by decide) rfl ?_
  refine V.aload_n (j := 0) rfl dX8_makeStep_14 ?_
  refine V.getr (q := m_second) dX8_makeStep_15 fX8_19 rfl rfl ?_
  refine V.iload_n (j := 1) rfl dX8_makeStep_18 ?_
  refine V.lda (v := A m_second s) dX8_makeStep_19 rfl (by omega) (by decide) rfl ?_
  refine V.istore (ls' := [(0, .ref mM), (1, .int (nI s)), (2, .int (nI 0)), (3, .int (nI a)), (4, .int (A m_second s))]) dX8_makeStep_20 (by decide) rfl ?_
  refine V.aload_n (j := 0) rfl dX8_makeStep_22 ?_
  refine V.getr (q := m_third) dX8_makeStep_23 fX8_22 rfl rfl ?_
  refine V.iload_n (j := 1) rfl dX8_makeStep_26 ?_
  refine V.lda (v := A m_third s) dX8_makeStep_27 rfl (by omega) (by decide) rfl ?_
  refine V.istore (ls' := [(0, .ref mM), (1, .int (nI s)), (2, .int (nI 0)), (3, .int (nI a)), (4, .int (A m_second s)), (5, .int (A m_third s))]) dX8_makeStep_28 (by decide) rfl ?_
  refine V.iload_n (j := 2) rfl dX8_makeStep_30 ?_
  refine V.iconst (v := nI 1) (by decide) dX8_makeStep_31 ?_
  refine V.icmp_ne (tgt := 68) dX8_makeStep_32 (by decide) (fun _ => ?_) (fun z => absurd z (by decide))
  have hno : ¬ mz_ndl (A m_ops) (A m_first) (A m_second) (A m_classes) (A m_homes) s := fun z => by have z1 := z.1; rw [ek, nI_eq (by omega) (by omega)] at z1; omega
  have hle := mz_f2_le (op := A m_ops) (fa := A m_first) (fb := A m_second) (fc := A m_third) (cl := A m_classes) (hm := A m_homes) (s := s) (F := (0, A m_fetches, A m_into, A m_code, n))
  dsimp only at hle
  refine ml_step1 I A nv hnv s hs _ _ _ _ (mz_sw_tak0 hsw) (mz_sw_tak1 hsw) g n hg (by omega) ?_
  refine ml_step2_0 (upI I mM 25 (nI (mz_f2 (A m_ops) (A m_first) (A m_second) (A m_third) (A m_classes) (A m_homes) s (0, A m_fetches, A m_into, A m_code, n)).1)) (mz_FA A g (mz_f2 (A m_ops) (A m_first) (A m_second) (A m_third) (A m_classes) (A m_homes) s (0, A m_fetches, A m_into, A m_code, n))) s (mz_f2 (A m_ops) (A m_first) (A m_second) (A m_third) (A m_classes) (A m_homes) s (0, A m_fetches, A m_into, A m_code, n)).1 (by omega) upI_s a (by omega) (A m_second s) (A m_third s) g (mz_f2 (A m_ops) (A m_first) (A m_second) (A m_third) (A m_classes) (A m_homes) s (0, A m_fetches, A m_into, A m_code, n)).2.2.2.2 rfl (by omega) ?_
  refine ml_step3 _ _ nv hnv s hs (mz_sw_anew (fb := A m_second) (fc := A m_third) hsw) g ((mz_f2 (A m_ops) (A m_first) (A m_second) (A m_third) (A m_classes) (A m_homes) s (0, A m_fetches, A m_into, A m_code, n)).2.2.2.2 + 1) rfl (by omega) ?_
  refine V.rv dX8_makeStep_361 rfl ?_
  refine ⟨rfl, _, (mz_f2 (A m_ops) (A m_first) (A m_second) (A m_third) (A m_classes) (A m_homes) s (0, A m_fetches, A m_into, A m_code, n)).2.1, (mz_f2 (A m_ops) (A m_first) (A m_second) (A m_third) (A m_classes) (A m_homes) s (0, A m_fetches, A m_into, A m_code, n)).2.2.1, rfl, ?_⟩
  rw [mz_FA_2, mz_FA_2, mz_mk_f hno]
  rw [mz_mkN_0 ek (show a < 2 ^ 31 by omega) ea]
  rfl
set_option maxRecDepth 100000 in
set_option maxHeartbeats 4000000 in
theorem md_makeStep1 {G : am_G} (I A : Nat → Nat → Int32) (nv : Nat) (hnv : nv ≤ 24) (s : Nat) (hs : s < 60) (hsw : mz_sw nv (A m_ops s) (A m_first s) (A m_second s) (A m_third s)) (g : Nat → Int32) (n : Nat) (hg : A m_items = upd g 0 (nI n)) (hn : n < 390) (ek : A m_ops s = nI 1) (a : Nat) (ha : a < nv) (ea : A m_first s = nI a) (b : Nat) (hb : b < nv) (eb : A m_second s = nI b) : Cm G MX8_makeStep 2 48 [.ref mM, .int (nI s)] I A (fun r I' A' => r = none ∧ ∃ (z : Int32) (fe it : Nat → Int32), upI I mM 25 z = I' ∧ mz_FA A g (0, fe, it, (mz_mk (A m_ops) (A m_first) (A m_second) (A m_third) (A m_classes) (A m_homes) s (A m_fetches) (A m_into) (A m_code) n).1, (mz_mk (A m_ops) (A m_first) (A m_second) (A m_third) (A m_classes) (A m_homes) s (A m_fetches) (A m_into) (A m_code) n).2) = A') := by
  refine Cm.of (by decide) (Nat.le_of_ble_eq_true rfl) rfl ?_
  show V G MX8_makeStep (am_R 2 48 0 0) _ 0 0 0 [(0, .ref mM), (1, .int (nI s))] [] (hp I A)
  refine V.aload_n (j := 0) rfl dX8_makeStep_0 ?_
  refine V.getr (q := m_ops) dX8_makeStep_1 fX8_13 rfl rfl ?_
  refine V.iload_n (j := 1) rfl dX8_makeStep_4 ?_
  refine V.lda (v := nI 1) dX8_makeStep_5 rfl (by omega) (by decide) ek ?_
  refine V.istore_n (ls' := [(0, .ref mM), (1, .int (nI s)), (2, .int (nI 1))]) dX8_makeStep_6 (by decide) rfl ?_
  refine V.aload_n (j := 0) rfl dX8_makeStep_7 ?_
  refine V.getr (q := m_first) dX8_makeStep_8 fX8_16 rfl rfl ?_
  refine V.iload_n (j := 1) rfl dX8_makeStep_11 ?_
  refine V.lda (v := nI a) dX8_makeStep_12 rfl (by omega) (by decide) ea ?_
  refine V.istore_n (ls' := [(0, .ref mM), (1, .int (nI s)), (2, .int (nI 1)), (3, .int (nI a))]) dX8_makeStep_13 (by decide) rfl ?_
  refine V.aload_n (j := 0) rfl dX8_makeStep_14 ?_
  refine V.getr (q := m_second) dX8_makeStep_15 fX8_19 rfl rfl ?_
  refine V.iload_n (j := 1) rfl dX8_makeStep_18 ?_
  refine V.lda (v := nI b) dX8_makeStep_19 rfl (by omega) (by decide) eb ?_
  refine V.istore (ls' := [(0, .ref mM), (1, .int (nI s)), (2, .int (nI 1)), (3, .int (nI a)), (4, .int (nI b))]) dX8_makeStep_20 (by decide) rfl ?_
  refine V.aload_n (j := 0) rfl dX8_makeStep_22 ?_
  refine V.getr (q := m_third) dX8_makeStep_23 fX8_22 rfl rfl ?_
  refine V.iload_n (j := 1) rfl dX8_makeStep_26 ?_
  refine V.lda (v := A m_third s) dX8_makeStep_27 rfl (by omega) (by decide) rfl ?_
  refine V.istore (ls' := [(0, .ref mM), (1, .int (nI s)), (2, .int (nI 1)), (3, .int (nI a)), (4, .int (nI b)), (5, .int (A m_third s))]) dX8_makeStep_28 (by decide) rfl ?_
  refine V.iload_n (j := 2) rfl dX8_makeStep_30 ?_
  refine V.iconst (v := nI 1) (by decide) dX8_makeStep_31 ?_
  refine V.icmp_ne (tgt := 68) dX8_makeStep_32 (by decide) (fun z => absurd z (by decide)) (fun _ => ?_)
  refine V.aload_n (j := 0) rfl dX8_makeStep_35 ?_
  refine V.getr (q := m_classes) dX8_makeStep_36 fX8_7 rfl rfl ?_
  refine V.iload_n (j := 3) rfl dX8_makeStep_39 ?_
  refine V.lda (v := A m_classes a) dX8_makeStep_40 rfl (by omega) (by decide) rfl ?_
  refine V.aload_n (j := 0) rfl dX8_makeStep_41 ?_
  refine V.getr (q := m_classes) dX8_makeStep_42 fX8_7 rfl rfl ?_
  refine V.iload (j := 4) rfl dX8_makeStep_45 ?_
  refine V.lda (v := A m_classes b) dX8_makeStep_47 rfl (by omega) (by decide) rfl ?_
  refine V.icmp_ne (tgt := 68) dX8_makeStep_48 (by decide) (fun c2 => ?_) (fun c2 => ?_)
  · have hno : ¬ mz_ndl (A m_ops) (A m_first) (A m_second) (A m_classes) (A m_homes) s := fun z => c2 (by have z2 := z.2.1; rw [ea, eb, nI_clamp (by omega), nI_clamp (by omega)] at z2; exact z2)
    have hle := mz_f2_le (op := A m_ops) (fa := A m_first) (fb := A m_second) (fc := A m_third) (cl := A m_classes) (hm := A m_homes) (s := s) (F := (0, A m_fetches, A m_into, A m_code, n))
    dsimp only at hle
    refine ml_step1 I A nv hnv s hs _ _ _ _ (mz_sw_tak0 hsw) (mz_sw_tak1 hsw) g n hg (by omega) ?_
    refine ml_step2_1 (upI I mM 25 (nI (mz_f2 (A m_ops) (A m_first) (A m_second) (A m_third) (A m_classes) (A m_homes) s (0, A m_fetches, A m_into, A m_code, n)).1)) (mz_FA A g (mz_f2 (A m_ops) (A m_first) (A m_second) (A m_third) (A m_classes) (A m_homes) s (0, A m_fetches, A m_into, A m_code, n))) s (mz_f2 (A m_ops) (A m_first) (A m_second) (A m_third) (A m_classes) (A m_homes) s (0, A m_fetches, A m_into, A m_code, n)).1 (by omega) upI_s a (by omega) b (by omega) (A m_third s) g (mz_f2 (A m_ops) (A m_first) (A m_second) (A m_third) (A m_classes) (A m_homes) s (0, A m_fetches, A m_into, A m_code, n)).2.2.2.2 rfl (by omega) ?_
    refine ml_step3 _ _ nv hnv s hs (mz_sw_anew (fb := A m_second) (fc := A m_third) hsw) g ((mz_f2 (A m_ops) (A m_first) (A m_second) (A m_third) (A m_classes) (A m_homes) s (0, A m_fetches, A m_into, A m_code, n)).2.2.2.2 + 1) rfl (by omega) ?_
    refine V.rv dX8_makeStep_361 rfl ?_
    refine ⟨rfl, _, (mz_f2 (A m_ops) (A m_first) (A m_second) (A m_third) (A m_classes) (A m_homes) s (0, A m_fetches, A m_into, A m_code, n)).2.1, (mz_f2 (A m_ops) (A m_first) (A m_second) (A m_third) (A m_classes) (A m_homes) s (0, A m_fetches, A m_into, A m_code, n)).2.2.1, rfl, ?_⟩
    rw [mz_FA_2, mz_FA_2, mz_mk_f hno]
    rw [mz_mkN_1 ek (show a < 2 ^ 31 by omega) ea (show b < 2 ^ 31 by omega) eb]
    rfl
  · refine V.aload_n (j := 0) rfl dX8_makeStep_51 ?_
    refine V.getr (q := m_homes) dX8_makeStep_52 fX8_46 rfl rfl ?_
    refine V.iload_n (j := 3) rfl dX8_makeStep_55 ?_
    refine V.lda (v := A m_homes a) dX8_makeStep_56 rfl (by omega) (by decide) rfl ?_
    refine V.aload_n (j := 0) rfl dX8_makeStep_57 ?_
    refine V.getr (q := m_homes) dX8_makeStep_58 fX8_46 rfl rfl ?_
    refine V.iload (j := 4) rfl dX8_makeStep_61 ?_
    refine V.lda (v := A m_homes b) dX8_makeStep_63 rfl (by omega) (by decide) rfl ?_
    refine V.icmp_ne (tgt := 68) dX8_makeStep_64 (by decide) (fun c3 => ?_) (fun c3 => ?_)
    · have hno : ¬ mz_ndl (A m_ops) (A m_first) (A m_second) (A m_classes) (A m_homes) s := fun z => c3 (by have z2 := z.2.2; rw [ea, eb, nI_clamp (by omega), nI_clamp (by omega)] at z2; exact z2)
      have hle := mz_f2_le (op := A m_ops) (fa := A m_first) (fb := A m_second) (fc := A m_third) (cl := A m_classes) (hm := A m_homes) (s := s) (F := (0, A m_fetches, A m_into, A m_code, n))
      dsimp only at hle
      refine ml_step1 I A nv hnv s hs _ _ _ _ (mz_sw_tak0 hsw) (mz_sw_tak1 hsw) g n hg (by omega) ?_
      refine ml_step2_1 (upI I mM 25 (nI (mz_f2 (A m_ops) (A m_first) (A m_second) (A m_third) (A m_classes) (A m_homes) s (0, A m_fetches, A m_into, A m_code, n)).1)) (mz_FA A g (mz_f2 (A m_ops) (A m_first) (A m_second) (A m_third) (A m_classes) (A m_homes) s (0, A m_fetches, A m_into, A m_code, n))) s (mz_f2 (A m_ops) (A m_first) (A m_second) (A m_third) (A m_classes) (A m_homes) s (0, A m_fetches, A m_into, A m_code, n)).1 (by omega) upI_s a (by omega) b (by omega) (A m_third s) g (mz_f2 (A m_ops) (A m_first) (A m_second) (A m_third) (A m_classes) (A m_homes) s (0, A m_fetches, A m_into, A m_code, n)).2.2.2.2 rfl (by omega) ?_
      refine ml_step3 _ _ nv hnv s hs (mz_sw_anew (fb := A m_second) (fc := A m_third) hsw) g ((mz_f2 (A m_ops) (A m_first) (A m_second) (A m_third) (A m_classes) (A m_homes) s (0, A m_fetches, A m_into, A m_code, n)).2.2.2.2 + 1) rfl (by omega) ?_
      refine V.rv dX8_makeStep_361 rfl ?_
      refine ⟨rfl, _, (mz_f2 (A m_ops) (A m_first) (A m_second) (A m_third) (A m_classes) (A m_homes) s (0, A m_fetches, A m_into, A m_code, n)).2.1, (mz_f2 (A m_ops) (A m_first) (A m_second) (A m_third) (A m_classes) (A m_homes) s (0, A m_fetches, A m_into, A m_code, n)).2.2.1, rfl, ?_⟩
      rw [mz_FA_2, mz_FA_2, mz_mk_f hno]
      rw [mz_mkN_1 ek (show a < 2 ^ 31 by omega) ea (show b < 2 ^ 31 by omega) eb]
      rfl
    · refine V.rv dX8_makeStep_67 rfl ?_
      have hy : mz_ndl (A m_ops) (A m_first) (A m_second) (A m_classes) (A m_homes) s := ⟨ek, by rw [ea, eb, nI_clamp (by omega), nI_clamp (by omega)]; exact c2, by rw [ea, eb, nI_clamp (by omega), nI_clamp (by omega)]; exact c3⟩
      exact ⟨rfl, I mM 25, A m_fetches, A m_into, upI_i, by rw [mz_mk_t hy, mz_FA_i hg]⟩
set_option maxRecDepth 100000 in
set_option maxHeartbeats 4000000 in
theorem md_makeStep2 {G : am_G} (I A : Nat → Nat → Int32) (nv : Nat) (hnv : nv ≤ 24) (s : Nat) (hs : s < 60) (hsw : mz_sw nv (A m_ops s) (A m_first s) (A m_second s) (A m_third s)) (g : Nat → Int32) (n : Nat) (hg : A m_items = upd g 0 (nI n)) (hn : n < 390) (ek : A m_ops s = nI 2) (a : Nat) (ha : a < nv) (ea : A m_first s = nI a) (b : Nat) (hb : b < nv) (eb : A m_second s = nI b) (c : Nat) (hc : c < nv) (ec : A m_third s = nI c) : Cm G MX8_makeStep 2 48 [.ref mM, .int (nI s)] I A (fun r I' A' => r = none ∧ ∃ (z : Int32) (fe it : Nat → Int32), upI I mM 25 z = I' ∧ mz_FA A g (0, fe, it, (mz_mk (A m_ops) (A m_first) (A m_second) (A m_third) (A m_classes) (A m_homes) s (A m_fetches) (A m_into) (A m_code) n).1, (mz_mk (A m_ops) (A m_first) (A m_second) (A m_third) (A m_classes) (A m_homes) s (A m_fetches) (A m_into) (A m_code) n).2) = A') := by
  refine Cm.of (by decide) (Nat.le_of_ble_eq_true rfl) rfl ?_
  show V G MX8_makeStep (am_R 2 48 0 0) _ 0 0 0 [(0, .ref mM), (1, .int (nI s))] [] (hp I A)
  refine V.aload_n (j := 0) rfl dX8_makeStep_0 ?_
  refine V.getr (q := m_ops) dX8_makeStep_1 fX8_13 rfl rfl ?_
  refine V.iload_n (j := 1) rfl dX8_makeStep_4 ?_
  refine V.lda (v := nI 2) dX8_makeStep_5 rfl (by omega) (by decide) ek ?_
  refine V.istore_n (ls' := [(0, .ref mM), (1, .int (nI s)), (2, .int (nI 2))]) dX8_makeStep_6 (by decide) rfl ?_
  refine V.aload_n (j := 0) rfl dX8_makeStep_7 ?_
  refine V.getr (q := m_first) dX8_makeStep_8 fX8_16 rfl rfl ?_
  refine V.iload_n (j := 1) rfl dX8_makeStep_11 ?_
  refine V.lda (v := nI a) dX8_makeStep_12 rfl (by omega) (by decide) ea ?_
  refine V.istore_n (ls' := [(0, .ref mM), (1, .int (nI s)), (2, .int (nI 2)), (3, .int (nI a))]) dX8_makeStep_13 (by decide) rfl ?_
  refine V.aload_n (j := 0) rfl dX8_makeStep_14 ?_
  refine V.getr (q := m_second) dX8_makeStep_15 fX8_19 rfl rfl ?_
  refine V.iload_n (j := 1) rfl dX8_makeStep_18 ?_
  refine V.lda (v := nI b) dX8_makeStep_19 rfl (by omega) (by decide) eb ?_
  refine V.istore (ls' := [(0, .ref mM), (1, .int (nI s)), (2, .int (nI 2)), (3, .int (nI a)), (4, .int (nI b))]) dX8_makeStep_20 (by decide) rfl ?_
  refine V.aload_n (j := 0) rfl dX8_makeStep_22 ?_
  refine V.getr (q := m_third) dX8_makeStep_23 fX8_22 rfl rfl ?_
  refine V.iload_n (j := 1) rfl dX8_makeStep_26 ?_
  refine V.lda (v := nI c) dX8_makeStep_27 rfl (by omega) (by decide) ec ?_
  refine V.istore (ls' := [(0, .ref mM), (1, .int (nI s)), (2, .int (nI 2)), (3, .int (nI a)), (4, .int (nI b)), (5, .int (nI c))]) dX8_makeStep_28 (by decide) rfl ?_
  refine V.iload_n (j := 2) rfl dX8_makeStep_30 ?_
  refine V.iconst (v := nI 1) (by decide) dX8_makeStep_31 ?_
  refine V.icmp_ne (tgt := 68) dX8_makeStep_32 (by decide) (fun _ => ?_) (fun z => absurd z (by decide))
  have hno : ¬ mz_ndl (A m_ops) (A m_first) (A m_second) (A m_classes) (A m_homes) s := fun z => by have z1 := z.1; rw [ek, nI_eq (by omega) (by omega)] at z1; omega
  have hle := mz_f2_le (op := A m_ops) (fa := A m_first) (fb := A m_second) (fc := A m_third) (cl := A m_classes) (hm := A m_homes) (s := s) (F := (0, A m_fetches, A m_into, A m_code, n))
  dsimp only at hle
  refine ml_step1 I A nv hnv s hs _ _ _ _ (mz_sw_tak0 hsw) (mz_sw_tak1 hsw) g n hg (by omega) ?_
  refine ml_step2_2 (upI I mM 25 (nI (mz_f2 (A m_ops) (A m_first) (A m_second) (A m_third) (A m_classes) (A m_homes) s (0, A m_fetches, A m_into, A m_code, n)).1)) (mz_FA A g (mz_f2 (A m_ops) (A m_first) (A m_second) (A m_third) (A m_classes) (A m_homes) s (0, A m_fetches, A m_into, A m_code, n))) s (mz_f2 (A m_ops) (A m_first) (A m_second) (A m_third) (A m_classes) (A m_homes) s (0, A m_fetches, A m_into, A m_code, n)).1 (by omega) upI_s a (by omega) b (by omega) c (by omega) g (mz_f2 (A m_ops) (A m_first) (A m_second) (A m_third) (A m_classes) (A m_homes) s (0, A m_fetches, A m_into, A m_code, n)).2.2.2.2 rfl (by omega) ?_
  refine ml_step3 _ _ nv hnv s hs (mz_sw_anew (fb := A m_second) (fc := A m_third) hsw) g ((mz_f2 (A m_ops) (A m_first) (A m_second) (A m_third) (A m_classes) (A m_homes) s (0, A m_fetches, A m_into, A m_code, n)).2.2.2.2 + 1) rfl (by omega) ?_
  refine V.rv dX8_makeStep_361 rfl ?_
  refine ⟨rfl, _, (mz_f2 (A m_ops) (A m_first) (A m_second) (A m_third) (A m_classes) (A m_homes) s (0, A m_fetches, A m_into, A m_code, n)).2.1, (mz_f2 (A m_ops) (A m_first) (A m_second) (A m_third) (A m_classes) (A m_homes) s (0, A m_fetches, A m_into, A m_code, n)).2.2.1, rfl, ?_⟩
  rw [mz_FA_2, mz_FA_2, mz_mk_f hno]
  rw [mz_mkN_2 ek (show a < 2 ^ 31 by omega) ea (show b < 2 ^ 31 by omega) eb (show c < 2 ^ 31 by omega) ec]
  rfl
set_option maxRecDepth 100000 in
set_option maxHeartbeats 4000000 in
theorem md_makeStep3 {G : am_G} (I A : Nat → Nat → Int32) (nv : Nat) (hnv : nv ≤ 24) (s : Nat) (hs : s < 60) (hsw : mz_sw nv (A m_ops s) (A m_first s) (A m_second s) (A m_third s)) (g : Nat → Int32) (n : Nat) (hg : A m_items = upd g 0 (nI n)) (hn : n < 390) (ek : A m_ops s = nI 3) (a : Nat) (ha : a < nv) (ea : A m_first s = nI a) (b : Nat) (hb : b < nv) (eb : A m_second s = nI b) (c : Nat) (hc : c < nv) (ec : A m_third s = nI c) : Cm G MX8_makeStep 2 48 [.ref mM, .int (nI s)] I A (fun r I' A' => r = none ∧ ∃ (z : Int32) (fe it : Nat → Int32), upI I mM 25 z = I' ∧ mz_FA A g (0, fe, it, (mz_mk (A m_ops) (A m_first) (A m_second) (A m_third) (A m_classes) (A m_homes) s (A m_fetches) (A m_into) (A m_code) n).1, (mz_mk (A m_ops) (A m_first) (A m_second) (A m_third) (A m_classes) (A m_homes) s (A m_fetches) (A m_into) (A m_code) n).2) = A') := by
  refine Cm.of (by decide) (Nat.le_of_ble_eq_true rfl) rfl ?_
  show V G MX8_makeStep (am_R 2 48 0 0) _ 0 0 0 [(0, .ref mM), (1, .int (nI s))] [] (hp I A)
  refine V.aload_n (j := 0) rfl dX8_makeStep_0 ?_
  refine V.getr (q := m_ops) dX8_makeStep_1 fX8_13 rfl rfl ?_
  refine V.iload_n (j := 1) rfl dX8_makeStep_4 ?_
  refine V.lda (v := nI 3) dX8_makeStep_5 rfl (by omega) (by decide) ek ?_
  refine V.istore_n (ls' := [(0, .ref mM), (1, .int (nI s)), (2, .int (nI 3))]) dX8_makeStep_6 (by decide) rfl ?_
  refine V.aload_n (j := 0) rfl dX8_makeStep_7 ?_
  refine V.getr (q := m_first) dX8_makeStep_8 fX8_16 rfl rfl ?_
  refine V.iload_n (j := 1) rfl dX8_makeStep_11 ?_
  refine V.lda (v := nI a) dX8_makeStep_12 rfl (by omega) (by decide) ea ?_
  refine V.istore_n (ls' := [(0, .ref mM), (1, .int (nI s)), (2, .int (nI 3)), (3, .int (nI a))]) dX8_makeStep_13 (by decide) rfl ?_
  refine V.aload_n (j := 0) rfl dX8_makeStep_14 ?_
  refine V.getr (q := m_second) dX8_makeStep_15 fX8_19 rfl rfl ?_
  refine V.iload_n (j := 1) rfl dX8_makeStep_18 ?_
  refine V.lda (v := nI b) dX8_makeStep_19 rfl (by omega) (by decide) eb ?_
  refine V.istore (ls' := [(0, .ref mM), (1, .int (nI s)), (2, .int (nI 3)), (3, .int (nI a)), (4, .int (nI b))]) dX8_makeStep_20 (by decide) rfl ?_
  refine V.aload_n (j := 0) rfl dX8_makeStep_22 ?_
  refine V.getr (q := m_third) dX8_makeStep_23 fX8_22 rfl rfl ?_
  refine V.iload_n (j := 1) rfl dX8_makeStep_26 ?_
  refine V.lda (v := nI c) dX8_makeStep_27 rfl (by omega) (by decide) ec ?_
  refine V.istore (ls' := [(0, .ref mM), (1, .int (nI s)), (2, .int (nI 3)), (3, .int (nI a)), (4, .int (nI b)), (5, .int (nI c))]) dX8_makeStep_28 (by decide) rfl ?_
  refine V.iload_n (j := 2) rfl dX8_makeStep_30 ?_
  refine V.iconst (v := nI 1) (by decide) dX8_makeStep_31 ?_
  refine V.icmp_ne (tgt := 68) dX8_makeStep_32 (by decide) (fun _ => ?_) (fun z => absurd z (by decide))
  have hno : ¬ mz_ndl (A m_ops) (A m_first) (A m_second) (A m_classes) (A m_homes) s := fun z => by have z1 := z.1; rw [ek, nI_eq (by omega) (by omega)] at z1; omega
  have hle := mz_f2_le (op := A m_ops) (fa := A m_first) (fb := A m_second) (fc := A m_third) (cl := A m_classes) (hm := A m_homes) (s := s) (F := (0, A m_fetches, A m_into, A m_code, n))
  dsimp only at hle
  refine ml_step1 I A nv hnv s hs _ _ _ _ (mz_sw_tak0 hsw) (mz_sw_tak1 hsw) g n hg (by omega) ?_
  refine ml_step2_3 (upI I mM 25 (nI (mz_f2 (A m_ops) (A m_first) (A m_second) (A m_third) (A m_classes) (A m_homes) s (0, A m_fetches, A m_into, A m_code, n)).1)) (mz_FA A g (mz_f2 (A m_ops) (A m_first) (A m_second) (A m_third) (A m_classes) (A m_homes) s (0, A m_fetches, A m_into, A m_code, n))) s (mz_f2 (A m_ops) (A m_first) (A m_second) (A m_third) (A m_classes) (A m_homes) s (0, A m_fetches, A m_into, A m_code, n)).1 (by omega) upI_s a (by omega) b (by omega) c (by omega) g (mz_f2 (A m_ops) (A m_first) (A m_second) (A m_third) (A m_classes) (A m_homes) s (0, A m_fetches, A m_into, A m_code, n)).2.2.2.2 rfl (by omega) ?_
  refine ml_step3 _ _ nv hnv s hs (mz_sw_anew (fb := A m_second) (fc := A m_third) hsw) g ((mz_f2 (A m_ops) (A m_first) (A m_second) (A m_third) (A m_classes) (A m_homes) s (0, A m_fetches, A m_into, A m_code, n)).2.2.2.2 + 1) rfl (by omega) ?_
  refine V.rv dX8_makeStep_361 rfl ?_
  refine ⟨rfl, _, (mz_f2 (A m_ops) (A m_first) (A m_second) (A m_third) (A m_classes) (A m_homes) s (0, A m_fetches, A m_into, A m_code, n)).2.1, (mz_f2 (A m_ops) (A m_first) (A m_second) (A m_third) (A m_classes) (A m_homes) s (0, A m_fetches, A m_into, A m_code, n)).2.2.1, rfl, ?_⟩
  rw [mz_FA_2, mz_FA_2, mz_mk_f hno]
  rw [mz_mkN_3 ek (show a < 2 ^ 31 by omega) ea (show b < 2 ^ 31 by omega) eb (show c < 2 ^ 31 by omega) ec]
  rfl
set_option maxRecDepth 100000 in
set_option maxHeartbeats 4000000 in
theorem md_makeStep4 {G : am_G} (I A : Nat → Nat → Int32) (nv : Nat) (hnv : nv ≤ 24) (s : Nat) (hs : s < 60) (hsw : mz_sw nv (A m_ops s) (A m_first s) (A m_second s) (A m_third s)) (g : Nat → Int32) (n : Nat) (hg : A m_items = upd g 0 (nI n)) (hn : n < 390) (ek : A m_ops s = nI 4) (a : Nat) (ha : a < nv) (ea : A m_first s = nI a) (b : Nat) (hb : b < nv) (eb : A m_second s = nI b) (c : Nat) (hc : c < nv) (ec : A m_third s = nI c) : Cm G MX8_makeStep 2 48 [.ref mM, .int (nI s)] I A (fun r I' A' => r = none ∧ ∃ (z : Int32) (fe it : Nat → Int32), upI I mM 25 z = I' ∧ mz_FA A g (0, fe, it, (mz_mk (A m_ops) (A m_first) (A m_second) (A m_third) (A m_classes) (A m_homes) s (A m_fetches) (A m_into) (A m_code) n).1, (mz_mk (A m_ops) (A m_first) (A m_second) (A m_third) (A m_classes) (A m_homes) s (A m_fetches) (A m_into) (A m_code) n).2) = A') := by
  refine Cm.of (by decide) (Nat.le_of_ble_eq_true rfl) rfl ?_
  show V G MX8_makeStep (am_R 2 48 0 0) _ 0 0 0 [(0, .ref mM), (1, .int (nI s))] [] (hp I A)
  refine V.aload_n (j := 0) rfl dX8_makeStep_0 ?_
  refine V.getr (q := m_ops) dX8_makeStep_1 fX8_13 rfl rfl ?_
  refine V.iload_n (j := 1) rfl dX8_makeStep_4 ?_
  refine V.lda (v := nI 4) dX8_makeStep_5 rfl (by omega) (by decide) ek ?_
  refine V.istore_n (ls' := [(0, .ref mM), (1, .int (nI s)), (2, .int (nI 4))]) dX8_makeStep_6 (by decide) rfl ?_
  refine V.aload_n (j := 0) rfl dX8_makeStep_7 ?_
  refine V.getr (q := m_first) dX8_makeStep_8 fX8_16 rfl rfl ?_
  refine V.iload_n (j := 1) rfl dX8_makeStep_11 ?_
  refine V.lda (v := nI a) dX8_makeStep_12 rfl (by omega) (by decide) ea ?_
  refine V.istore_n (ls' := [(0, .ref mM), (1, .int (nI s)), (2, .int (nI 4)), (3, .int (nI a))]) dX8_makeStep_13 (by decide) rfl ?_
  refine V.aload_n (j := 0) rfl dX8_makeStep_14 ?_
  refine V.getr (q := m_second) dX8_makeStep_15 fX8_19 rfl rfl ?_
  refine V.iload_n (j := 1) rfl dX8_makeStep_18 ?_
  refine V.lda (v := nI b) dX8_makeStep_19 rfl (by omega) (by decide) eb ?_
  refine V.istore (ls' := [(0, .ref mM), (1, .int (nI s)), (2, .int (nI 4)), (3, .int (nI a)), (4, .int (nI b))]) dX8_makeStep_20 (by decide) rfl ?_
  refine V.aload_n (j := 0) rfl dX8_makeStep_22 ?_
  refine V.getr (q := m_third) dX8_makeStep_23 fX8_22 rfl rfl ?_
  refine V.iload_n (j := 1) rfl dX8_makeStep_26 ?_
  refine V.lda (v := nI c) dX8_makeStep_27 rfl (by omega) (by decide) ec ?_
  refine V.istore (ls' := [(0, .ref mM), (1, .int (nI s)), (2, .int (nI 4)), (3, .int (nI a)), (4, .int (nI b)), (5, .int (nI c))]) dX8_makeStep_28 (by decide) rfl ?_
  refine V.iload_n (j := 2) rfl dX8_makeStep_30 ?_
  refine V.iconst (v := nI 1) (by decide) dX8_makeStep_31 ?_
  refine V.icmp_ne (tgt := 68) dX8_makeStep_32 (by decide) (fun _ => ?_) (fun z => absurd z (by decide))
  have hno : ¬ mz_ndl (A m_ops) (A m_first) (A m_second) (A m_classes) (A m_homes) s := fun z => by have z1 := z.1; rw [ek, nI_eq (by omega) (by omega)] at z1; omega
  have hle := mz_f2_le (op := A m_ops) (fa := A m_first) (fb := A m_second) (fc := A m_third) (cl := A m_classes) (hm := A m_homes) (s := s) (F := (0, A m_fetches, A m_into, A m_code, n))
  dsimp only at hle
  refine ml_step1 I A nv hnv s hs _ _ _ _ (mz_sw_tak0 hsw) (mz_sw_tak1 hsw) g n hg (by omega) ?_
  refine ml_step2_4 (upI I mM 25 (nI (mz_f2 (A m_ops) (A m_first) (A m_second) (A m_third) (A m_classes) (A m_homes) s (0, A m_fetches, A m_into, A m_code, n)).1)) (mz_FA A g (mz_f2 (A m_ops) (A m_first) (A m_second) (A m_third) (A m_classes) (A m_homes) s (0, A m_fetches, A m_into, A m_code, n))) s (mz_f2 (A m_ops) (A m_first) (A m_second) (A m_third) (A m_classes) (A m_homes) s (0, A m_fetches, A m_into, A m_code, n)).1 (by omega) upI_s a (by omega) b (by omega) c (by omega) g (mz_f2 (A m_ops) (A m_first) (A m_second) (A m_third) (A m_classes) (A m_homes) s (0, A m_fetches, A m_into, A m_code, n)).2.2.2.2 rfl (by omega) ?_
  refine ml_step3 _ _ nv hnv s hs (mz_sw_anew (fb := A m_second) (fc := A m_third) hsw) g ((mz_f2 (A m_ops) (A m_first) (A m_second) (A m_third) (A m_classes) (A m_homes) s (0, A m_fetches, A m_into, A m_code, n)).2.2.2.2 + 1) rfl (by omega) ?_
  refine V.rv dX8_makeStep_361 rfl ?_
  refine ⟨rfl, _, (mz_f2 (A m_ops) (A m_first) (A m_second) (A m_third) (A m_classes) (A m_homes) s (0, A m_fetches, A m_into, A m_code, n)).2.1, (mz_f2 (A m_ops) (A m_first) (A m_second) (A m_third) (A m_classes) (A m_homes) s (0, A m_fetches, A m_into, A m_code, n)).2.2.1, rfl, ?_⟩
  rw [mz_FA_2, mz_FA_2, mz_mk_f hno]
  rw [mz_mkN_4 ek (show a < 2 ^ 31 by omega) ea (show b < 2 ^ 31 by omega) eb (show c < 2 ^ 31 by omega) ec]
  rfl
set_option maxRecDepth 100000 in
set_option maxHeartbeats 4000000 in
theorem md_makeStep5 {G : am_G} (I A : Nat → Nat → Int32) (nv : Nat) (hnv : nv ≤ 24) (s : Nat) (hs : s < 60) (hsw : mz_sw nv (A m_ops s) (A m_first s) (A m_second s) (A m_third s)) (g : Nat → Int32) (n : Nat) (hg : A m_items = upd g 0 (nI n)) (hn : n < 390) (ek : A m_ops s = nI 5) (a : Nat) (ha : a < nv) (ea : A m_first s = nI a) (b : Nat) (hb : b < nv) (eb : A m_second s = nI b) : Cm G MX8_makeStep 2 48 [.ref mM, .int (nI s)] I A (fun r I' A' => r = none ∧ ∃ (z : Int32) (fe it : Nat → Int32), upI I mM 25 z = I' ∧ mz_FA A g (0, fe, it, (mz_mk (A m_ops) (A m_first) (A m_second) (A m_third) (A m_classes) (A m_homes) s (A m_fetches) (A m_into) (A m_code) n).1, (mz_mk (A m_ops) (A m_first) (A m_second) (A m_third) (A m_classes) (A m_homes) s (A m_fetches) (A m_into) (A m_code) n).2) = A') := by
  refine Cm.of (by decide) (Nat.le_of_ble_eq_true rfl) rfl ?_
  show V G MX8_makeStep (am_R 2 48 0 0) _ 0 0 0 [(0, .ref mM), (1, .int (nI s))] [] (hp I A)
  refine V.aload_n (j := 0) rfl dX8_makeStep_0 ?_
  refine V.getr (q := m_ops) dX8_makeStep_1 fX8_13 rfl rfl ?_
  refine V.iload_n (j := 1) rfl dX8_makeStep_4 ?_
  refine V.lda (v := nI 5) dX8_makeStep_5 rfl (by omega) (by decide) ek ?_
  refine V.istore_n (ls' := [(0, .ref mM), (1, .int (nI s)), (2, .int (nI 5))]) dX8_makeStep_6 (by decide) rfl ?_
  refine V.aload_n (j := 0) rfl dX8_makeStep_7 ?_
  refine V.getr (q := m_first) dX8_makeStep_8 fX8_16 rfl rfl ?_
  refine V.iload_n (j := 1) rfl dX8_makeStep_11 ?_
  refine V.lda (v := nI a) dX8_makeStep_12 rfl (by omega) (by decide) ea ?_
  refine V.istore_n (ls' := [(0, .ref mM), (1, .int (nI s)), (2, .int (nI 5)), (3, .int (nI a))]) dX8_makeStep_13 (by decide) rfl ?_
  refine V.aload_n (j := 0) rfl dX8_makeStep_14 ?_
  refine V.getr (q := m_second) dX8_makeStep_15 fX8_19 rfl rfl ?_
  refine V.iload_n (j := 1) rfl dX8_makeStep_18 ?_
  refine V.lda (v := nI b) dX8_makeStep_19 rfl (by omega) (by decide) eb ?_
  refine V.istore (ls' := [(0, .ref mM), (1, .int (nI s)), (2, .int (nI 5)), (3, .int (nI a)), (4, .int (nI b))]) dX8_makeStep_20 (by decide) rfl ?_
  refine V.aload_n (j := 0) rfl dX8_makeStep_22 ?_
  refine V.getr (q := m_third) dX8_makeStep_23 fX8_22 rfl rfl ?_
  refine V.iload_n (j := 1) rfl dX8_makeStep_26 ?_
  refine V.lda (v := A m_third s) dX8_makeStep_27 rfl (by omega) (by decide) rfl ?_
  refine V.istore (ls' := [(0, .ref mM), (1, .int (nI s)), (2, .int (nI 5)), (3, .int (nI a)), (4, .int (nI b)), (5, .int (A m_third s))]) dX8_makeStep_28 (by decide) rfl ?_
  refine V.iload_n (j := 2) rfl dX8_makeStep_30 ?_
  refine V.iconst (v := nI 1) (by decide) dX8_makeStep_31 ?_
  refine V.icmp_ne (tgt := 68) dX8_makeStep_32 (by decide) (fun _ => ?_) (fun z => absurd z (by decide))
  have hno : ¬ mz_ndl (A m_ops) (A m_first) (A m_second) (A m_classes) (A m_homes) s := fun z => by have z1 := z.1; rw [ek, nI_eq (by omega) (by omega)] at z1; omega
  have hle := mz_f2_le (op := A m_ops) (fa := A m_first) (fb := A m_second) (fc := A m_third) (cl := A m_classes) (hm := A m_homes) (s := s) (F := (0, A m_fetches, A m_into, A m_code, n))
  dsimp only at hle
  refine ml_step1 I A nv hnv s hs _ _ _ _ (mz_sw_tak0 hsw) (mz_sw_tak1 hsw) g n hg (by omega) ?_
  refine ml_step2_5 (upI I mM 25 (nI (mz_f2 (A m_ops) (A m_first) (A m_second) (A m_third) (A m_classes) (A m_homes) s (0, A m_fetches, A m_into, A m_code, n)).1)) (mz_FA A g (mz_f2 (A m_ops) (A m_first) (A m_second) (A m_third) (A m_classes) (A m_homes) s (0, A m_fetches, A m_into, A m_code, n))) s (mz_f2 (A m_ops) (A m_first) (A m_second) (A m_third) (A m_classes) (A m_homes) s (0, A m_fetches, A m_into, A m_code, n)).1 (by omega) upI_s a (by omega) b (by omega) (A m_third s) g (mz_f2 (A m_ops) (A m_first) (A m_second) (A m_third) (A m_classes) (A m_homes) s (0, A m_fetches, A m_into, A m_code, n)).2.2.2.2 rfl (by omega) ?_
  refine ml_step3 _ _ nv hnv s hs (mz_sw_anew (fb := A m_second) (fc := A m_third) hsw) g ((mz_f2 (A m_ops) (A m_first) (A m_second) (A m_third) (A m_classes) (A m_homes) s (0, A m_fetches, A m_into, A m_code, n)).2.2.2.2 + 1) rfl (by omega) ?_
  refine V.rv dX8_makeStep_361 rfl ?_
  refine ⟨rfl, _, (mz_f2 (A m_ops) (A m_first) (A m_second) (A m_third) (A m_classes) (A m_homes) s (0, A m_fetches, A m_into, A m_code, n)).2.1, (mz_f2 (A m_ops) (A m_first) (A m_second) (A m_third) (A m_classes) (A m_homes) s (0, A m_fetches, A m_into, A m_code, n)).2.2.1, rfl, ?_⟩
  rw [mz_FA_2, mz_FA_2, mz_mk_f hno]
  rw [mz_mkN_5 ek (show a < 2 ^ 31 by omega) ea (show b < 2 ^ 31 by omega) eb]
  rfl
set_option maxRecDepth 100000 in
set_option maxHeartbeats 4000000 in
theorem md_makeStep6 {G : am_G} (I A : Nat → Nat → Int32) (nv : Nat) (hnv : nv ≤ 24) (s : Nat) (hs : s < 60) (hsw : mz_sw nv (A m_ops s) (A m_first s) (A m_second s) (A m_third s)) (g : Nat → Int32) (n : Nat) (hg : A m_items = upd g 0 (nI n)) (hn : n < 390) (ek : A m_ops s = nI 6) (a : Nat) (ha : a < nv) (ea : A m_first s = nI a) (b : Nat) (hb : b < nv) (eb : A m_second s = nI b) : Cm G MX8_makeStep 2 48 [.ref mM, .int (nI s)] I A (fun r I' A' => r = none ∧ ∃ (z : Int32) (fe it : Nat → Int32), upI I mM 25 z = I' ∧ mz_FA A g (0, fe, it, (mz_mk (A m_ops) (A m_first) (A m_second) (A m_third) (A m_classes) (A m_homes) s (A m_fetches) (A m_into) (A m_code) n).1, (mz_mk (A m_ops) (A m_first) (A m_second) (A m_third) (A m_classes) (A m_homes) s (A m_fetches) (A m_into) (A m_code) n).2) = A') := by
  refine Cm.of (by decide) (Nat.le_of_ble_eq_true rfl) rfl ?_
  show V G MX8_makeStep (am_R 2 48 0 0) _ 0 0 0 [(0, .ref mM), (1, .int (nI s))] [] (hp I A)
  refine V.aload_n (j := 0) rfl dX8_makeStep_0 ?_
  refine V.getr (q := m_ops) dX8_makeStep_1 fX8_13 rfl rfl ?_
  refine V.iload_n (j := 1) rfl dX8_makeStep_4 ?_
  refine V.lda (v := nI 6) dX8_makeStep_5 rfl (by omega) (by decide) ek ?_
  refine V.istore_n (ls' := [(0, .ref mM), (1, .int (nI s)), (2, .int (nI 6))]) dX8_makeStep_6 (by decide) rfl ?_
  refine V.aload_n (j := 0) rfl dX8_makeStep_7 ?_
  refine V.getr (q := m_first) dX8_makeStep_8 fX8_16 rfl rfl ?_
  refine V.iload_n (j := 1) rfl dX8_makeStep_11 ?_
  refine V.lda (v := nI a) dX8_makeStep_12 rfl (by omega) (by decide) ea ?_
  refine V.istore_n (ls' := [(0, .ref mM), (1, .int (nI s)), (2, .int (nI 6)), (3, .int (nI a))]) dX8_makeStep_13 (by decide) rfl ?_
  refine V.aload_n (j := 0) rfl dX8_makeStep_14 ?_
  refine V.getr (q := m_second) dX8_makeStep_15 fX8_19 rfl rfl ?_
  refine V.iload_n (j := 1) rfl dX8_makeStep_18 ?_
  refine V.lda (v := nI b) dX8_makeStep_19 rfl (by omega) (by decide) eb ?_
  refine V.istore (ls' := [(0, .ref mM), (1, .int (nI s)), (2, .int (nI 6)), (3, .int (nI a)), (4, .int (nI b))]) dX8_makeStep_20 (by decide) rfl ?_
  refine V.aload_n (j := 0) rfl dX8_makeStep_22 ?_
  refine V.getr (q := m_third) dX8_makeStep_23 fX8_22 rfl rfl ?_
  refine V.iload_n (j := 1) rfl dX8_makeStep_26 ?_
  refine V.lda (v := A m_third s) dX8_makeStep_27 rfl (by omega) (by decide) rfl ?_
  refine V.istore (ls' := [(0, .ref mM), (1, .int (nI s)), (2, .int (nI 6)), (3, .int (nI a)), (4, .int (nI b)), (5, .int (A m_third s))]) dX8_makeStep_28 (by decide) rfl ?_
  refine V.iload_n (j := 2) rfl dX8_makeStep_30 ?_
  refine V.iconst (v := nI 1) (by decide) dX8_makeStep_31 ?_
  refine V.icmp_ne (tgt := 68) dX8_makeStep_32 (by decide) (fun _ => ?_) (fun z => absurd z (by decide))
  have hno : ¬ mz_ndl (A m_ops) (A m_first) (A m_second) (A m_classes) (A m_homes) s := fun z => by have z1 := z.1; rw [ek, nI_eq (by omega) (by omega)] at z1; omega
  have hle := mz_f2_le (op := A m_ops) (fa := A m_first) (fb := A m_second) (fc := A m_third) (cl := A m_classes) (hm := A m_homes) (s := s) (F := (0, A m_fetches, A m_into, A m_code, n))
  dsimp only at hle
  refine ml_step1 I A nv hnv s hs _ _ _ _ (mz_sw_tak0 hsw) (mz_sw_tak1 hsw) g n hg (by omega) ?_
  refine ml_step2_6 (upI I mM 25 (nI (mz_f2 (A m_ops) (A m_first) (A m_second) (A m_third) (A m_classes) (A m_homes) s (0, A m_fetches, A m_into, A m_code, n)).1)) (mz_FA A g (mz_f2 (A m_ops) (A m_first) (A m_second) (A m_third) (A m_classes) (A m_homes) s (0, A m_fetches, A m_into, A m_code, n))) s (mz_f2 (A m_ops) (A m_first) (A m_second) (A m_third) (A m_classes) (A m_homes) s (0, A m_fetches, A m_into, A m_code, n)).1 (by omega) upI_s a (by omega) b (by omega) (A m_third s) g (mz_f2 (A m_ops) (A m_first) (A m_second) (A m_third) (A m_classes) (A m_homes) s (0, A m_fetches, A m_into, A m_code, n)).2.2.2.2 rfl (by omega) ?_
  refine ml_step3 _ _ nv hnv s hs (mz_sw_anew (fb := A m_second) (fc := A m_third) hsw) g ((mz_f2 (A m_ops) (A m_first) (A m_second) (A m_third) (A m_classes) (A m_homes) s (0, A m_fetches, A m_into, A m_code, n)).2.2.2.2 + 1) rfl (by omega) ?_
  refine V.rv dX8_makeStep_361 rfl ?_
  refine ⟨rfl, _, (mz_f2 (A m_ops) (A m_first) (A m_second) (A m_third) (A m_classes) (A m_homes) s (0, A m_fetches, A m_into, A m_code, n)).2.1, (mz_f2 (A m_ops) (A m_first) (A m_second) (A m_third) (A m_classes) (A m_homes) s (0, A m_fetches, A m_into, A m_code, n)).2.2.1, rfl, ?_⟩
  rw [mz_FA_2, mz_FA_2, mz_mk_f hno]
  rw [mz_mkN_6 ek (show a < 2 ^ 31 by omega) ea (show b < 2 ^ 31 by omega) eb]
  rfl
set_option maxRecDepth 100000 in
set_option maxHeartbeats 4000000 in
theorem md_makeStep7 {G : am_G} (I A : Nat → Nat → Int32) (nv : Nat) (hnv : nv ≤ 24) (s : Nat) (hs : s < 60) (hsw : mz_sw nv (A m_ops s) (A m_first s) (A m_second s) (A m_third s)) (g : Nat → Int32) (n : Nat) (hg : A m_items = upd g 0 (nI n)) (hn : n < 390) (ek : A m_ops s = nI 7) (a : Nat) (ha : a < nv) (ea : A m_first s = nI a) (b : Nat) (hb : b < nv) (eb : A m_second s = nI b) : Cm G MX8_makeStep 2 48 [.ref mM, .int (nI s)] I A (fun r I' A' => r = none ∧ ∃ (z : Int32) (fe it : Nat → Int32), upI I mM 25 z = I' ∧ mz_FA A g (0, fe, it, (mz_mk (A m_ops) (A m_first) (A m_second) (A m_third) (A m_classes) (A m_homes) s (A m_fetches) (A m_into) (A m_code) n).1, (mz_mk (A m_ops) (A m_first) (A m_second) (A m_third) (A m_classes) (A m_homes) s (A m_fetches) (A m_into) (A m_code) n).2) = A') := by
  refine Cm.of (by decide) (Nat.le_of_ble_eq_true rfl) rfl ?_
  show V G MX8_makeStep (am_R 2 48 0 0) _ 0 0 0 [(0, .ref mM), (1, .int (nI s))] [] (hp I A)
  refine V.aload_n (j := 0) rfl dX8_makeStep_0 ?_
  refine V.getr (q := m_ops) dX8_makeStep_1 fX8_13 rfl rfl ?_
  refine V.iload_n (j := 1) rfl dX8_makeStep_4 ?_
  refine V.lda (v := nI 7) dX8_makeStep_5 rfl (by omega) (by decide) ek ?_
  refine V.istore_n (ls' := [(0, .ref mM), (1, .int (nI s)), (2, .int (nI 7))]) dX8_makeStep_6 (by decide) rfl ?_
  refine V.aload_n (j := 0) rfl dX8_makeStep_7 ?_
  refine V.getr (q := m_first) dX8_makeStep_8 fX8_16 rfl rfl ?_
  refine V.iload_n (j := 1) rfl dX8_makeStep_11 ?_
  refine V.lda (v := nI a) dX8_makeStep_12 rfl (by omega) (by decide) ea ?_
  refine V.istore_n (ls' := [(0, .ref mM), (1, .int (nI s)), (2, .int (nI 7)), (3, .int (nI a))]) dX8_makeStep_13 (by decide) rfl ?_
  refine V.aload_n (j := 0) rfl dX8_makeStep_14 ?_
  refine V.getr (q := m_second) dX8_makeStep_15 fX8_19 rfl rfl ?_
  refine V.iload_n (j := 1) rfl dX8_makeStep_18 ?_
  refine V.lda (v := nI b) dX8_makeStep_19 rfl (by omega) (by decide) eb ?_
  refine V.istore (ls' := [(0, .ref mM), (1, .int (nI s)), (2, .int (nI 7)), (3, .int (nI a)), (4, .int (nI b))]) dX8_makeStep_20 (by decide) rfl ?_
  refine V.aload_n (j := 0) rfl dX8_makeStep_22 ?_
  refine V.getr (q := m_third) dX8_makeStep_23 fX8_22 rfl rfl ?_
  refine V.iload_n (j := 1) rfl dX8_makeStep_26 ?_
  refine V.lda (v := A m_third s) dX8_makeStep_27 rfl (by omega) (by decide) rfl ?_
  refine V.istore (ls' := [(0, .ref mM), (1, .int (nI s)), (2, .int (nI 7)), (3, .int (nI a)), (4, .int (nI b)), (5, .int (A m_third s))]) dX8_makeStep_28 (by decide) rfl ?_
  refine V.iload_n (j := 2) rfl dX8_makeStep_30 ?_
  refine V.iconst (v := nI 1) (by decide) dX8_makeStep_31 ?_
  refine V.icmp_ne (tgt := 68) dX8_makeStep_32 (by decide) (fun _ => ?_) (fun z => absurd z (by decide))
  have hno : ¬ mz_ndl (A m_ops) (A m_first) (A m_second) (A m_classes) (A m_homes) s := fun z => by have z1 := z.1; rw [ek, nI_eq (by omega) (by omega)] at z1; omega
  have hle := mz_f2_le (op := A m_ops) (fa := A m_first) (fb := A m_second) (fc := A m_third) (cl := A m_classes) (hm := A m_homes) (s := s) (F := (0, A m_fetches, A m_into, A m_code, n))
  dsimp only at hle
  refine ml_step1 I A nv hnv s hs _ _ _ _ (mz_sw_tak0 hsw) (mz_sw_tak1 hsw) g n hg (by omega) ?_
  refine ml_step2_7 (upI I mM 25 (nI (mz_f2 (A m_ops) (A m_first) (A m_second) (A m_third) (A m_classes) (A m_homes) s (0, A m_fetches, A m_into, A m_code, n)).1)) (mz_FA A g (mz_f2 (A m_ops) (A m_first) (A m_second) (A m_third) (A m_classes) (A m_homes) s (0, A m_fetches, A m_into, A m_code, n))) s (mz_f2 (A m_ops) (A m_first) (A m_second) (A m_third) (A m_classes) (A m_homes) s (0, A m_fetches, A m_into, A m_code, n)).1 (by omega) upI_s a (by omega) b (by omega) (A m_third s) g (mz_f2 (A m_ops) (A m_first) (A m_second) (A m_third) (A m_classes) (A m_homes) s (0, A m_fetches, A m_into, A m_code, n)).2.2.2.2 rfl (by omega) ?_
  refine ml_step3 _ _ nv hnv s hs (mz_sw_anew (fb := A m_second) (fc := A m_third) hsw) g ((mz_f2 (A m_ops) (A m_first) (A m_second) (A m_third) (A m_classes) (A m_homes) s (0, A m_fetches, A m_into, A m_code, n)).2.2.2.2 + 1) rfl (by omega) ?_
  refine V.rv dX8_makeStep_361 rfl ?_
  refine ⟨rfl, _, (mz_f2 (A m_ops) (A m_first) (A m_second) (A m_third) (A m_classes) (A m_homes) s (0, A m_fetches, A m_into, A m_code, n)).2.1, (mz_f2 (A m_ops) (A m_first) (A m_second) (A m_third) (A m_classes) (A m_homes) s (0, A m_fetches, A m_into, A m_code, n)).2.2.1, rfl, ?_⟩
  rw [mz_FA_2, mz_FA_2, mz_mk_f hno]
  rw [mz_mkN_7 ek (show a < 2 ^ 31 by omega) ea (show b < 2 ^ 31 by omega) eb]
  rfl
set_option maxRecDepth 100000 in
set_option maxHeartbeats 4000000 in
theorem md_makeStep8 {G : am_G} (I A : Nat → Nat → Int32) (nv : Nat) (hnv : nv ≤ 24) (s : Nat) (hs : s < 60) (hsw : mz_sw nv (A m_ops s) (A m_first s) (A m_second s) (A m_third s)) (g : Nat → Int32) (n : Nat) (hg : A m_items = upd g 0 (nI n)) (hn : n < 390) (ek : A m_ops s = nI 8)  : Cm G MX8_makeStep 2 48 [.ref mM, .int (nI s)] I A (fun r I' A' => r = none ∧ ∃ (z : Int32) (fe it : Nat → Int32), upI I mM 25 z = I' ∧ mz_FA A g (0, fe, it, (mz_mk (A m_ops) (A m_first) (A m_second) (A m_third) (A m_classes) (A m_homes) s (A m_fetches) (A m_into) (A m_code) n).1, (mz_mk (A m_ops) (A m_first) (A m_second) (A m_third) (A m_classes) (A m_homes) s (A m_fetches) (A m_into) (A m_code) n).2) = A') := by
  refine Cm.of (by decide) (Nat.le_of_ble_eq_true rfl) rfl ?_
  show V G MX8_makeStep (am_R 2 48 0 0) _ 0 0 0 [(0, .ref mM), (1, .int (nI s))] [] (hp I A)
  refine V.aload_n (j := 0) rfl dX8_makeStep_0 ?_
  refine V.getr (q := m_ops) dX8_makeStep_1 fX8_13 rfl rfl ?_
  refine V.iload_n (j := 1) rfl dX8_makeStep_4 ?_
  refine V.lda (v := nI 8) dX8_makeStep_5 rfl (by omega) (by decide) ek ?_
  refine V.istore_n (ls' := [(0, .ref mM), (1, .int (nI s)), (2, .int (nI 8))]) dX8_makeStep_6 (by decide) rfl ?_
  refine V.aload_n (j := 0) rfl dX8_makeStep_7 ?_
  refine V.getr (q := m_first) dX8_makeStep_8 fX8_16 rfl rfl ?_
  refine V.iload_n (j := 1) rfl dX8_makeStep_11 ?_
  refine V.lda (v := A m_first s) dX8_makeStep_12 rfl (by omega) (by decide) rfl ?_
  refine V.istore_n (ls' := [(0, .ref mM), (1, .int (nI s)), (2, .int (nI 8)), (3, .int (A m_first s))]) dX8_makeStep_13 (by decide) rfl ?_
  refine V.aload_n (j := 0) rfl dX8_makeStep_14 ?_
  refine V.getr (q := m_second) dX8_makeStep_15 fX8_19 rfl rfl ?_
  refine V.iload_n (j := 1) rfl dX8_makeStep_18 ?_
  refine V.lda (v := A m_second s) dX8_makeStep_19 rfl (by omega) (by decide) rfl ?_
  refine V.istore (ls' := [(0, .ref mM), (1, .int (nI s)), (2, .int (nI 8)), (3, .int (A m_first s)), (4, .int (A m_second s))]) dX8_makeStep_20 (by decide) rfl ?_
  refine V.aload_n (j := 0) rfl dX8_makeStep_22 ?_
  refine V.getr (q := m_third) dX8_makeStep_23 fX8_22 rfl rfl ?_
  refine V.iload_n (j := 1) rfl dX8_makeStep_26 ?_
  refine V.lda (v := A m_third s) dX8_makeStep_27 rfl (by omega) (by decide) rfl ?_
  refine V.istore (ls' := [(0, .ref mM), (1, .int (nI s)), (2, .int (nI 8)), (3, .int (A m_first s)), (4, .int (A m_second s)), (5, .int (A m_third s))]) dX8_makeStep_28 (by decide) rfl ?_
  refine V.iload_n (j := 2) rfl dX8_makeStep_30 ?_
  refine V.iconst (v := nI 1) (by decide) dX8_makeStep_31 ?_
  refine V.icmp_ne (tgt := 68) dX8_makeStep_32 (by decide) (fun _ => ?_) (fun z => absurd z (by decide))
  have hno : ¬ mz_ndl (A m_ops) (A m_first) (A m_second) (A m_classes) (A m_homes) s := fun z => by have z1 := z.1; rw [ek, nI_eq (by omega) (by omega)] at z1; omega
  have hle := mz_f2_le (op := A m_ops) (fa := A m_first) (fb := A m_second) (fc := A m_third) (cl := A m_classes) (hm := A m_homes) (s := s) (F := (0, A m_fetches, A m_into, A m_code, n))
  dsimp only at hle
  refine ml_step1 I A nv hnv s hs _ _ _ _ (mz_sw_tak0 hsw) (mz_sw_tak1 hsw) g n hg (by omega) ?_
  refine ml_step2_8 (upI I mM 25 (nI (mz_f2 (A m_ops) (A m_first) (A m_second) (A m_third) (A m_classes) (A m_homes) s (0, A m_fetches, A m_into, A m_code, n)).1)) (mz_FA A g (mz_f2 (A m_ops) (A m_first) (A m_second) (A m_third) (A m_classes) (A m_homes) s (0, A m_fetches, A m_into, A m_code, n))) s (mz_f2 (A m_ops) (A m_first) (A m_second) (A m_third) (A m_classes) (A m_homes) s (0, A m_fetches, A m_into, A m_code, n)).1 (by omega) upI_s (A m_first s) (A m_second s) (A m_third s) g (mz_f2 (A m_ops) (A m_first) (A m_second) (A m_third) (A m_classes) (A m_homes) s (0, A m_fetches, A m_into, A m_code, n)).2.2.2.2 rfl (by omega) ?_
  refine ml_step3 _ _ nv hnv s hs (mz_sw_anew (fb := A m_second) (fc := A m_third) hsw) g ((mz_f2 (A m_ops) (A m_first) (A m_second) (A m_third) (A m_classes) (A m_homes) s (0, A m_fetches, A m_into, A m_code, n)).2.2.2.2 + 1) rfl (by omega) ?_
  refine V.rv dX8_makeStep_361 rfl ?_
  refine ⟨rfl, _, (mz_f2 (A m_ops) (A m_first) (A m_second) (A m_third) (A m_classes) (A m_homes) s (0, A m_fetches, A m_into, A m_code, n)).2.1, (mz_f2 (A m_ops) (A m_first) (A m_second) (A m_third) (A m_classes) (A m_homes) s (0, A m_fetches, A m_into, A m_code, n)).2.2.1, rfl, ?_⟩
  rw [mz_FA_2, mz_FA_2, mz_mk_f hno]
  rw [mz_mkN_8 ek]
  rfl
set_option maxRecDepth 100000 in
set_option maxHeartbeats 4000000 in
theorem md_makeStep9 {G : am_G} (I A : Nat → Nat → Int32) (nv : Nat) (hnv : nv ≤ 24) (s : Nat) (hs : s < 60) (hsw : mz_sw nv (A m_ops s) (A m_first s) (A m_second s) (A m_third s)) (g : Nat → Int32) (n : Nat) (hg : A m_items = upd g 0 (nI n)) (hn : n < 390) (ek : A m_ops s = nI 9) (a : Nat) (ha : a < nv) (ea : A m_first s = nI a) : Cm G MX8_makeStep 2 48 [.ref mM, .int (nI s)] I A (fun r I' A' => r = none ∧ ∃ (z : Int32) (fe it : Nat → Int32), upI I mM 25 z = I' ∧ mz_FA A g (0, fe, it, (mz_mk (A m_ops) (A m_first) (A m_second) (A m_third) (A m_classes) (A m_homes) s (A m_fetches) (A m_into) (A m_code) n).1, (mz_mk (A m_ops) (A m_first) (A m_second) (A m_third) (A m_classes) (A m_homes) s (A m_fetches) (A m_into) (A m_code) n).2) = A') := by
  refine Cm.of (by decide) (Nat.le_of_ble_eq_true rfl) rfl ?_
  show V G MX8_makeStep (am_R 2 48 0 0) _ 0 0 0 [(0, .ref mM), (1, .int (nI s))] [] (hp I A)
  refine V.aload_n (j := 0) rfl dX8_makeStep_0 ?_
  refine V.getr (q := m_ops) dX8_makeStep_1 fX8_13 rfl rfl ?_
  refine V.iload_n (j := 1) rfl dX8_makeStep_4 ?_
  refine V.lda (v := nI 9) dX8_makeStep_5 rfl (by omega) (by decide) ek ?_
  refine V.istore_n (ls' := [(0, .ref mM), (1, .int (nI s)), (2, .int (nI 9))]) dX8_makeStep_6 (by decide) rfl ?_
  refine V.aload_n (j := 0) rfl dX8_makeStep_7 ?_
  refine V.getr (q := m_first) dX8_makeStep_8 fX8_16 rfl rfl ?_
  refine V.iload_n (j := 1) rfl dX8_makeStep_11 ?_
  refine V.lda (v := nI a) dX8_makeStep_12 rfl (by omega) (by decide) ea ?_
  refine V.istore_n (ls' := [(0, .ref mM), (1, .int (nI s)), (2, .int (nI 9)), (3, .int (nI a))]) dX8_makeStep_13 (by decide) rfl ?_
  refine V.aload_n (j := 0) rfl dX8_makeStep_14 ?_
  refine V.getr (q := m_second) dX8_makeStep_15 fX8_19 rfl rfl ?_
  refine V.iload_n (j := 1) rfl dX8_makeStep_18 ?_
  refine V.lda (v := A m_second s) dX8_makeStep_19 rfl (by omega) (by decide) rfl ?_
  refine V.istore (ls' := [(0, .ref mM), (1, .int (nI s)), (2, .int (nI 9)), (3, .int (nI a)), (4, .int (A m_second s))]) dX8_makeStep_20 (by decide) rfl ?_
  refine V.aload_n (j := 0) rfl dX8_makeStep_22 ?_
  refine V.getr (q := m_third) dX8_makeStep_23 fX8_22 rfl rfl ?_
  refine V.iload_n (j := 1) rfl dX8_makeStep_26 ?_
  refine V.lda (v := A m_third s) dX8_makeStep_27 rfl (by omega) (by decide) rfl ?_
  refine V.istore (ls' := [(0, .ref mM), (1, .int (nI s)), (2, .int (nI 9)), (3, .int (nI a)), (4, .int (A m_second s)), (5, .int (A m_third s))]) dX8_makeStep_28 (by decide) rfl ?_
  refine V.iload_n (j := 2) rfl dX8_makeStep_30 ?_
  refine V.iconst (v := nI 1) (by decide) dX8_makeStep_31 ?_
  refine V.icmp_ne (tgt := 68) dX8_makeStep_32 (by decide) (fun _ => ?_) (fun z => absurd z (by decide))
  have hno : ¬ mz_ndl (A m_ops) (A m_first) (A m_second) (A m_classes) (A m_homes) s := fun z => by have z1 := z.1; rw [ek, nI_eq (by omega) (by omega)] at z1; omega
  have hle := mz_f2_le (op := A m_ops) (fa := A m_first) (fb := A m_second) (fc := A m_third) (cl := A m_classes) (hm := A m_homes) (s := s) (F := (0, A m_fetches, A m_into, A m_code, n))
  dsimp only at hle
  refine ml_step1 I A nv hnv s hs _ _ _ _ (mz_sw_tak0 hsw) (mz_sw_tak1 hsw) g n hg (by omega) ?_
  refine ml_step2_9 (upI I mM 25 (nI (mz_f2 (A m_ops) (A m_first) (A m_second) (A m_third) (A m_classes) (A m_homes) s (0, A m_fetches, A m_into, A m_code, n)).1)) (mz_FA A g (mz_f2 (A m_ops) (A m_first) (A m_second) (A m_third) (A m_classes) (A m_homes) s (0, A m_fetches, A m_into, A m_code, n))) s (mz_f2 (A m_ops) (A m_first) (A m_second) (A m_third) (A m_classes) (A m_homes) s (0, A m_fetches, A m_into, A m_code, n)).1 (by omega) upI_s a (by omega) (A m_second s) (A m_third s) g (mz_f2 (A m_ops) (A m_first) (A m_second) (A m_third) (A m_classes) (A m_homes) s (0, A m_fetches, A m_into, A m_code, n)).2.2.2.2 rfl (by omega) ?_
  refine ml_step3 _ _ nv hnv s hs (mz_sw_anew (fb := A m_second) (fc := A m_third) hsw) g ((mz_f2 (A m_ops) (A m_first) (A m_second) (A m_third) (A m_classes) (A m_homes) s (0, A m_fetches, A m_into, A m_code, n)).2.2.2.2 + 1) rfl (by omega) ?_
  refine V.rv dX8_makeStep_361 rfl ?_
  refine ⟨rfl, _, (mz_f2 (A m_ops) (A m_first) (A m_second) (A m_third) (A m_classes) (A m_homes) s (0, A m_fetches, A m_into, A m_code, n)).2.1, (mz_f2 (A m_ops) (A m_first) (A m_second) (A m_third) (A m_classes) (A m_homes) s (0, A m_fetches, A m_into, A m_code, n)).2.2.1, rfl, ?_⟩
  rw [mz_FA_2, mz_FA_2, mz_mk_f hno]
  rw [mz_mkN_9 ek (show a < 2 ^ 31 by omega) ea]
  rfl
set_option maxRecDepth 100000 in
set_option maxHeartbeats 4000000 in
theorem md_makeStep10 {G : am_G} (I A : Nat → Nat → Int32) (nv : Nat) (hnv : nv ≤ 24) (s : Nat) (hs : s < 60) (hsw : mz_sw nv (A m_ops s) (A m_first s) (A m_second s) (A m_third s)) (g : Nat → Int32) (n : Nat) (hg : A m_items = upd g 0 (nI n)) (hn : n < 390) (ek : A m_ops s = nI 10)  : Cm G MX8_makeStep 2 48 [.ref mM, .int (nI s)] I A (fun r I' A' => r = none ∧ ∃ (z : Int32) (fe it : Nat → Int32), upI I mM 25 z = I' ∧ mz_FA A g (0, fe, it, (mz_mk (A m_ops) (A m_first) (A m_second) (A m_third) (A m_classes) (A m_homes) s (A m_fetches) (A m_into) (A m_code) n).1, (mz_mk (A m_ops) (A m_first) (A m_second) (A m_third) (A m_classes) (A m_homes) s (A m_fetches) (A m_into) (A m_code) n).2) = A') := by
  refine Cm.of (by decide) (Nat.le_of_ble_eq_true rfl) rfl ?_
  show V G MX8_makeStep (am_R 2 48 0 0) _ 0 0 0 [(0, .ref mM), (1, .int (nI s))] [] (hp I A)
  refine V.aload_n (j := 0) rfl dX8_makeStep_0 ?_
  refine V.getr (q := m_ops) dX8_makeStep_1 fX8_13 rfl rfl ?_
  refine V.iload_n (j := 1) rfl dX8_makeStep_4 ?_
  refine V.lda (v := nI 10) dX8_makeStep_5 rfl (by omega) (by decide) ek ?_
  refine V.istore_n (ls' := [(0, .ref mM), (1, .int (nI s)), (2, .int (nI 10))]) dX8_makeStep_6 (by decide) rfl ?_
  refine V.aload_n (j := 0) rfl dX8_makeStep_7 ?_
  refine V.getr (q := m_first) dX8_makeStep_8 fX8_16 rfl rfl ?_
  refine V.iload_n (j := 1) rfl dX8_makeStep_11 ?_
  refine V.lda (v := A m_first s) dX8_makeStep_12 rfl (by omega) (by decide) rfl ?_
  refine V.istore_n (ls' := [(0, .ref mM), (1, .int (nI s)), (2, .int (nI 10)), (3, .int (A m_first s))]) dX8_makeStep_13 (by decide) rfl ?_
  refine V.aload_n (j := 0) rfl dX8_makeStep_14 ?_
  refine V.getr (q := m_second) dX8_makeStep_15 fX8_19 rfl rfl ?_
  refine V.iload_n (j := 1) rfl dX8_makeStep_18 ?_
  refine V.lda (v := A m_second s) dX8_makeStep_19 rfl (by omega) (by decide) rfl ?_
  refine V.istore (ls' := [(0, .ref mM), (1, .int (nI s)), (2, .int (nI 10)), (3, .int (A m_first s)), (4, .int (A m_second s))]) dX8_makeStep_20 (by decide) rfl ?_
  refine V.aload_n (j := 0) rfl dX8_makeStep_22 ?_
  refine V.getr (q := m_third) dX8_makeStep_23 fX8_22 rfl rfl ?_
  refine V.iload_n (j := 1) rfl dX8_makeStep_26 ?_
  refine V.lda (v := A m_third s) dX8_makeStep_27 rfl (by omega) (by decide) rfl ?_
  refine V.istore (ls' := [(0, .ref mM), (1, .int (nI s)), (2, .int (nI 10)), (3, .int (A m_first s)), (4, .int (A m_second s)), (5, .int (A m_third s))]) dX8_makeStep_28 (by decide) rfl ?_
  refine V.iload_n (j := 2) rfl dX8_makeStep_30 ?_
  refine V.iconst (v := nI 1) (by decide) dX8_makeStep_31 ?_
  refine V.icmp_ne (tgt := 68) dX8_makeStep_32 (by decide) (fun _ => ?_) (fun z => absurd z (by decide))
  have hno : ¬ mz_ndl (A m_ops) (A m_first) (A m_second) (A m_classes) (A m_homes) s := fun z => by have z1 := z.1; rw [ek, nI_eq (by omega) (by omega)] at z1; omega
  have hle := mz_f2_le (op := A m_ops) (fa := A m_first) (fb := A m_second) (fc := A m_third) (cl := A m_classes) (hm := A m_homes) (s := s) (F := (0, A m_fetches, A m_into, A m_code, n))
  dsimp only at hle
  refine ml_step1 I A nv hnv s hs _ _ _ _ (mz_sw_tak0 hsw) (mz_sw_tak1 hsw) g n hg (by omega) ?_
  refine ml_step2_10 (upI I mM 25 (nI (mz_f2 (A m_ops) (A m_first) (A m_second) (A m_third) (A m_classes) (A m_homes) s (0, A m_fetches, A m_into, A m_code, n)).1)) (mz_FA A g (mz_f2 (A m_ops) (A m_first) (A m_second) (A m_third) (A m_classes) (A m_homes) s (0, A m_fetches, A m_into, A m_code, n))) s (mz_f2 (A m_ops) (A m_first) (A m_second) (A m_third) (A m_classes) (A m_homes) s (0, A m_fetches, A m_into, A m_code, n)).1 (by omega) upI_s (A m_first s) (A m_second s) (A m_third s) g (mz_f2 (A m_ops) (A m_first) (A m_second) (A m_third) (A m_classes) (A m_homes) s (0, A m_fetches, A m_into, A m_code, n)).2.2.2.2 rfl (by omega) ?_
  refine ml_step3 _ _ nv hnv s hs (mz_sw_anew (fb := A m_second) (fc := A m_third) hsw) g ((mz_f2 (A m_ops) (A m_first) (A m_second) (A m_third) (A m_classes) (A m_homes) s (0, A m_fetches, A m_into, A m_code, n)).2.2.2.2 + 1) rfl (by omega) ?_
  refine V.rv dX8_makeStep_361 rfl ?_
  refine ⟨rfl, _, (mz_f2 (A m_ops) (A m_first) (A m_second) (A m_third) (A m_classes) (A m_homes) s (0, A m_fetches, A m_into, A m_code, n)).2.1, (mz_f2 (A m_ops) (A m_first) (A m_second) (A m_third) (A m_classes) (A m_homes) s (0, A m_fetches, A m_into, A m_code, n)).2.2.1, rfl, ?_⟩
  rw [mz_FA_2, mz_FA_2, mz_mk_f hno]
  rw [mz_mkN_10 ek]
  rfl
theorem md_makeStep {G : am_G} (I A : Nat → Nat → Int32) (nv : Nat) (hnv : nv ≤ 24) (s : Nat) (hs : s < 60) (hsw : mz_sw nv (A m_ops s) (A m_first s) (A m_second s) (A m_third s)) (g : Nat → Int32) (n : Nat) (hg : A m_items = upd g 0 (nI n)) (hn : n < 390) : Cm G MX8_makeStep 2 48 [.ref mM, .int (nI s)] I A (fun r I' A' => r = none ∧ ∃ (z : Int32) (fe it : Nat → Int32), upI I mM 25 z = I' ∧ mz_FA A g (0, fe, it, (mz_mk (A m_ops) (A m_first) (A m_second) (A m_third) (A m_classes) (A m_homes) s (A m_fetches) (A m_into) (A m_code) n).1, (mz_mk (A m_ops) (A m_first) (A m_second) (A m_third) (A m_classes) (A m_homes) s (A m_fetches) (A m_into) (A m_code) n).2) = A') := by
  obtain ⟨k, h1, ek, h3, h4, h5, -⟩ := id hsw
  rcases (show k = 0 ∨ k = 1 ∨ k = 2 ∨ k = 3 ∨ k = 4 ∨ k = 5 ∨ k = 6 ∨ k = 7 ∨ k = 8 ∨ k = 9 ∨ k = 10 by omega) with rfl | rfl | rfl | rfl | rfl | rfl | rfl | rfl | rfl | rfl | rfl
  · obtain ⟨a, ha, ea⟩ := h3 (by omega)
    exact md_makeStep0 I A nv hnv s hs hsw g n hg hn ek a ha ea
  · obtain ⟨a, ha, ea⟩ := h3 (by omega)
    obtain ⟨b, hb, eb⟩ := h4 (by omega)
    exact md_makeStep1 I A nv hnv s hs hsw g n hg hn ek a ha ea b hb eb
  · obtain ⟨a, ha, ea⟩ := h3 (by omega)
    obtain ⟨b, hb, eb⟩ := h4 (by omega)
    obtain ⟨c, hc, ec⟩ := h5 (by omega)
    exact md_makeStep2 I A nv hnv s hs hsw g n hg hn ek a ha ea b hb eb c hc ec
  · obtain ⟨a, ha, ea⟩ := h3 (by omega)
    obtain ⟨b, hb, eb⟩ := h4 (by omega)
    obtain ⟨c, hc, ec⟩ := h5 (by omega)
    exact md_makeStep3 I A nv hnv s hs hsw g n hg hn ek a ha ea b hb eb c hc ec
  · obtain ⟨a, ha, ea⟩ := h3 (by omega)
    obtain ⟨b, hb, eb⟩ := h4 (by omega)
    obtain ⟨c, hc, ec⟩ := h5 (by omega)
    exact md_makeStep4 I A nv hnv s hs hsw g n hg hn ek a ha ea b hb eb c hc ec
  · obtain ⟨a, ha, ea⟩ := h3 (by omega)
    obtain ⟨b, hb, eb⟩ := h4 (by omega)
    exact md_makeStep5 I A nv hnv s hs hsw g n hg hn ek a ha ea b hb eb
  · obtain ⟨a, ha, ea⟩ := h3 (by omega)
    obtain ⟨b, hb, eb⟩ := h4 (by omega)
    exact md_makeStep6 I A nv hnv s hs hsw g n hg hn ek a ha ea b hb eb
  · obtain ⟨a, ha, ea⟩ := h3 (by omega)
    obtain ⟨b, hb, eb⟩ := h4 (by omega)
    exact md_makeStep7 I A nv hnv s hs hsw g n hg hn ek a ha ea b hb eb
  · exact md_makeStep8 I A nv hnv s hs hsw g n hg hn ek 
  · obtain ⟨a, ha, ea⟩ := h3 (by omega)
    exact md_makeStep9 I A nv hnv s hs hsw g n hg hn ek a ha ea
  · exact md_makeStep10 I A nv hnv s hs hsw g n hg hn ek 
