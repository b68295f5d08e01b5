theorem upA_ii {A : Nat → Nat → Int32} {a : Nat} {f : Nat → Int32} (h : A a = f) : upA A a f = A := by subst h; exact upA_i
/-- what settle leaves alone -/
theorem mz_stl_k {nv ns : Nat} {A A1 : Nat → Nat → Int32} (h : mz_stl nv ns A A1) : A1 m_ops = A m_ops ∧ A1 m_first = A m_first ∧ A1 m_second = A m_second ∧ A1 m_third = A m_third ∧ A1 m_classes = A m_classes ∧ A1 m_registers = A m_registers := by
  obtain ⟨k, hm, -, -, rfl⟩ := h
  exact ⟨rfl, rfl, rfl, rfl, rfl, rfl⟩
/-- what makeCode leaves -/
noncomputable def mz_made (nv ns : Nat) (I A I' A' : Nat → Nat → Int32) : Prop := ∃ (A1 : Nat → Nat → Int32) (z : Int32) (fe it c : Nat → Int32) (n : Nat) (f c' : Nat → Int32) (n' : Nat), mz_stl nv ns A A1 ∧ mz_cds (A1 m_ops) (A1 m_first) (A1 m_second) (A1 m_third) (A1 m_classes) (A1 m_homes) ns 0 (A1 m_fetches) (A1 m_into) (A1 m_code) 0 (A1 m_firstItem) c n f ∧ n ≤ 4 * ns ∧ mz_tids n (mz_cp (4 * n) 0 (mz_rts ns n f n 0 c)) c' n' ∧ (upI I mM 25 z) = I' ∧ upA (upA (upA (mz_FA A1 (A1 m_items) (0, fe, it, c, n)) m_firstItem f) m_items (upd (upd (A1 m_items) 0 (nI n)) 1 (nI n'))) m_code c' = A'
set_option maxRecDepth 100000 in
set_option maxHeartbeats 4000000 in
theorem md_makeCode {G : am_G} (I A : Nat → Nat → Int32) (nv ns : Nat) (hW : mz_wf nv ns I A) (hsw : ∀ s, s < ns → mz_sw nv (A m_ops s) (A m_first s) (A m_second s) (A m_third s)) : Cm G MX8_makeCode 4 95 [.ref mM] I A (fun r I' A' => r = none ∧ mz_made nv ns I A I' A') := by
  refine Cm.of (by decide) (Nat.le_of_ble_eq_true rfl) rfl ?_
  show V G MX8_makeCode (am_R 4 95 0 0) _ 0 0 0 [(0, .ref mM)] [] (hp I A)
  refine V.aload_n (j := 0) rfl dX8_makeCode_0 ?_
  refine V.cV (As := []) (st := []) dX8_makeCode_1 sX8_147 iX8_settle lX8_settle rfl rfl (md_settle I A nv ns hW) ⟨by decide, by decide⟩ (Nat.le_of_ble_eq_true rfl) rfl (fun r I' A1 hq => ?_)
  obtain ⟨rfl, rfl, hst⟩ := hq
  obtain ⟨hn, hnv, hs, hns, -⟩ := hW
  obtain ⟨e1, e2, e3, e4, -, -⟩ := mz_stl_k hst
  have hsw1 : ∀ s, s < ns → mz_sw nv (A1 m_ops s) (A1 m_first s) (A1 m_second s) (A1 m_third s) := by
    rw [e1, e2, e3, e4]; exact hsw
  refine V.st (st' := []) rfl ?_
  refine V.aload_n (j := 0) rfl dX8_makeCode_4 ?_
  refine V.getr (q := m_items) dX8_makeCode_5 fX8_52 rfl rfl ?_
  refine V.iconst (v := nI 0) (by decide) dX8_makeCode_8 ?_
  refine V.iconst (v := nI 0) (by decide) dX8_makeCode_9 ?_
  refine V.sta (g := upd (A1 m_items) 0 (nI 0)) dX8_makeCode_10 rfl (by decide) (by decide) rfl ?_
  refine V.iconst (v := nI 0) (by decide) dX8_makeCode_11 ?_
  refine V.istore_n (ls' := [(0, .ref mM), (1, .int (nI 0))]) dX8_makeCode_12 (by decide) rfl ?_
  refine V.hpe (I' := (upI I mM 25 (I mM 25))) (A' := (upA (mz_FA A1 (A1 m_items) (0, A1 m_fetches, A1 m_into, A1 m_code, 0)) m_firstItem (A1 m_firstItem))) upI_i.symm (by
    rw [show A1 m_firstItem = (mz_FA A1 (A1 m_items) (0, A1 m_fetches, A1 m_into, A1 m_code, 0)) m_firstItem from rfl, upA_i]
    unfold mz_FA
    dsimp only
    rw [upA_i, upA_i, upA_i]) ?_
  refine ml_make1 I A1 nv ns hs hns hnv hsw1 (A1 m_items) ns 0 (I mM 25) (A1 m_fetches) (A1 m_into) (A1 m_code) 0 (A1 m_firstItem) (by omega) (by omega) (fun z fe it c n f hc hle => ?_)
  refine V.iconst (v := nI 0) (by decide) dX8_makeCode_44 ?_
  refine V.istore_n (ls' := [(0, .ref mM), (1, .int (nI 0))]) dX8_makeCode_45 (by decide) rfl ?_
  refine V.hpe (A' := (upA (upA (mz_FA A1 (A1 m_items) (0, fe, it, c, n)) m_firstItem f) m_code c)) rfl (upA_ii (A := (upA (mz_FA A1 (A1 m_items) (0, fe, it, c, n)) m_firstItem f)) (a := m_code) (f := c) rfl).symm ?_
  refine ml_make2 (upI I mM 25 z) (upA (mz_FA A1 (A1 m_items) (0, fe, it, c, n)) m_firstItem f) ns hs hns n rfl (by omega) n 0 c (by omega) (fun j _ hj => mz_cds_ok hsw1 ns 0 _ _ _ _ _ _ _ _ (by omega) (fun j hj => absurd hj (Nat.not_lt_zero _)) hc j hj) ?_
  refine V.aload_n (j := 0) rfl dX8_makeCode_150 ?_
  refine V.getr (q := m_items) dX8_makeCode_151 fX8_52 rfl rfl ?_
  refine V.iconst (v := nI 1) (by decide) dX8_makeCode_154 ?_
  refine V.aload_n (j := 0) rfl dX8_makeCode_155 ?_
  refine V.getr (q := m_items) dX8_makeCode_156 fX8_52 rfl rfl ?_
  refine V.iconst (v := nI 0) (by decide) dX8_makeCode_159 ?_
  refine V.lda (v := nI n) dX8_makeCode_160 rfl (by decide) (by decide) rfl ?_
  refine V.sta (g := upd (upd (A1 m_items) 0 (nI n)) 1 (nI n)) dX8_makeCode_161 rfl (by decide) (by decide) rfl ?_
  refine V.iconst (v := nI 0) (by decide) dX8_makeCode_162 ?_
  refine V.istore_n (ls' := [(0, .ref mM), (1, .int (nI 0))]) dX8_makeCode_163 (by decide) rfl ?_
  refine V.hpe (A' := (upA (upA (upA (mz_FA A1 (A1 m_items) (0, fe, it, c, n)) m_firstItem f) m_items (upd (upd (A1 m_items) 0 (nI n)) 1 (nI n))) m_code (mz_rts ns n f n 0 c))) rfl (upA_c (by decide)) ?_
  refine ml_make3 (upI I mM 25 z) (upA (upA (mz_FA A1 (A1 m_items) (0, fe, it, c, n)) m_firstItem f) m_items (upd (upd (A1 m_items) 0 (nI n)) 1 (nI n))) n rfl (by omega) (4 * n) 0 (mz_rts ns n f n 0 c) (by omega) ?_
  refine V.aload_n (j := 0) rfl dX8_makeCode_198 ?_
  refine V.cV (As := []) (st := []) dX8_makeCode_199 sX8_153 iX8_needless lX8_needless rfl rfl (md_needless (upI I mM 25 z) (upA (upA (upA (mz_FA A1 (A1 m_items) (0, fe, it, c, n)) m_firstItem f) m_items (upd (upd (A1 m_items) 0 (nI n)) 1 (nI n))) m_code (mz_cp (4 * n) 0 (mz_rts ns n f n 0 c))) n rfl (by omega)) ⟨by decide, by decide⟩ (Nat.le_of_ble_eq_true rfl) rfl (fun r I' A' hq => ?_)
  obtain ⟨hr, rfl, rfl⟩ := hq
  have hr2 : ∃ y : Int32, r = some (.int y) ∧ ((∃ j0, y = nI j0 ∧ j0 < n ∧ mz_gone (mz_cp (4 * n) 0 (mz_rts ns n f n 0 c)) n j0 ∧ mz_no (fun k => mz_gone (mz_cp (4 * n) 0 (mz_rts ns n f n 0 c)) n k) j0) ∨ (y = (-1) ∧ mz_no (fun k => mz_gone (mz_cp (4 * n) 0 (mz_rts ns n f n 0 c)) n k) n)) := by
    rcases hr with ⟨j, e, h4⟩ | ⟨e, h4⟩
    · exact ⟨nI j, e, Or.inl ⟨j, rfl, h4⟩⟩
    · exact ⟨-1, e, Or.inr ⟨rfl, h4⟩⟩
  obtain ⟨y, rfl, hy⟩ := hr2
  refine V.st (st' := [.int y]) rfl ?_
  refine V.istore_n (ls' := [(0, .ref mM), (1, .int y)]) dX8_makeCode_202 (by decide) rfl ?_
  refine ml_make4 (upI I mM 25 z) (upA (mz_FA A1 (A1 m_items) (0, fe, it, c, n)) m_firstItem f) (upd (A1 m_items) 0 (nI n)) n (mz_cp (4 * n) 0 (mz_rts ns n f n 0 c)) y (by omega) hy (fun c' n' q => ?_)
  refine V.rv dX8_makeCode_221 rfl ?_
  exact ⟨rfl, A1, z, fe, it, c, n, f, c', n', hst, hc, hle, q, rfl, rfl⟩
