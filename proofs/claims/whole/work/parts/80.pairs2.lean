theorem pq_live {G : am_G} (hst : am_sta G) (x : Int32) : cz_pair G MX7_live MX8_live 6 144 3 73 [.int x] := by
  intro I A hInv
  obtain ⟨nv, ns, rd, hJ⟩ := id hInv
  obtain ⟨hK, hM, hR, hr4, hrd, hL⟩ := id hJ
  obtain ⟨k1, k2, hnv, hns, -⟩ := id hK
  refine ⟨_, ce_live I A hst nv ns hK rd hrd hr4 hL x, fun r I1 A1 h => ?_⟩
  by_cases q : mz_in ns x
  · obtain ⟨j, hj, rfl, rfl, hwk⟩ := h.1 q
    have hJ1 := cz_Wk_J hJ (by omega) hwk
    obtain ⟨hK1, hM1, hR1, h41, hrd1, hL1⟩ := id hJ1
    obtain ⟨hW, hsw⟩ := cz_wf hK1 hM1
    refine ⟨_, rfl, _, md_live I1 A1 nv ns hW (nI j), fun r2 I2 A2 h2 => ?_⟩
    obtain ⟨k, hk, rfl, rfl, rfl⟩ := h2.1 q
    have f1 := (hL1.1 (by omega) A1 k (cz_M_sp hM1) hk).1 j hj
    exact ⟨by rw [nI_clamp (by omega), f1], nv, ns, _, mz_fr_J hJ1 ⟨fun _ _ _ => rfl, (mz_lo_u (mz_lo_u (fun _ _ => rfl) (by decide)) (by decide)), rfl, rfl, rfl, rfl, rfl, rfl, rfl, rfl, rfl, rfl, rfl, rfl, rfl, fun _ _ => rfl⟩⟩
  · obtain ⟨rfl, rfl, rfl⟩ := h.2 q
    obtain ⟨hW, hsw⟩ := cz_wf hK hM
    refine ⟨-1, rfl, _, md_live I A nv ns hW x, fun r2 I2 A2 h2 => ?_⟩
    obtain ⟨rfl, rfl, rfl⟩ := h2.2 q
    exact ⟨rfl, hInv⟩
theorem pq_inWay {G : am_G} (hst : am_sta G) (x : Int32) : cz_pair G MX7_inWay MX8_inWay 6 144 3 73 [.int x] := by
  intro I A hInv
  obtain ⟨nv, ns, rd, hJ⟩ := id hInv
  obtain ⟨hK, hM, hR, hr4, hrd, hL⟩ := id hJ
  obtain ⟨k1, k2, hnv, hns, -⟩ := id hK
  refine ⟨_, ce_inWay I A hst nv ns hK rd hrd hr4 hL x, fun r I1 A1 h => ?_⟩
  by_cases q : mz_isV (nI nv) x
  · obtain ⟨j, hj, rfl, rfl, hwk⟩ := h.1 q
    have hJ1 := cz_Wk_J hJ (by omega) hwk
    obtain ⟨hK1, hM1, hR1, h41, hrd1, hL1⟩ := id hJ1
    obtain ⟨hW, hsw⟩ := cz_wf hK1 hM1
    refine ⟨_, rfl, _, md_inWay I1 A1 nv ns hW (nI j), fun r2 I2 A2 h2 => ?_⟩
    obtain ⟨k, hk, rfl, rfl, rfl⟩ := h2.1 q
    have f1 := (hL1.1 (by omega) A1 k (cz_M_sp hM1) hk).2 j hj
    exact ⟨by rw [nI_clamp (by omega), f1], nv, ns, _, mz_fr_J hJ1 ⟨fun _ _ _ => rfl, (mz_lo_u (mz_lo_u (mz_lo_u (mz_lo_u (fun _ _ => rfl) (by decide)) (by decide)) (by decide)) (by decide)), rfl, rfl, rfl, rfl, rfl, rfl, rfl, rfl, rfl, rfl, rfl, rfl, rfl, fun _ _ => rfl⟩⟩
  · obtain ⟨rfl, rfl, rfl⟩ := h.2 q
    obtain ⟨hW, hsw⟩ := cz_wf hK hM
    refine ⟨-1, rfl, _, md_inWay I A nv ns hW x, fun r2 I2 A2 h2 => ?_⟩
    obtain ⟨rfl, rfl, rfl⟩ := h2.2 q
    exact ⟨rfl, hInv⟩
theorem pq_weight {G : am_G} (hst : am_sta G) (x : Int32) : cz_pair G MX7_weight MX8_weight 6 144 3 73 [.int x] := by
  intro I A hInv
  obtain ⟨nv, ns, rd, hJ⟩ := id hInv
  obtain ⟨hK, hM, hR, hr4, hrd, hL⟩ := id hJ
  obtain ⟨k1, k2, hnv, hns, -⟩ := id hK
  refine ⟨_, ce_weight I A hst nv ns hK rd hrd hr4 hL x, fun r I1 A1 h => ?_⟩
  by_cases q : mz_isV (nI nv) x
  · obtain ⟨j, hj, rfl, rfl, hwk⟩ := h.1 q
    have hJ1 := cz_Wk_J hJ (by omega) hwk
    obtain ⟨hK1, hM1, hR1, h41, hrd1, hL1⟩ := id hJ1
    obtain ⟨hW, hsw⟩ := cz_wf hK1 hM1
    refine ⟨_, rfl, _, md_weight I1 A1 nv ns hW (nI j), fun r2 I2 A2 h2 => ?_⟩
    obtain ⟨k, hk, rfl, rfl, rfl⟩ := h2.1 q
    obtain ⟨-, -, -, -, -, -, -, -, -, hcl2, hrg2, -⟩ := id hW
    obtain ⟨B1, hB1⟩ := mz_stl_ex hnv hns hsw hcl2 hrg2
    have f1 := (hL1.2.1 (by omega) A1 B1 (cz_M_sp hM1) hB1).1 j hj
    have f2 : B1 m_weights = mz_G nv ns A1 := by obtain ⟨k2, hm2, -, -, rfl⟩ := hB1; rfl
    exact ⟨by rw [nI_clamp (by omega), f1, f2], nv, ns, _, mz_fr_J hJ1 ⟨fun _ _ _ => rfl, (mz_lo_u (mz_lo_u (mz_lo_u (mz_lo_u (fun _ _ => rfl) (by decide)) (by decide)) (by decide)) (by decide)), rfl, rfl, rfl, rfl, rfl, rfl, rfl, rfl, rfl, rfl, rfl, rfl, rfl, fun _ _ => rfl⟩⟩
  · obtain ⟨rfl, rfl, rfl⟩ := h.2 q
    obtain ⟨hW, hsw⟩ := cz_wf hK hM
    refine ⟨-1, rfl, _, md_weight I A nv ns hW x, fun r2 I2 A2 h2 => ?_⟩
    obtain ⟨rfl, rfl, rfl⟩ := h2.2 q
    exact ⟨rfl, hInv⟩
theorem pq_home {G : am_G} (hst : am_sta G) (x : Int32) : cz_pair G MX7_home MX8_home 6 144 4 95 [.int x] := by
  intro I A hInv
  obtain ⟨nv, ns, rd, hJ⟩ := id hInv
  obtain ⟨hK, hM, hR, hr4, hrd, hL⟩ := id hJ
  obtain ⟨k1, k2, hnv, hns, -⟩ := id hK
  refine ⟨_, ce_home I A hst nv ns hK rd hrd hr4 hL x, fun r I1 A1 h => ?_⟩
  by_cases q : mz_isV (nI nv) x
  · obtain ⟨j, hj, rfl, rfl, hwk⟩ := h.1 q
    have hJ1 := cz_Wk_J hJ (by omega) hwk
    obtain ⟨hK1, hM1, hR1, h41, hrd1, hL1⟩ := id hJ1
    obtain ⟨hW, hsw⟩ := cz_wf hK1 hM1
    refine ⟨_, rfl, _, md_home I1 A1 nv ns hW (nI j), fun r2 I2 A2 h2 => ?_⟩
    obtain ⟨rfl, rfl, hs2⟩ := h2.1 q
    have f1 := (hL1.2.1 (by omega) A1 A2 (cz_M_sp hM1) hs2).2.2
    exact ⟨by rw [nI_clamp (by omega), f1], nv, ns, _, mz_fr_J hJ1 (mz_stl_fr hs2)⟩
  · obtain ⟨rfl, rfl, rfl⟩ := h.2 q
    obtain ⟨hW, hsw⟩ := cz_wf hK hM
    refine ⟨-1, rfl, _, md_home I A nv ns hW x, fun r2 I2 A2 h2 => ?_⟩
    obtain ⟨rfl, rfl, rfl⟩ := h2.2 q
    exact ⟨rfl, hInv⟩
theorem mz_in_V {n : Nat} {x : Int32} : mz_in n x ↔ mz_isV (nI n) x := by
  unfold mz_in mz_isV
  rw [Int32.not_le]
theorem pq_order {G : am_G} (hst : am_sta G) (x : Int32) : cz_pair G MX7_order MX8_order 6 144 4 95 [.int x] := by
  intro I A hInv
  obtain ⟨nv, ns, rd, hJ⟩ := id hInv
  obtain ⟨hK, hM, hR, hr4, hrd, hL⟩ := id hJ
  obtain ⟨k1, k2, hnv, hns, -⟩ := id hK
  refine ⟨_, ce_order I A hst nv ns hK rd hrd hr4 hL x, fun r I1 A1 h => ?_⟩
  by_cases q : mz_isV (nI nv) x
  · obtain ⟨j, hj, rfl, rfl, hwk⟩ := h.1 q
    have hJ1 := cz_Wk_J hJ (by omega) hwk
    obtain ⟨hK1, hM1, hR1, h41, hrd1, hL1⟩ := id hJ1
    obtain ⟨hW, hsw⟩ := cz_wf hK1 hM1
    refine ⟨_, rfl, _, md_order I1 A1 nv ns hW (nI j), fun r2 I2 A2 h2 => ?_⟩
    obtain ⟨rfl, rfl, hs2⟩ := h2.1 (mz_in_V.mpr q)
    have f1 := (hL1.2.1 (by omega) A1 A2 (cz_M_sp hM1) hs2).2.1 j hj
    exact ⟨by rw [nI_clamp (by omega), f1], nv, ns, _, mz_fr_J hJ1 (mz_stl_fr hs2)⟩
  · obtain ⟨rfl, rfl, rfl⟩ := h.2 q
    obtain ⟨hW, hsw⟩ := cz_wf hK hM
    refine ⟨-1, rfl, _, md_order I A nv ns hW x, fun r2 I2 A2 h2 => ?_⟩
    obtain ⟨rfl, rfl, rfl⟩ := h2.2 (fun z => q (mz_in_V.mp z))
    exact ⟨rfl, hInv⟩
/-- all but what the last run left -/
def cz_J0 (nv ns rd : Nat) (I A : Nat → Nat → Int32) : Prop := cz_K nv ns I A ∧ cz_M nv ns I A ∧ rd ≤ 4 ∧ I 0 11 = nI rd ∧ cz_L rd nv ns I A
theorem cz_J_0 {nv ns rd : Nat} {I A : Nat → Nat → Int32} (h : cz_J nv ns rd I A) : cz_J0 nv ns rd I A := ⟨h.1, h.2.1, h.2.2.2⟩
theorem cz_J0_run {nv ns rd : Nat} {I A : Nat → Nat → Int32} {a b : Int32} {f g h s : Nat → Int32} (hJ : cz_J0 nv ns rd I A) : cz_J0 nv ns rd (upI (upI I 36 5 a) 36 4 b) (upA (upA (upA (upA A 37 f) 39 g) 40 h) 38 s) := hJ
theorem cz_J0_fr {nv ns rd : Nat} {I A I2 A2 : Nat → Nat → Int32} (h : cz_J0 nv ns rd I A) (f : mz_fr nv I A I2 A2) : cz_J0 nv ns rd I2 A2 := by
  obtain ⟨hK, ⟨m1, m2, a1, a2, a3, a4, a5, a6, a7, a8⟩, h4, e, hL⟩ := h
  obtain ⟨hI, hA, i0, i2, i18, i19, c1, c2, c3, c4, c5, c6, c7, c8, c9, c10⟩ := f
  refine ⟨cz_K_r hI hA hK, ?_, h4, by rw [hI 0 11 (by decide)]; exact e, cz_L_r hI hA hL⟩
  unfold cz_M
  rw [i0, i2, c1, c2, c3, c4, c5, c6, c7, hA 2 (by omega), hA 5 (by omega), hA 6 (by omega), hA 7 (by omega), hA 8 (by omega), hA 16 (by omega), hA 35 (by omega)]
  exact ⟨m1, m2, a1, a2, a3, a4, a5, a6, a7, fun v hv => by rw [c10 v hv]; exact a8 v hv⟩
theorem cz_J0_IA {nv ns rd : Nat} {I A : Nat → Nat → Int32} {a b : Int32} {hd l sd sl : Nat → Int32} (h : cz_J0 nv ns rd I A) : cz_J0 nv ns rd (upI (upI I mM 18 a) mM 19 b) (mz_IA (mz_bg A) hd l sd sl) := h
theorem cz_J0_DA {nv ns rd : Nat} {I A : Nat → Nat → Int32} {a b : Int32} {nw l sd : Nat → Int32} (h : cz_J0 nv ns rd I A) : cz_J0 nv ns rd (upI (upI I mM 18 a) mM 19 b) (mz_DA (mz_bg A) nw l sd) := h
/-- the items of both -/
theorem cz_both {nv ns rd : Nat} {I1 A1 I2 A2 : Nat → Nat → Int32} (hJ : cz_J0 nv ns rd I1 A1) (hmd : mz_made nv ns I1 A1 I2 A2) :
    (∀ n, n ≤ 240 → A2 m_items 0 = nI n → ∀ i, i < n → mz_iw (A2 m_code) 0 i) ∧ (∀ n, n ≤ 240 → A2 m_items 1 = nI n → ∀ i, i < n → mz_iw (A2 m_code) 1600 i) ∧
    (3 ≤ rd → ∃ n, n ≤ 240 ∧ I1 25 4 = nI n ∧ A2 m_items 0 = nI n ∧ (∀ i, i < n → mz_i2 (cz_v A1) 0 i) ∧ ∀ i, i < n → ∀ r, r < 4 → cz_v A1 (0 + 4 * i + r) = A2 m_code (0 + 4 * i + r)) ∧
    (4 ≤ rd → ∃ n, n ≤ 240 ∧ I1 30 4 = nI n ∧ A2 m_items 1 = nI n ∧ (∀ i, i < n → mz_i2 (cz_tv A1) 1600 i) ∧ ∀ i, i < n → ∀ r, r < 4 → cz_tv A1 (1600 + 4 * i + r) = A2 m_code (1600 + 4 * i + r)) := by
  obtain ⟨hK, hM, -, -, hL⟩ := hJ
  obtain ⟨hW, hsw⟩ := cz_wf hK hM
  obtain ⟨-, -, hnv, hns, -, hcl, -⟩ := id hK
  obtain ⟨-, -, a1, -⟩ := id hM
  obtain ⟨B1, fe, it, c, n, f, n', hst, hcds, hn, hn', e0, e1, hlow, ht, w1, w2⟩ := mz_made_i2 hnv hns hsw (by rw [a1]; exact hcl) hmd
  have hsp := cz_M_sp hM
  refine ⟨fun m hm e => ?_, fun m hm e => ?_, fun h3 => ?_, fun h4 => ?_⟩
  · obtain rfl : n = m := (nI_eq (by omega) (by omega)).mp (e0.symm.trans e)
    exact fun i hi => (w1 i hi).1
  · obtain rfl : n' = m := (nI_eq (by omega) (by omega)).mp (e1.symm.trans e)
    exact fun i hi => (w2 i hi).1
  · obtain ⟨m, hm, em, hi2, -, hF⟩ := hL.2.2.1 h3
    obtain ⟨q1, q2⟩ := hF A1 B1 _ _ _ _ c n f hsp hst hcds
    subst q1
    exact ⟨m, hm, em, e0, hi2, fun i hi r hr => (q2 _ (by omega)).trans (hlow _ (by omega)).symm⟩
  · obtain ⟨m, hm, em, hi2, hF⟩ := hL.2.2.2 h4
    obtain ⟨q1, q2⟩ := hF A1 B1 _ _ _ _ c n f _ _ hsp hst hcds hn ht
    subst q1
    exact ⟨m, hm, em, e1, hi2, q2⟩
/-! count -/
theorem cz_cnt_n {nv : Nat} {cl hm : Nat → Int32} {cc : Nat} {p : Nat → Bool} : ∀ (m k : Nat), (∀ j, j < k + m → (p j = true ↔ mz_sl nv cl hm cc (100 + j))) → mz_cnt nv cl hm cc m (100 + k) (pc_n p k) = pc_n p (k + m)
  | 0, k, _ => rfl
  | m + 1, k, hp => by
    have e : pc_n p k + mz_c1 (mz_sl nv cl hm cc (100 + k)) = pc_n p (k + 1) := by
      show _ = pc_n p k + (p k).toNat
      by_cases q : p k = true
      · rw [← mz_c1_t ((hp k (by omega)).mp q), q]; rfl
      · rw [← mz_c1_f (fun z => q ((hp k (by omega)).mpr z)), Bool.eq_false_iff.mpr q]; rfl
    show mz_cnt nv cl hm cc m (100 + k + 1) (pc_n p k + mz_c1 (mz_sl nv cl hm cc (100 + k))) = _
    rw [e, show 100 + k + 1 = 100 + (k + 1) by omega, cz_cnt_n m (k + 1) (fun j hj => hp j (by omega)), show k + 1 + m = k + (m + 1) by omega]
theorem cz_cnt_e {nv ns cc : Nat} {I A : Nat → Nat → Int32} (hcc : cc < 2) (hK : cz_K nv ns I A) (h2 : cz_F2 nv ns A) : cz_bc (cz_po true (nI 100) (A 20) (A 3 cc) 24 0 (nI 0)) = nI (mz_cnt nv (A 2) (A 20) cc 24 100 0) := by
  obtain ⟨-, hh3⟩ := cz_homes hK h2
  obtain ⟨-, -, hnv, -, -, -, -, hmem, -⟩ := hK
  have hlo : bg_lo nv (A 3 cc) := fun i hi => ((hmem cc hcc i).mp hi).1
  have hb : ∀ k, k < 32 → (bg_t (cz_po true (nI 100) (A 20) (A 3 cc) 24 0 (nI 0)) k = true ↔ mz_sl nv (A 2) (A 20) cc (100 + k)) := fun k hk => by
    rw [cz_po1 hnv (fun u hu => Or.inr (hh3 u hu)) hlo hk]
    exact ⟨fun ⟨u, z1, z2, z3⟩ => ⟨u, z1, ((hmem cc hcc u).mp z2).2, z3⟩, fun ⟨u, z1, z2, z3⟩ => ⟨u, z1, (hmem cc hcc u).mpr ⟨z1, z2⟩, z3⟩⟩
  have h24 : bg_lo 24 (cz_po true (nI 100) (A 20) (A 3 cc) 24 0 (nI 0)) := fun i hi => by
    by_cases q : i < 32
    · obtain ⟨u, hu, -, e⟩ := (hb i q).mp hi
      obtain ⟨h, hh, e2⟩ := hh3 u hu
      have := (nI_eq (by omega) (by omega)).mp (e.symm.trans e2)
      omega
    · rw [bg_hi _ (by omega)] at hi; cases hi
  rw [cz_bc_e h24]
  have e := cz_cnt_n (p := fun k => bg_t (cz_po true (nI 100) (A 20) (A 3 cc) 24 0 (nI 0)) k) (nv := nv) (cl := A 2) (hm := A 20) (cc := cc) 24 0 (fun j hj => hb j (by omega))
  exact congrArg nI e.symm
theorem cz_out5 {x : Int32} (h : ∀ k, k ≤ 5 → ¬ x = nI k) : x.toInt < 0 ∨ 5 < x.toInt := by
  by_cases q : x < 0
  · exact Or.inl (by have := Int32.lt_iff_toInt_lt.mp q; exact this)
  · obtain ⟨j, hj, rfl⟩ := nI_of q
    have h5 : ¬ j ≤ 5 := fun z => h j z rfl
    refine Or.inr ?_
    have h6 : nI 5 < nI j := (nI_ltI (by omega) hj).mpr (by omega)
    have := Int32.lt_iff_toInt_lt.mp h6
    exact this
theorem pq_count0 {G : am_G} (hst : am_sta G) : cz_pair G MX7_count MX8_count 6 144 5 120 [.int (nI 0)] := by
  intro I A hInv
  obtain ⟨nv, ns, rd, hJ⟩ := id hInv
  obtain ⟨hK, hM, hR, hr4, hrd, hL⟩ := id hJ
  obtain ⟨k1, k2, hnv, hns, -⟩ := id hK
  refine ⟨_, ce_count0 I A hst nv ns hK rd hrd hr4 hL, fun r I1 A1 h => ?_⟩
  obtain ⟨rfl, rfl, rfl⟩ := h
  obtain ⟨hW, hsw⟩ := cz_wf hK hM
  refine ⟨_, rfl, _, md_count0 I A nv ns hW hsw, fun r2 I2 A2 h2 => ?_⟩
  obtain ⟨rfl, rfl, rfl⟩ := h2
  exact ⟨rfl, hInv⟩
theorem pq_count1 {G : am_G} (hst : am_sta G) : cz_pair G MX7_count MX8_count 6 144 5 120 [.int (nI 1)] := by
  intro I A hInv
  obtain ⟨nv, ns, rd, hJ⟩ := id hInv
  obtain ⟨hK, hM, hR, hr4, hrd, hL⟩ := id hJ
  obtain ⟨k1, k2, hnv, hns, -⟩ := id hK
  refine ⟨_, ce_count1 I A hst nv ns hK rd hrd hr4 hL, fun r I1 A1 h => ?_⟩
  obtain ⟨rfl, rfl, rfl⟩ := h
  obtain ⟨hW, hsw⟩ := cz_wf hK hM
  refine ⟨_, rfl, _, md_count1 I A nv ns hW hsw, fun r2 I2 A2 h2 => ?_⟩
  obtain ⟨rfl, rfl, rfl⟩ := h2
  exact ⟨rfl, hInv⟩
theorem pq_count2 {G : am_G} (hst : am_sta G) : cz_pair G MX7_count MX8_count 6 144 5 120 [.int (nI 2)] := by
  intro I A hInv
  obtain ⟨nv, ns, rd, hJ⟩ := id hInv
  obtain ⟨hK, hM, hR, hr4, hrd, hL⟩ := id hJ
  obtain ⟨k1, k2, hnv, hns, -⟩ := id hK
  refine ⟨_, ce_count2 I A hst nv ns hK rd hrd hr4 hL, fun r I1 A1 h => ?_⟩
  obtain ⟨rfl, hwk⟩ := h
  have hJ1 := cz_Wk_J hJ (by omega) hwk
  obtain ⟨hK1, hM1, hR1, h41, hrd1, hL1⟩ := id hJ1
  obtain ⟨hW, hsw⟩ := cz_wf hK1 hM1
  refine ⟨_, rfl, _, md_count2 I1 A1 nv ns hW hsw, fun r2 I2 A2 h2 => ?_⟩
  obtain ⟨rfl, hmd⟩ := h2
  obtain ⟨n, -, e1, e2, -⟩ := (cz_both (cz_J_0 hJ1) hmd).2.2.1 (Nat.le_max_right _ _)
  exact ⟨by rw [e1, e2], nv, ns, _, mz_fr_J hJ1 (mz_made_fr hmd)⟩
theorem pq_count3 {G : am_G} (hst : am_sta G) : cz_pair G MX7_count MX8_count 6 144 5 120 [.int (nI 3)] := by
  intro I A hInv
  obtain ⟨nv, ns, rd, hJ⟩ := id hInv
  obtain ⟨hK, hM, hR, hr4, hrd, hL⟩ := id hJ
  obtain ⟨k1, k2, hnv, hns, -⟩ := id hK
  refine ⟨_, ce_count3 I A hst nv ns hK rd hrd hr4 hL, fun r I1 A1 h => ?_⟩
  obtain ⟨rfl, hwk⟩ := h
  have hJ1 := cz_Wk_J hJ (by omega) hwk
  obtain ⟨hK1, hM1, hR1, h41, hrd1, hL1⟩ := id hJ1
  obtain ⟨hW, hsw⟩ := cz_wf hK1 hM1
  refine ⟨_, rfl, _, md_count3 I1 A1 nv ns hW hsw, fun r2 I2 A2 h2 => ?_⟩
  obtain ⟨rfl, hmd⟩ := h2
  obtain ⟨n, -, e1, e2, -⟩ := (cz_both (cz_J_0 hJ1) hmd).2.2.2 (Nat.le_max_right _ _)
  exact ⟨by rw [e1, e2], nv, ns, _, mz_fr_J hJ1 (mz_made_fr hmd)⟩
theorem pq_count4 {G : am_G} (hst : am_sta G) : cz_pair G MX7_count MX8_count 6 144 5 120 [.int (nI 4)] := by
  intro I A hInv
  obtain ⟨nv, ns, rd, hJ⟩ := id hInv
  obtain ⟨hK, hM, hR, hr4, hrd, hL⟩ := id hJ
  obtain ⟨k1, k2, hnv, hns, -⟩ := id hK
  refine ⟨_, ce_count4 I A hst nv ns hK rd hrd hr4 hL, fun r I1 A1 h => ?_⟩
  obtain ⟨rfl, hwk⟩ := h
  have hJ1 := cz_Wk_J hJ (by omega) hwk
  obtain ⟨hK1, hM1, hR1, h41, hrd1, hL1⟩ := id hJ1
  obtain ⟨hW, hsw⟩ := cz_wf hK1 hM1
  refine ⟨_, rfl, _, md_count4 I1 A1 nv ns hW hsw, fun r2 I2 A2 h2 => ?_⟩
  obtain ⟨rfl, rfl, hs2⟩ := h2
  have hF2 := hL1.2.1 (by omega)
  have f1 := (hF2 A1 A2 (cz_M_sp hM1) hs2).2.2
  exact ⟨by rw [cz_cnt_e (by omega) hK1 hF2, (mz_stl_k hs2).2.2.2.2.1, hM1.2.2.1, f1], nv, ns, _, mz_fr_J hJ1 (mz_stl_fr hs2)⟩
theorem pq_count5 {G : am_G} (hst : am_sta G) : cz_pair G MX7_count MX8_count 6 144 5 120 [.int (nI 5)] := by
  intro I A hInv
  obtain ⟨nv, ns, rd, hJ⟩ := id hInv
  obtain ⟨hK, hM, hR, hr4, hrd, hL⟩ := id hJ
  obtain ⟨k1, k2, hnv, hns, -⟩ := id hK
  refine ⟨_, ce_count5 I A hst nv ns hK rd hrd hr4 hL, fun r I1 A1 h => ?_⟩
  obtain ⟨rfl, hwk⟩ := h
  have hJ1 := cz_Wk_J hJ (by omega) hwk
  obtain ⟨hK1, hM1, hR1, h41, hrd1, hL1⟩ := id hJ1
  obtain ⟨hW, hsw⟩ := cz_wf hK1 hM1
  refine ⟨_, rfl, _, md_count5 I1 A1 nv ns hW hsw, fun r2 I2 A2 h2 => ?_⟩
  obtain ⟨rfl, rfl, hs2⟩ := h2
  have hF2 := hL1.2.1 (by omega)
  have f1 := (hF2 A1 A2 (cz_M_sp hM1) hs2).2.2
  exact ⟨by rw [cz_cnt_e (by omega) hK1 hF2, (mz_stl_k hs2).2.2.2.2.1, hM1.2.2.1, f1], nv, ns, _, mz_fr_J hJ1 (mz_stl_fr hs2)⟩
theorem pq_count {G : am_G} (hst : am_sta G) (x : Int32) : cz_pair G MX7_count MX8_count 6 144 5 120 [.int x] := by
  by_cases q0 : x = nI 0
  · subst q0; exact pq_count0 hst
  by_cases q1 : x = nI 1
  · subst q1; exact pq_count1 hst
  by_cases q2 : x = nI 2
  · subst q2; exact pq_count2 hst
  by_cases q3 : x = nI 3
  · subst q3; exact pq_count3 hst
  by_cases q4 : x = nI 4
  · subst q4; exact pq_count4 hst
  by_cases q5 : x = nI 5
  · subst q5; exact pq_count5 hst
  have ho := cz_out5 (x := x) (fun k hk => by
    rcases (by omega : k = 0 ∨ k = 1 ∨ k = 2 ∨ k = 3 ∨ k = 4 ∨ k = 5) with z | z | z | z | z | z <;> subst z <;> assumption)
  intro I A hInv
  refine ⟨_, ce_countO I A x ho, fun r I1 A1 h => ?_⟩
  obtain ⟨rfl, rfl, rfl⟩ := h
  refine ⟨-1, rfl, _, md_countO I A x ho, fun r2 I2 A2 h2 => ?_⟩
  obtain ⟨rfl, rfl, rfl⟩ := h2
  exact ⟨rfl, hInv⟩
theorem cz_part_e {c o x y z : Nat → Int32} {ba j : Nat} (h : ∀ r, r < 4 → cz_c o x y z (4 * j + r) = c (ba + 4 * j + r)) (p : Int32) : ((¬ p < 0 ∧ p ≤ nI 3) → cz_part o x y z j p = c (ba + 4 * j + p.toNatClampNeg)) ∧ (¬ (¬ p < 0 ∧ p ≤ nI 3) → cz_part o x y z j p = -1) := by
  refine ⟨fun hp => ?_, fun hp => ?_⟩
  · obtain ⟨q, hq, rfl⟩ := mz_le (nv := 3) (by decide) hp.1 hp.2
    rw [nI_clamp (by omega), ← h q (by omega)]
    rcases (by omega : q = 0 ∨ q = 1 ∨ q = 2 ∨ q = 3) with e | e | e | e <;> subst e
    · rw [show 4 * j + 0 = 4 * j from rfl, cz_c_0]; exact if_pos rfl
    · rw [cz_c_1]; unfold cz_part; rw [if_neg (by decide), if_pos rfl]
    · rw [cz_c_2]; unfold cz_part; rw [if_neg (by decide), if_neg (by decide), if_pos rfl]
    · rw [cz_c_3]; unfold cz_part; rw [if_neg (by decide), if_neg (by decide), if_neg (by decide), if_pos rfl]
  · unfold cz_part
    rw [if_neg (fun z => hp (by rw [z]; decide)), if_neg (fun z => hp (by rw [z]; decide)), if_neg (fun z => hp (by rw [z]; decide)), if_neg (fun z => hp (by rw [z]; decide))]
theorem pq_item1 {G : am_G} (hst : am_sta G) (i p : Int32) : cz_pair G MX7_item MX8_item 6 144 5 117 [.int (nI 1), .int i, .int p] := by
  intro I A hInv
  obtain ⟨nv, ns, rd, hJ⟩ := id hInv
  obtain ⟨hK, hM, hR, hr4, hrd, hL⟩ := id hJ
  obtain ⟨k1, k2, hnv, hns, -⟩ := id hK
  refine ⟨_, ce_item1 I A hst nv ns hK rd hrd hr4 hL i p, fun r I1 A1 h => ?_⟩
  obtain ⟨hwk, n, hn, en, hin, hout⟩ := h
  have hJ1 := cz_Wk_J hJ (by omega) hwk
  obtain ⟨hK1, hM1, hR1, h41, hrd1, hL1⟩ := id hJ1
  obtain ⟨hW, hsw⟩ := cz_wf hK1 hM1
  by_cases qi : ¬ i < 0 ∧ i < nI n
  · obtain ⟨j, hj, rfl, rfl⟩ := hin qi
    refine ⟨_, rfl, _, md_item1 I1 A1 nv ns hW hsw (nI j) p, fun r2 I2 A2 h2 => ?_⟩
    by_cases qp : ¬ p < 0 ∧ p ≤ nI 3
    · obtain ⟨hmd, rfl⟩ := h2.1 qp
      obtain ⟨n2, hn2, e1, e2, -, hc⟩ := (cz_both (cz_J_0 hJ1) hmd).2.2.1 (Nat.le_max_right _ _)
      obtain rfl : n = n2 := (nI_eq (by omega) (by omega)).mp (en.symm.trans e1)
      have hp := (cz_part_e (c := A2 m_code) (ba := 0) (j := j) (o := A1 26) (x := A1 27) (y := A1 28) (z := A1 29) (fun r hr => by have := hc j hj r hr; rw [Nat.zero_add] at this; rw [Nat.zero_add]; exact this) p).1 qp
      refine ⟨?_, nv, ns, _, mz_fr_J hJ1 (mz_made_fr hmd)⟩
      rw [e2, if_pos qi, nI_clamp (by omega), hp]
    · obtain ⟨rfl, rfl, rfl⟩ := h2.2 qp
      refine ⟨?_, nv, ns, _, hJ1⟩
      rw [(cz_part_e (c := cz_c (A1 26) (A1 27) (A1 28) (A1 29)) (ba := 0) (j := j) (fun r hr => by rw [Nat.zero_add]) p).2 qp]
  · have hr1 := hout qi
    subst hr1
    refine ⟨_, rfl, _, md_item1 I1 A1 nv ns hW hsw i p, fun r2 I2 A2 h2 => ?_⟩
    by_cases qp : ¬ p < 0 ∧ p ≤ nI 3
    · obtain ⟨hmd, rfl⟩ := h2.1 qp
      obtain ⟨n2, hn2, e1, e2, -, hc⟩ := (cz_both (cz_J_0 hJ1) hmd).2.2.1 (Nat.le_max_right _ _)
      obtain rfl : n = n2 := (nI_eq (by omega) (by omega)).mp (en.symm.trans e1)
      refine ⟨?_, nv, ns, _, mz_fr_J hJ1 (mz_made_fr hmd)⟩
      rw [e2, if_neg qi]
    · obtain ⟨rfl, rfl, rfl⟩ := h2.2 qp
      exact ⟨rfl, nv, ns, _, hJ1⟩
theorem pq_item2 {G : am_G} (hst : am_sta G) (i p : Int32) : cz_pair G MX7_item MX8_item 6 144 5 117 [.int (nI 2), .int i, .int p] := by
  intro I A hInv
  obtain ⟨nv, ns, rd, hJ⟩ := id hInv
  obtain ⟨hK, hM, hR, hr4, hrd, hL⟩ := id hJ
  obtain ⟨k1, k2, hnv, hns, -⟩ := id hK
  refine ⟨_, ce_item2 I A hst nv ns hK rd hrd hr4 hL i p, fun r I1 A1 h => ?_⟩
  obtain ⟨hwk, n, hn, en, hin, hout⟩ := h
  have hJ1 := cz_Wk_J hJ (by omega) hwk
  obtain ⟨hK1, hM1, hR1, h41, hrd1, hL1⟩ := id hJ1
  obtain ⟨hW, hsw⟩ := cz_wf hK1 hM1
  by_cases qi : ¬ i < 0 ∧ i < nI n
  · obtain ⟨j, hj, rfl, rfl⟩ := hin qi
    refine ⟨_, rfl, _, md_item2 I1 A1 nv ns hW hsw (nI j) p, fun r2 I2 A2 h2 => ?_⟩
    by_cases qp : ¬ p < 0 ∧ p ≤ nI 3
    · obtain ⟨hmd, rfl⟩ := h2.1 qp
      obtain ⟨n2, hn2, e1, e2, -, hc⟩ := (cz_both (cz_J_0 hJ1) hmd).2.2.2 (Nat.le_max_right _ _)
      obtain rfl : n = n2 := (nI_eq (by omega) (by omega)).mp (en.symm.trans e1)
      have hp := (cz_part_e (c := A2 m_code) (ba := 1600) (j := j) (o := A1 31) (x := A1 32) (y := A1 33) (z := A1 34) (fun r hr => by have := hc j hj r hr; unfold cz_tv cz_u at this; rw [show 1600 + 4 * j + r - 1600 = 4 * j + r by omega] at this; exact this) p).1 qp
      refine ⟨?_, nv, ns, _, mz_fr_J hJ1 (mz_made_fr hmd)⟩
      rw [e2, if_pos qi, nI_clamp (by omega), hp]
    · obtain ⟨rfl, rfl, rfl⟩ := h2.2 qp
      refine ⟨?_, nv, ns, _, hJ1⟩
      rw [(cz_part_e (c := cz_c (A1 31) (A1 32) (A1 33) (A1 34)) (ba := 0) (j := j) (fun r hr => by rw [Nat.zero_add]) p).2 qp]
  · have hr1 := hout qi
    subst hr1
    refine ⟨_, rfl, _, md_item2 I1 A1 nv ns hW hsw i p, fun r2 I2 A2 h2 => ?_⟩
    by_cases qp : ¬ p < 0 ∧ p ≤ nI 3
    · obtain ⟨hmd, rfl⟩ := h2.1 qp
      obtain ⟨n2, hn2, e1, e2, -, hc⟩ := (cz_both (cz_J_0 hJ1) hmd).2.2.2 (Nat.le_max_right _ _)
      obtain rfl : n = n2 := (nI_eq (by omega) (by omega)).mp (en.symm.trans e1)
      refine ⟨?_, nv, ns, _, mz_fr_J hJ1 (mz_made_fr hmd)⟩
      rw [e2, if_neg qi]
    · obtain ⟨rfl, rfl, rfl⟩ := h2.2 qp
      exact ⟨rfl, nv, ns, _, hJ1⟩
theorem pq_item {G : am_G} (hst : am_sta G) (w i p : Int32) : cz_pair G MX7_item MX8_item 6 144 5 117 [.int w, .int i, .int p] := by
  by_cases q1 : w = nI 1
  · subst q1; exact pq_item1 hst i p
  by_cases q2 : w = nI 2
  · subst q2; exact pq_item2 hst i p
  have ho : w < nI 1 ∨ nI 2 < w := by
    by_cases q : w < 0
    · exact Or.inl (Int32.lt_trans q (by decide))
    · obtain ⟨j, hj, rfl⟩ := nI_of q
      have e1 : ¬ j = 1 := fun z => q1 (by rw [z])
      have e2 : ¬ j = 2 := fun z => q2 (by rw [z])
      by_cases q3 : j < 1
      · exact Or.inl ((nI_ltI hj (by omega)).mpr q3)
      · exact Or.inr ((nI_ltI (by omega) hj).mpr (by omega))
  intro I A hInv
  refine ⟨_, ce_itemO I A w i p q1 q2, fun r I1 A1 h => ?_⟩
  obtain ⟨rfl, rfl, rfl⟩ := h
  refine ⟨-1, rfl, _, md_itemO I A w i p ho, fun r2 I2 A2 h2 => ?_⟩
  obtain ⟨rfl, rfl, rfl⟩ := h2
  exact ⟨rfl, hInv⟩
