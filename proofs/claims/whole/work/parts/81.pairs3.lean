theorem pq_run0 {G : am_G} (hst : am_sta G) (gr : Int32) : cz_pair G MX7_run MX8_run 6 144 5 117 [.int (nI 0), .int gr] := by
  intro I A hInv
  obtain ⟨nv, ns, rd, hJ⟩ := id hInv
  obtain ⟨hK, hM, hR, hr4, hrd, hL⟩ := id hJ
  obtain ⟨k1, k2, hnv, hns, -⟩ := id hK
  refine ⟨_, ce_run0 I A hst nv ns hK rd hrd hr4 hL gr, fun r I1 A1 h => ?_⟩
  by_cases q : ¬ gr < 0 ∧ gr ≤ nI 2000
  · obtain ⟨g, hg, rfl, I1, A1, hwk, n, hn, en, rfl, rfl, s', rfl⟩ := h.1 q
    have hJ1 := cz_Wk_J hJ (by omega) hwk
    have hJ0 : cz_J0 nv ns _ (upI (upI I1 36 5 (nI (cz_rn n (cz_c (A1 5) (A1 6) (A1 7) (A1 8)) g A1 37 39 40 38).2.1)) 36 4 (nI (cz_rn n (cz_c (A1 5) (A1 6) (A1 7) (A1 8)) g A1 37 39 40 38).2.2.2.2.2.2)) (upA (upA (upA (upA A1 37 (cz_rn n (cz_c (A1 5) (A1 6) (A1 7) (A1 8)) g A1 37 39 40 38).2.2.1) 39 (cz_rn n (cz_c (A1 5) (A1 6) (A1 7) (A1 8)) g A1 37 39 40 38).2.2.2.1) 40 (cz_rn n (cz_c (A1 5) (A1 6) (A1 7) (A1 8)) g A1 37 39 40 38).2.2.2.2.1) 38 s') := cz_J0_run (cz_J_0 hJ1)
    obtain ⟨hK1, hM1, -⟩ := id hJ0
    obtain ⟨hW, hsw⟩ := cz_wf hK1 hM1
    have hmem : A1 m_memory = A1 35 := hJ1.2.1.2.2.2.2.2.2.2.2.1
    obtain rfl : n = ns := (nI_eq (by omega) (by omega)).mp (en.symm.trans hJ1.1.2.1)
    have hswC : ∀ s, s < n → mz_sw nv (A1 5 s) (A1 6 s) (A1 7 s) (A1 8 s) := hJ1.1.2.2.2.2.1
    have hiw : ∀ i, i < n → cz_iw (A1 5) (A1 6) (A1 7) (A1 8) i := fun i hi => (cz_iw_sw hnv (hswC i hi)).1
    refine ⟨_, rfl, _, md_run0 (upI (upI I1 36 5 (nI (cz_rn n (cz_c (A1 5) (A1 6) (A1 7) (A1 8)) g A1 37 39 40 38).2.1)) 36 4 (nI (cz_rn n (cz_c (A1 5) (A1 6) (A1 7) (A1 8)) g A1 37 39 40 38).2.2.2.2.2.2)) (upA (upA (upA (upA A1 37 (cz_rn n (cz_c (A1 5) (A1 6) (A1 7) (A1 8)) g A1 37 39 40 38).2.2.1) 39 (cz_rn n (cz_c (A1 5) (A1 6) (A1 7) (A1 8)) g A1 37 39 40 38).2.2.2.1) 40 (cz_rn n (cz_c (A1 5) (A1 6) (A1 7) (A1 8)) g A1 37 39 40 38).2.2.2.2.1) 38 s') nv n hW hsw (nI g), fun r2 I3 A3 h2 => ?_⟩
    have h2' := h2.1 q
    rw [nI_clamp (show g < 2 ^ 31 by omega)] at h2'
    obtain ⟨I2, A2, hmd, e1, e2, e3⟩ := h2'
    have hJ2 := cz_J0_fr hJ0 (mz_made_fr hmd)
    obtain ⟨fI, fA, i0, i2, i18, i19, c1, c2, c3, c4, c5, c6, c7, c8, c9, c10⟩ := mz_made_fr hmd
    have o1 : A2 m_ops = A1 5 := c2.trans hJ1.2.1.2.2.2.1
    have o2 : A2 m_first = A1 6 := c3.trans hJ1.2.1.2.2.2.2.1
    have o3 : A2 m_second = A1 7 := c4.trans hJ1.2.1.2.2.2.2.2.1
    have o4 : A2 m_third = A1 8 := c5.trans hJ1.2.1.2.2.2.2.2.2.1
    rw [o1, o2, o3, o4] at e1 e2 e3
    have s0 : rs (mz_fill 32 0 (A1 37)) (mz_bg A2 m_now) (mz_cpf (A1 35) 64 0 (A1 39)) (mz_bg A2 m_left) (A1 40) (mz_bg A2 m_said) 0 := by
      refine ⟨fun s hs => ?_, fun s hs => ?_, fun s hs => absurd hs (by omega)⟩
      · show mz_fill 32 0 (A1 37) s = mz_fill 24 0 (A2 m_now) s
        rw [mz_fill_at, mz_fill_at, if_pos (by omega), if_pos (by omega)]
      · show mz_cpf (A1 35) 64 0 (A1 39) s = mz_cpf (A2 m_memory) 64 0 (A2 m_left) s
        rw [cz_cpf_at, cz_cpf_at, if_pos (by omega), if_pos (by omega), c7]
        exact (congrFun hmem s).symm
    obtain ⟨a1, a2, a3, a4, a5⟩ := rs_run hnv hns hswC g 0 0 0 _ _ _ _ _ _ (cz_sl (mz_fill 48 0 (A1 38))) 0 (Or.inl rfl) s0
    have ht := cz_rn_le hiw g 0 0 (mz_fill 32 0 (A1 37)) (mz_cpf (A1 35) 64 0 (A1 39)) (A1 40) (cz_sl (mz_fill 48 0 (A1 38))) 0
    subst e1 e2 e3
    obtain ⟨hK4, hM4, h44, hrd4, hL4⟩ := cz_J0_DA (a := nI (mz_rnS n (A1 5) (A1 6) (A1 7) (A1 8) g 0 0 (mz_bg A2 m_now) (mz_bg A2 m_left) (mz_bg A2 m_said) 0).2.1) (b := nI (mz_rnS n (A1 5) (A1 6) (A1 7) (A1 8) g 0 0 (mz_bg A2 m_now) (mz_bg A2 m_left) (mz_bg A2 m_said) 0).2.2.2.2.2) (nw := (mz_rnS n (A1 5) (A1 6) (A1 7) (A1 8) g 0 0 (mz_bg A2 m_now) (mz_bg A2 m_left) (mz_bg A2 m_said) 0).2.2.1) (l := (mz_rnS n (A1 5) (A1 6) (A1 7) (A1 8) g 0 0 (mz_bg A2 m_now) (mz_bg A2 m_left) (mz_bg A2 m_said) 0).2.2.2.1) (sd := (mz_rnS n (A1 5) (A1 6) (A1 7) (A1 8) g 0 0 (mz_bg A2 m_now) (mz_bg A2 m_left) (mz_bg A2 m_said) 0).2.2.2.2.1) hJ2
    refine ⟨?_, nv, n, _, hK4, hM4, ⟨(cz_rn n (cz_c (A1 5) (A1 6) (A1 7) (A1 8)) g A1 37 39 40 38).2.2.2.2.2.2, Nat.le_trans ht (by omega), ?_, ?_, ?_, ?_, ?_⟩, h44, hrd4, hL4⟩
    · by_cases z : n ≤ (cz_rn n (cz_c (A1 5) (A1 6) (A1 7) (A1 8)) g A1 37 39 40 38).1
      · rw [if_pos z, if_pos (a1.mp z)]
      · rw [if_neg z, if_neg (fun z2 => z (a1.mpr z2))]
    · exact fI 36 4 (by decide)
    · exact congrArg nI a3.symm
    · exact (fI 36 5 (by decide)).trans (congrArg nI a2)
    · intro s hs; exact (congrFun (fA 39 (by omega)) s).trans (a4 s hs)
    · intro s hs; exact (congrFun (fA 40 (by omega)) s).trans (a5 s hs)
  · obtain ⟨rfl, rfl, rfl⟩ := h.2 q
    obtain ⟨hW, hsw⟩ := cz_wf hK hM
    refine ⟨-1, rfl, _, md_run0 I A nv ns hW hsw gr, fun r2 I2 A2 h2 => ?_⟩
    obtain ⟨rfl, rfl, rfl⟩ := h2.2 q
    exact ⟨rfl, hInv⟩
theorem pq_run1 {G : am_G} (hst : am_sta G) (gr : Int32) : cz_pair G MX7_run MX8_run 6 144 5 117 [.int (nI 1), .int gr] := by
  intro I A hInv
  obtain ⟨nv, ns, rd, hJ⟩ := id hInv
  obtain ⟨hK, hM, hR, hr4, hrd, hL⟩ := id hJ
  obtain ⟨k1, k2, hnv, hns, -⟩ := id hK
  refine ⟨_, ce_run1 I A hst nv ns hK rd hrd hr4 hL gr, fun r I1 A1 h => ?_⟩
  by_cases q : ¬ gr < 0 ∧ gr ≤ nI 2000
  · obtain ⟨g, hg, rfl, I1, A1, hwk, n, hn, en, rfl, rfl, s', rfl⟩ := h.1 q
    have hJ1 := cz_Wk_J hJ (by omega) hwk
    have hJ0 : cz_J0 nv ns _ (upI (upI I1 36 5 (nI (cz_rn n (cz_c (A1 26) (A1 27) (A1 28) (A1 29)) g A1 37 39 40 38).2.1)) 36 4 (nI (cz_rn n (cz_c (A1 26) (A1 27) (A1 28) (A1 29)) g A1 37 39 40 38).2.2.2.2.2.2)) (upA (upA (upA (upA A1 37 (cz_rn n (cz_c (A1 26) (A1 27) (A1 28) (A1 29)) g A1 37 39 40 38).2.2.1) 39 (cz_rn n (cz_c (A1 26) (A1 27) (A1 28) (A1 29)) g A1 37 39 40 38).2.2.2.1) 40 (cz_rn n (cz_c (A1 26) (A1 27) (A1 28) (A1 29)) g A1 37 39 40 38).2.2.2.2.1) 38 s') := cz_J0_run (cz_J_0 hJ1)
    obtain ⟨hK1, hM1, -⟩ := id hJ0
    obtain ⟨hW, hsw⟩ := cz_wf hK1 hM1
    have hmem : A1 m_memory = A1 35 := hJ1.2.1.2.2.2.2.2.2.2.2.1
    refine ⟨_, rfl, _, md_run1 (upI (upI I1 36 5 (nI (cz_rn n (cz_c (A1 26) (A1 27) (A1 28) (A1 29)) g A1 37 39 40 38).2.1)) 36 4 (nI (cz_rn n (cz_c (A1 26) (A1 27) (A1 28) (A1 29)) g A1 37 39 40 38).2.2.2.2.2.2)) (upA (upA (upA (upA A1 37 (cz_rn n (cz_c (A1 26) (A1 27) (A1 28) (A1 29)) g A1 37 39 40 38).2.2.1) 39 (cz_rn n (cz_c (A1 26) (A1 27) (A1 28) (A1 29)) g A1 37 39 40 38).2.2.2.1) 40 (cz_rn n (cz_c (A1 26) (A1 27) (A1 28) (A1 29)) g A1 37 39 40 38).2.2.2.2.1) 38 s') nv ns hW hsw (fun _ _ z => (cz_both hJ0 z).1) (nI g), fun r2 I3 A3 h2 => ?_⟩
    have h2' := h2.1 q
    rw [nI_clamp (show g < 2 ^ 31 by omega)] at h2'
    obtain ⟨I2, A2, hmd, nn, hnn, enn, e1, e2, e3⟩ := h2'
    have hJ2 := cz_J0_fr hJ0 (mz_made_fr hmd)
    obtain ⟨fI, fA, i0, i2, i18, i19, c1, c2, c3, c4, c5, c6, c7, c8, c9, c10⟩ := mz_made_fr hmd
    obtain ⟨n3, hn3, q1, q2, hi2, hc⟩ := (cz_both hJ0 hmd).2.2.1 (Nat.le_max_right _ _)
    obtain rfl : n = n3 := (nI_eq (by omega) (by omega)).mp (en.symm.trans q1)
    obtain rfl : n = nn := (nI_eq (by omega) (by omega)).mp (q2.symm.trans enn)
    have hiw : ∀ i, i < n → cz_iw (A1 26) (A1 27) (A1 28) (A1 29) i := fun i hi => cz_iw_of (hi2 i hi) (by unfold cz_v; rw [Nat.zero_add, cz_c_0]; rfl) (by unfold cz_v; rw [Nat.zero_add, cz_c_1]; rfl) (by unfold cz_v; rw [Nat.zero_add, cz_c_2]; rfl) (by unfold cz_v; rw [Nat.zero_add, cz_c_3]; rfl)
    have s0 : rz (mz_fill 32 0 (A1 37)) (mz_bg A2 m_held) (mz_cpf (A1 35) 64 0 (A1 39)) (mz_bg A2 m_left) (A1 40) (mz_bg A2 m_said) (cz_sl (mz_fill 48 0 (A1 38))) (mz_bg A2 m_slots) 0 := by
      refine ⟨fun s hs => ?_, fun s hs => ?_, fun s hs => absurd hs (by omega), fun k y hk hy => ?_⟩
      · show mz_fill 32 0 (A1 37) s = mz_fill 32 0 (A2 m_held) s
        rw [mz_fill_at, mz_fill_at, if_pos (by omega), if_pos (by omega)]
      · show mz_cpf (A1 35) 64 0 (A1 39) s = mz_cpf (A2 m_memory) 64 0 (A2 m_left) s
        rw [cz_cpf_at, cz_cpf_at, if_pos (by omega), if_pos (by omega), c7]
        exact (congrFun hmem s).symm
      · show _ = mz_fill 64 0 (A2 m_slots) (32 * k + y)
        rw [cz_sl_0 (by omega), mz_fill_at, if_pos (by omega)]; rfl
    obtain ⟨a1, a2, a3, a4, a5⟩ := rz_run (c := cz_c (A1 26) (A1 27) (A1 28) (A1 29)) (c' := A2 m_code) (ba := 0) (ba' := 0) (n := n) (hi2) (fun i hi r hr => by rw [← hc i hi r hr]; rfl) g 0 0 _ _ _ _ _ _ _ _ 0 s0
    have ht := cz_rn_le hiw g 0 0 (mz_fill 32 0 (A1 37)) (mz_cpf (A1 35) 64 0 (A1 39)) (A1 40) (cz_sl (mz_fill 48 0 (A1 38))) 0
    subst e1 e2 e3
    obtain ⟨hK4, hM4, h44, hrd4, hL4⟩ := cz_J0_IA (a := nI (mz_rnI n (A2 m_code) 0 g 0 0 (mz_bg A2 m_held) (mz_bg A2 m_left) (mz_bg A2 m_said) (mz_bg A2 m_slots) 0).2.1) (b := nI (mz_rnI n (A2 m_code) 0 g 0 0 (mz_bg A2 m_held) (mz_bg A2 m_left) (mz_bg A2 m_said) (mz_bg A2 m_slots) 0).2.2.2.2.2.2) (hd := (mz_rnI n (A2 m_code) 0 g 0 0 (mz_bg A2 m_held) (mz_bg A2 m_left) (mz_bg A2 m_said) (mz_bg A2 m_slots) 0).2.2.1) (l := (mz_rnI n (A2 m_code) 0 g 0 0 (mz_bg A2 m_held) (mz_bg A2 m_left) (mz_bg A2 m_said) (mz_bg A2 m_slots) 0).2.2.2.1) (sd := (mz_rnI n (A2 m_code) 0 g 0 0 (mz_bg A2 m_held) (mz_bg A2 m_left) (mz_bg A2 m_said) (mz_bg A2 m_slots) 0).2.2.2.2.1) (sl := (mz_rnI n (A2 m_code) 0 g 0 0 (mz_bg A2 m_held) (mz_bg A2 m_left) (mz_bg A2 m_said) (mz_bg A2 m_slots) 0).2.2.2.2.2.1) hJ2
    refine ⟨?_, nv, ns, _, hK4, hM4, ⟨(cz_rn n (cz_c (A1 26) (A1 27) (A1 28) (A1 29)) g A1 37 39 40 38).2.2.2.2.2.2, Nat.le_trans ht (by omega), ?_, ?_, ?_, ?_, ?_⟩, h44, hrd4, hL4⟩
    · rw [a1]
    · exact fI 36 4 (by decide)
    · exact congrArg nI a3.symm
    · exact (fI 36 5 (by decide)).trans (congrArg nI a2)
    · intro s hs; exact (congrFun (fA 39 (by omega)) s).trans (a4 s hs)
    · intro s hs; exact (congrFun (fA 40 (by omega)) s).trans (a5 s hs)
  · obtain ⟨rfl, rfl, rfl⟩ := h.2 q
    obtain ⟨hW, hsw⟩ := cz_wf hK hM
    refine ⟨-1, rfl, _, md_run1 I A nv ns hW hsw (fun _ _ z => (cz_both (cz_J_0 hJ) z).1) gr, fun r2 I2 A2 h2 => ?_⟩
    obtain ⟨rfl, rfl, rfl⟩ := h2.2 q
    exact ⟨rfl, hInv⟩
theorem pq_run2 {G : am_G} (hst : am_sta G) (gr : Int32) : cz_pair G MX7_run MX8_run 6 144 5 117 [.int (nI 2), .int gr] := by
  intro I A hInv
  obtain ⟨nv, ns, rd, hJ⟩ := id hInv
  obtain ⟨hK, hM, hR, hr4, hrd, hL⟩ := id hJ
  obtain ⟨k1, k2, hnv, hns, -⟩ := id hK
  refine ⟨_, ce_run2 I A hst nv ns hK rd hrd hr4 hL gr, fun r I1 A1 h => ?_⟩
  by_cases q : ¬ gr < 0 ∧ gr ≤ nI 2000
  · obtain ⟨g, hg, rfl, I1, A1, hwk, n, hn, en, rfl, rfl, s', rfl⟩ := h.1 q
    have hJ1 := cz_Wk_J hJ (by omega) hwk
    have hJ0 : cz_J0 nv ns _ (upI (upI I1 36 5 (nI (cz_rn n (cz_c (A1 31) (A1 32) (A1 33) (A1 34)) g A1 37 39 40 38).2.1)) 36 4 (nI (cz_rn n (cz_c (A1 31) (A1 32) (A1 33) (A1 34)) g A1 37 39 40 38).2.2.2.2.2.2)) (upA (upA (upA (upA A1 37 (cz_rn n (cz_c (A1 31) (A1 32) (A1 33) (A1 34)) g A1 37 39 40 38).2.2.1) 39 (cz_rn n (cz_c (A1 31) (A1 32) (A1 33) (A1 34)) g A1 37 39 40 38).2.2.2.1) 40 (cz_rn n (cz_c (A1 31) (A1 32) (A1 33) (A1 34)) g A1 37 39 40 38).2.2.2.2.1) 38 s') := cz_J0_run (cz_J_0 hJ1)
    obtain ⟨hK1, hM1, -⟩ := id hJ0
    obtain ⟨hW, hsw⟩ := cz_wf hK1 hM1
    have hmem : A1 m_memory = A1 35 := hJ1.2.1.2.2.2.2.2.2.2.2.1
    refine ⟨_, rfl, _, md_run2 (upI (upI I1 36 5 (nI (cz_rn n (cz_c (A1 31) (A1 32) (A1 33) (A1 34)) g A1 37 39 40 38).2.1)) 36 4 (nI (cz_rn n (cz_c (A1 31) (A1 32) (A1 33) (A1 34)) g A1 37 39 40 38).2.2.2.2.2.2)) (upA (upA (upA (upA A1 37 (cz_rn n (cz_c (A1 31) (A1 32) (A1 33) (A1 34)) g A1 37 39 40 38).2.2.1) 39 (cz_rn n (cz_c (A1 31) (A1 32) (A1 33) (A1 34)) g A1 37 39 40 38).2.2.2.1) 40 (cz_rn n (cz_c (A1 31) (A1 32) (A1 33) (A1 34)) g A1 37 39 40 38).2.2.2.2.1) 38 s') nv ns hW hsw (fun _ _ z => (cz_both hJ0 z).2.1) (nI g), fun r2 I3 A3 h2 => ?_⟩
    have h2' := h2.1 q
    rw [nI_clamp (show g < 2 ^ 31 by omega)] at h2'
    obtain ⟨I2, A2, hmd, nn, hnn, enn, e1, e2, e3⟩ := h2'
    have hJ2 := cz_J0_fr hJ0 (mz_made_fr hmd)
    obtain ⟨fI, fA, i0, i2, i18, i19, c1, c2, c3, c4, c5, c6, c7, c8, c9, c10⟩ := mz_made_fr hmd
    obtain ⟨n3, hn3, q1, q2, hi2, hc⟩ := (cz_both hJ0 hmd).2.2.2 (Nat.le_max_right _ _)
    obtain rfl : n = n3 := (nI_eq (by omega) (by omega)).mp (en.symm.trans q1)
    obtain rfl : n = nn := (nI_eq (by omega) (by omega)).mp (q2.symm.trans enn)
    have hiw : ∀ i, i < n → cz_iw (A1 31) (A1 32) (A1 33) (A1 34) i := fun i hi => cz_iw_of (hi2 i hi) (by unfold cz_tv cz_u; rw [show 1600 + 4 * i - 1600 = 4 * i by omega, cz_c_0]; rfl) (by unfold cz_tv cz_u; rw [show 1600 + 4 * i + 1 - 1600 = 4 * i + 1 by omega, cz_c_1]; rfl) (by unfold cz_tv cz_u; rw [show 1600 + 4 * i + 2 - 1600 = 4 * i + 2 by omega, cz_c_2]; rfl) (by unfold cz_tv cz_u; rw [show 1600 + 4 * i + 3 - 1600 = 4 * i + 3 by omega, cz_c_3]; rfl)
    have s0 : rz (mz_fill 32 0 (A1 37)) (mz_bg A2 m_held) (mz_cpf (A1 35) 64 0 (A1 39)) (mz_bg A2 m_left) (A1 40) (mz_bg A2 m_said) (cz_sl (mz_fill 48 0 (A1 38))) (mz_bg A2 m_slots) 0 := by
      refine ⟨fun s hs => ?_, fun s hs => ?_, fun s hs => absurd hs (by omega), fun k y hk hy => ?_⟩
      · show mz_fill 32 0 (A1 37) s = mz_fill 32 0 (A2 m_held) s
        rw [mz_fill_at, mz_fill_at, if_pos (by omega), if_pos (by omega)]
      · show mz_cpf (A1 35) 64 0 (A1 39) s = mz_cpf (A2 m_memory) 64 0 (A2 m_left) s
        rw [cz_cpf_at, cz_cpf_at, if_pos (by omega), if_pos (by omega), c7]
        exact (congrFun hmem s).symm
      · show _ = mz_fill 64 0 (A2 m_slots) (32 * k + y)
        rw [cz_sl_0 (by omega), mz_fill_at, if_pos (by omega)]; rfl
    obtain ⟨a1, a2, a3, a4, a5⟩ := rz_run (c := cz_c (A1 31) (A1 32) (A1 33) (A1 34)) (c' := A2 m_code) (ba := 0) (ba' := 1600) (n := n) (fun i hi => mz_i2_c (hi2 i hi) (fun r hr => by show _ = cz_c (A1 31) (A1 32) (A1 33) (A1 34) (1600 + 4 * i + r - 1600); rw [show 1600 + 4 * i + r - 1600 = 0 + 4 * i + r by omega])) (fun i hi r hr => by rw [← hc i hi r hr]; show cz_c (A1 31) (A1 32) (A1 33) (A1 34) (1600 + 4 * i + r - 1600) = _; rw [show 1600 + 4 * i + r - 1600 = 0 + 4 * i + r by omega]) g 0 0 _ _ _ _ _ _ _ _ 0 s0
    have ht := cz_rn_le hiw g 0 0 (mz_fill 32 0 (A1 37)) (mz_cpf (A1 35) 64 0 (A1 39)) (A1 40) (cz_sl (mz_fill 48 0 (A1 38))) 0
    subst e1 e2 e3
    obtain ⟨hK4, hM4, h44, hrd4, hL4⟩ := cz_J0_IA (a := nI (mz_rnI n (A2 m_code) 1600 g 0 0 (mz_bg A2 m_held) (mz_bg A2 m_left) (mz_bg A2 m_said) (mz_bg A2 m_slots) 0).2.1) (b := nI (mz_rnI n (A2 m_code) 1600 g 0 0 (mz_bg A2 m_held) (mz_bg A2 m_left) (mz_bg A2 m_said) (mz_bg A2 m_slots) 0).2.2.2.2.2.2) (hd := (mz_rnI n (A2 m_code) 1600 g 0 0 (mz_bg A2 m_held) (mz_bg A2 m_left) (mz_bg A2 m_said) (mz_bg A2 m_slots) 0).2.2.1) (l := (mz_rnI n (A2 m_code) 1600 g 0 0 (mz_bg A2 m_held) (mz_bg A2 m_left) (mz_bg A2 m_said) (mz_bg A2 m_slots) 0).2.2.2.1) (sd := (mz_rnI n (A2 m_code) 1600 g 0 0 (mz_bg A2 m_held) (mz_bg A2 m_left) (mz_bg A2 m_said) (mz_bg A2 m_slots) 0).2.2.2.2.1) (sl := (mz_rnI n (A2 m_code) 1600 g 0 0 (mz_bg A2 m_held) (mz_bg A2 m_left) (mz_bg A2 m_said) (mz_bg A2 m_slots) 0).2.2.2.2.2.1) hJ2
    refine ⟨?_, nv, ns, _, hK4, hM4, ⟨(cz_rn n (cz_c (A1 31) (A1 32) (A1 33) (A1 34)) g A1 37 39 40 38).2.2.2.2.2.2, Nat.le_trans ht (by omega), ?_, ?_, ?_, ?_, ?_⟩, h44, hrd4, hL4⟩
    · rw [a1]
    · exact fI 36 4 (by decide)
    · exact congrArg nI a3.symm
    · exact (fI 36 5 (by decide)).trans (congrArg nI a2)
    · intro s hs; exact (congrFun (fA 39 (by omega)) s).trans (a4 s hs)
    · intro s hs; exact (congrFun (fA 40 (by omega)) s).trans (a5 s hs)
  · obtain ⟨rfl, rfl, rfl⟩ := h.2 q
    obtain ⟨hW, hsw⟩ := cz_wf hK hM
    refine ⟨-1, rfl, _, md_run2 I A nv ns hW hsw (fun _ _ z => (cz_both (cz_J_0 hJ) z).2.1) gr, fun r2 I2 A2 h2 => ?_⟩
    obtain ⟨rfl, rfl, rfl⟩ := h2.2 q
    exact ⟨rfl, hInv⟩
theorem pq_run {G : am_G} (hst : am_sta G) (w gr : Int32) : cz_pair G MX7_run MX8_run 6 144 5 117 [.int w, .int gr] := by
  by_cases q0 : w = nI 0
  · subst q0; exact pq_run0 hst gr
  by_cases q1 : w = nI 1
  · subst q1; exact pq_run1 hst gr
  by_cases q2 : w = nI 2
  · subst q2; exact pq_run2 hst gr
  have ho : w < 0 ∨ nI 2 < w := by
    by_cases q : w < 0
    · exact Or.inl q
    · obtain ⟨j, hj, rfl⟩ := nI_of q
      have e0 : ¬ j = 0 := fun z => q0 (by rw [z])
      have e1 : ¬ j = 1 := fun z => q1 (by rw [z])
      have e2 : ¬ j = 2 := fun z => q2 (by rw [z])
      exact Or.inr ((nI_ltI (by omega) hj).mpr (by omega))
  intro I A hInv
  refine ⟨_, ce_runO I A w gr ho, fun r I1 A1 h => ?_⟩
  obtain ⟨rfl, rfl, rfl⟩ := h
  refine ⟨-1, rfl, _, md_runO I A w gr ho, fun r2 I2 A2 h2 => ?_⟩
  obtain ⟨rfl, rfl, rfl⟩ := h2
  exact ⟨rfl, hInv⟩
