/-- both runs end: then they say and leave the same -/
theorem pz_pres {nv ns n : Nat} {A A1 : Nat → Nat → Int32} {fe it fi c0 c f nw0 hd0 sl0 l sd : Nat → Int32} {m m' : Nat} (hnv : nv ≤ 24) (hns : ns ≤ 60) (hsw : ∀ s, s < ns → mz_sw nv (A m_ops s) (A m_first s) (A m_second s) (A m_third s)) (hcl : ∀ v, v < nv → ∃ cc, cc < 2 ∧ A m_classes v = nI cc) (h : mz_stl nv ns A A1) (hc : mz_cds (A m_ops) (A m_first) (A m_second) (A m_third) (A m_classes) (A1 m_homes) ns 0 fe it c0 0 fi c n f) (hn : n ≤ 4 * ns)
    (hnw : ∀ v, v < nv → nw0 v = 0) (hhd : ∀ r, r < 32 → hd0 r = 0) (hsl : ∀ r, r < 64 → sl0 r = 0) (hS : ns ≤ (mz_rnS ns (A m_ops) (A m_first) (A m_second) (A m_third) m 0 0 nw0 l sd 0).1) (hI : n ≤ (mz_rnI n (mz_rts ns n f n 0 c) 0 m' 0 0 hd0 l sd sl0 0).1) :
    (mz_rnI n (mz_rts ns n f n 0 c) 0 m' 0 0 hd0 l sd sl0 0).2.2.2.1 = (mz_rnS ns (A m_ops) (A m_first) (A m_second) (A m_third) m 0 0 nw0 l sd 0).2.2.2.1 ∧ (mz_rnI n (mz_rts ns n f n 0 c) 0 m' 0 0 hd0 l sd sl0 0).2.2.2.2.1 = (mz_rnS ns (A m_ops) (A m_first) (A m_second) (A m_third) m 0 0 nw0 l sd 0).2.2.2.2.1 ∧ (mz_rnI n (mz_rts ns n f n 0 c) 0 m' 0 0 hd0 l sd sl0 0).2.2.2.2.2.2 = (mz_rnS ns (A m_ops) (A m_first) (A m_second) (A m_third) m 0 0 nw0 l sd 0).2.2.2.2.2 := by
  have hk : mz_vok nv (A m_classes) (A1 m_homes) := fun v hv => ⟨hcl v hv, mz_stl_hg hnv h v hv⟩
  obtain ⟨-, -, -, P, p0, pn, hP⟩ := pz_cds_code hnv hsw ns 0 fe it c0 0 fi c n f (by omega) hc
  have hlv := mz_stl_lv hnv hns hsw h
  have e0 : (if 0 < ns then P 0 else n) = 0 := by
    split
    · exact p0
    · rw [show ns = 0 by omega] at pn; omega
  obtain ⟨k, i', hd', sl', h1, h2⟩ := pz_sim (n := n) (c := mz_rts ns n f n 0 c) (tg := fun x => if nI ns ≤ x then nI n else f x.toNatClampNeg) (fN := fun x => if x < ns then P x else n) hk hnv hlv hns hsw
    (fun x hx => by
      by_cases q : x < ns
      · rw [if_pos q, if_neg (by rw [nI_leI (by omega) (by omega)]; omega), nI_clamp (by omega), (hP x (by omega) q).1]
      · rw [if_neg q, if_pos (by rw [nI_leI (by omega) (by omega)]; omega)])
    (fun x => by
      by_cases q : x < ns
      · rw [if_pos q]; have := hP x (by omega) q; omega
      · rw [if_neg q]; exact Nat.le_refl _)
    (fun x hx => if_neg (by omega)) (by omega)
    (fun s hs => by
      obtain ⟨-, -, h3, h4⟩ := hP s (by omega) hs
      have e : (if s + 1 < ns then P (s + 1) else n) = P (s + 1) := by
        split
        · rfl
        · rw [show s + 1 = ns by omega, pn]
      rw [if_pos hs, e]
      exact pz_rts_code h3 h4)
    m 0 0 nw0 l sd hd0 sl0 0 0 (Or.inl e0.symm) (fun v hv _ => by
      rw [hnw v hv]
      obtain ⟨C, H, hC, eC, eH, q⟩ := pz_v hk hv
      rcases q with ⟨q, hH⟩ | ⟨q, hH⟩
      · rw [pz_hv_r hC eC eH q hH]; exact hhd _ (by omega)
      · rw [pz_hv_s hC eC eH q hH.2]; exact hsl _ (by omega)) hS
  exact pz_det h2 k _ m' 0 h1 hI
