theorem cz_homes {nv ns : Nat} {I A : Nat → Nat → Int32} (hK : cz_K nv ns I A) (h2 : cz_F2 nv ns A) : mz_vok nv (A 2) (A 20) ∧ ∀ v, v < nv → mz_h3 (A 20 v) := by
  obtain ⟨B, B1, hB, hst⟩ := cz_stl_ex hK
  obtain ⟨-, -, hnv, hns, hsw, hcl, -⟩ := hK
  obtain ⟨-, -, e⟩ := h2 B B1 hB hst
  obtain ⟨e1, e2, e3, e4, -⟩ := hB
  rw [e]
  have han : ∀ s, s < ns → mz_anew (B m_ops) (B m_first) s = (-1) ∨ ∃ a, a < nv ∧ mz_anew (B m_ops) (B m_first) s = nI a := fun s hs => by rw [e1, e2]; exact mz_sw_anew (fb := A 7) (fc := A 8) (hsw s hs)
  exact ⟨fun v hv => ⟨hcl v hv, mz_stl_hg hnv hst v hv⟩, mz_stl_h3 hnv han hst⟩
theorem cz_mkF3 {nv ns n : Nat} {I A : Nat → Nat → Int32} {fe it c f f2 : Nat → Int32} (hK : cz_K nv ns I A) (h2 : cz_F2 nv ns A) (hc : mz_cds (A 5) (A 6) (A 7) (A 8) (A 2) (A 20) ns 0 fe it (cz_v A) 0 (A 22) c n f) (hn : n ≤ 4 * ns) : cz_F3 nv ns (upI I 25 4 (nI n)) (upA (cz_CC A (mz_rts ns n f n 0 c)) 22 f2) := by
  obtain ⟨hvok, hh3⟩ := cz_homes hK h2
  obtain ⟨-, -, hnv, hns, hsw, hcl, -⟩ := id hK
  have ev : cz_v (upA (cz_CC A (mz_rts ns n f n 0 c)) 22 f2) = mz_rts ns n f n 0 c := cz_v_22.trans (cz_vCC (A := A))
  obtain ⟨w1, w2⟩ := mz_cds_iw hvok hnv hsw ns 0 fe it (cz_v A) 0 (A 22) c n f (by omega) (by omega) (fun j hj => absurd hj (Nat.not_lt_zero _)) (fun j hj => absurd hj (Nat.not_lt_zero _)) hns hc
  have w3 := mz_C24_cds hnv hh3 hsw ns 0 fe it (cz_v A) 0 (A 22) c n f (by omega) (fun j hj => absurd hj (Nat.not_lt_zero _)) hc
  have hok := mz_cds_ok hsw ns 0 fe it (cz_v A) 0 (A 22) c n f (by omega) (fun j hj => absurd hj (Nat.not_lt_zero _)) hc
  have hi2 := mz_i2_rts hns (by omega) w2 hok (fun i hi => ⟨w1 i hi, w3 i hi⟩)
  obtain ⟨-, -, -, P, -, -, hP⟩ := pz_cds_code hnv hsw ns 0 fe it (cz_v A) 0 (A 22) c n f (by omega) hc
  have tg : ∀ x, x ≤ 60 → ∃ y, y ≤ n ∧ (if nI ns ≤ nI x then nI n else f (nI x).toNatClampNeg) = nI y := by
    intro x hx
    by_cases q : ns ≤ x
    · exact ⟨n, Nat.le_refl _, if_pos ((nI_leI (by omega) (by omega)).mpr q)⟩
    · obtain ⟨p1, p2, p3, -⟩ := hP x (Nat.zero_le _) (by omega)
      exact ⟨P x, by omega, by rw [if_neg (fun z => q ((nI_leI (by omega) (by omega)).mp z)), nI_clamp (by omega), p1]⟩
  refine ⟨n, by omega, rfl, by rw [ev]; exact hi2, ?_, ?_⟩
  · rw [ev]
    intro i hi
    obtain ⟨h1, h2, h3, h4⟩ := pz_rts_at (ns := ns) (n := n) (f := f) n 0 c (Nat.zero_le i) (by omega) (⟨rfl, rfl, rfl, rfl⟩ : pz_at c i _ _ _ _)
    refine ⟨fun q => ?_, fun q => ?_⟩
    · rw [h1] at q
      obtain ⟨x, hx, ex⟩ := hok i hi (Or.inl q)
      rw [show mz_of0 c i = 3 from if_pos q] at ex
      rw [h4, if_pos q, ex]
      exact tg x hx
    · rw [h1] at q
      obtain ⟨x, hx, ex⟩ := hok i hi (Or.inr q)
      rw [show mz_of0 c i = 1 from if_neg (by rw [q]; decide)] at ex
      rw [h2, if_pos q, ex]
      exact tg x hx
  · intro B B1 fe' it' c0 f0 c' n' f' hB hst hc'
    have hB0 : cz_sp nv A B := hB
    obtain ⟨-, -, e⟩ := h2 B B1 hB0 hst
    obtain ⟨e1, e2, e3, e4, e5, -⟩ := hB0
    rw [e1, e2, e3, e4, e5, ← e] at hc'
    obtain ⟨q1, q2, q3⟩ := cz_cds_c hnv hsw ns 0 fe it fe' it' (cz_v A) c0 (A 22) f0 0 c c' f f' n n' (by omega) (fun j hj => by omega) (fun j hj => absurd hj (Nat.not_lt_zero _)) hc hc'
    subst q1
    rw [ev]
    exact ⟨rfl, cz_rts_c hns q2 q3 hok⟩
theorem cz_u_TT {c : Nat → Int32} {j : Nat} (hj : 1600 ≤ j) : cz_u (fun i => c (1600 + 4 * i)) (fun i => c (1600 + 4 * i + 1)) (fun i => c (1600 + 4 * i + 2)) (fun i => c (1600 + 4 * i + 3)) j = c j := by
  have h := congrFun (cz_c_i (fun k => c (1600 + k))) (j - 1600)
  unfold cz_u
  exact h.trans (congrArg c (by omega))
theorem cz_tg_ok {c c' : Nat → Int32} {n : Nat} (hc : ∀ k, k < 4 * n → c' (1600 + k) = c k) (h : cz_tg c n) : tz_ok c' n := by
  intro t ht
  have e0 : c' (1600 + 4 * t) = c (4 * t) := hc _ (by omega)
  have e1 : c' (1600 + 4 * t + 1) = c (4 * t + 1) := hc (4 * t + 1) (by omega)
  have e3 : c' (1600 + 4 * t + 3) = c (4 * t + 3) := hc (4 * t + 3) (by omega)
  obtain ⟨h7, h8⟩ := h t ht
  unfold mz_leads
  rw [e0, e1, e3]
  by_cases q7 : c (4 * t) = nI 7
  · rw [if_pos q7]; exact Or.inr (h7 q7)
  · rw [if_neg q7]
    by_cases q8 : c (4 * t) = nI 8
    · rw [if_pos q8]; exact Or.inr (h8 q8)
    · rw [if_neg q8]; exact Or.inl rfl
theorem cz_mkF4 {nv ns n n2 : Nat} {I I' A : Nat → Nat → Int32} {c c2 g : Nat → Int32} (h3 : cz_F3 nv ns I A) (hn : I 25 4 = nI n) (hn4 : n ≤ 240) (hI : I' 30 4 = nI n2) (hc : ∀ k, k < 4 * n → c (1600 + k) = cz_v A k) (ht : mz_tids n c c2 n2) : cz_F4 nv ns I' (upA (cz_TT A c2) 24 g) := by
  obtain ⟨m, hm, em, hi2, -, hB⟩ := h3
  obtain rfl : n = m := (nI_eq (by omega) (by omega)).mp (hn.symm.trans em)
  have hle := mz_tids_le _ _ _ _ ht
  obtain ⟨k1, -⟩ := mz_i2_tids n c c2 n2 (by omega) (fun t h => mz_i2_c (hi2 t h) (fun r hr => by rw [show 1600 + 4 * t + r = 1600 + (4 * t + r) by omega, hc _ (by omega), Nat.zero_add])) ht
  refine ⟨n2, by omega, hI, fun i hi => mz_i2_c (k1 i hi) (fun r hr => cz_u_TT (by omega)), ?_⟩
  intro B B1 fe it c0 f0 cc n' f cR nR hsp hst hcds hn' htR
  obtain ⟨e1, e2⟩ := hB B B1 fe it c0 f0 cc n' f hsp hst hcds
  subst e1
  obtain ⟨q1, q2⟩ := tz_tids_c n c _ c2 cR n2 nR (fun t h r hr => by
    rw [mz_cp_at _ _ _ _ (by omega), if_pos (by omega), show 1600 + 4 * t + r = 1600 + (4 * t + r) by omega, hc _ (by omega), e2 _ (by omega)]
    exact congrArg _ (by omega)) ht htR
  exact ⟨q1, fun t h r hr => (cz_u_TT (by omega)).trans (q2 t h r hr)⟩
