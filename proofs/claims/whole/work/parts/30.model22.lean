abbrev mz_DS : Type := (Nat → Int32) × (Nat → Int32) × (Nat → Int32) × Nat × Nat
/-- a step is done: the values, the memory, what was said, how much, which comes next -/
def mz_do1 (op fa fb fc : Nat → Int32) (s : Nat) (nw l sd : Nat → Int32) (t : Nat) : mz_DS := match (op s).toNatClampNeg with
  | 0 => (upd nw (fa s).toNatClampNeg (fb s), l, sd, t, s + 1)
  | 1 => (upd nw (fa s).toNatClampNeg (nw (fb s).toNatClampNeg), l, sd, t, s + 1)
  | 2 => (upd nw (fa s).toNatClampNeg (mz_rk (nI 2) (nw (fb s).toNatClampNeg) (nw (fc s).toNatClampNeg)), l, sd, t, s + 1)
  | 3 => (upd nw (fa s).toNatClampNeg (mz_rk (nI 3) (nw (fb s).toNatClampNeg) (nw (fc s).toNatClampNeg)), l, sd, t, s + 1)
  | 4 => (upd nw (fa s).toNatClampNeg (mz_rk (nI 4) (nw (fb s).toNatClampNeg) (nw (fc s).toNatClampNeg)), l, sd, t, s + 1)
  | 5 => (upd nw (fa s).toNatClampNeg (l (mz_cl (nw (fb s).toNatClampNeg + fc s))), l, sd, t, s + 1)
  | 6 => (nw, upd l (mz_cl (nw (fb s).toNatClampNeg + fc s)) (nw (fa s).toNatClampNeg), sd, t, s + 1)
  | 7 => (nw, l, sd, t, if nw (fb s).toNatClampNeg ≤ nw (fa s).toNatClampNeg then s + 1 else (fc s).toNatClampNeg)
  | 8 => (nw, l, sd, t, (fa s).toNatClampNeg)
  | 9 => (nw, l, mz_sy t sd (nw (fa s).toNatClampNeg), t + 1, s + 1)
  | _ => (nw, l, sd, t, 60)
set_option maxRecDepth 100000 in
set_option maxHeartbeats 4000000 in
theorem md_doStep {G : am_G} (I A : Nat → Nat → Int32) (nv : Nat) (hnv : nv ≤ 24) (s : Nat) (hs : s < 60) (hsw : mz_sw nv (A m_ops s) (A m_first s) (A m_second s) (A m_third s)) (t : Nat) (ht : I mM 19 = nI t) (ht2 : t < 4000) : Cm G MX8_doStep 1 22 [.ref mM, .int (nI s)] I A (fun r I' A' => r = some (.int (nI (mz_do1 (A m_ops) (A m_first) (A m_second) (A m_third) s (A m_now) (A m_left) (A m_said) t).2.2.2.2)) ∧ upI I mM 19 (nI (mz_do1 (A m_ops) (A m_first) (A m_second) (A m_third) s (A m_now) (A m_left) (A m_said) t).2.2.2.1) = I' ∧ mz_DA A (mz_do1 (A m_ops) (A m_first) (A m_second) (A m_third) s (A m_now) (A m_left) (A m_said) t).1 (mz_do1 (A m_ops) (A m_first) (A m_second) (A m_third) s (A m_now) (A m_left) (A m_said) t).2.1 (mz_do1 (A m_ops) (A m_first) (A m_second) (A m_third) s (A m_now) (A m_left) (A m_said) t).2.2.1 = A') := by
  obtain ⟨k, h1, ek, h3, h4, h5, h6, h7, h8⟩ := id hsw
  rcases (show k = 0 ∨ k = 1 ∨ k = 2 ∨ k = 3 ∨ k = 4 ∨ k = 5 ∨ k = 6 ∨ k = 7 ∨ k = 8 ∨ k = 9 ∨ k = 10 by omega) with rfl | rfl | rfl | rfl | rfl | rfl | rfl | rfl | rfl | rfl | rfl
  · obtain ⟨a, ha, ea⟩ := h3 (by omega)
    have h := md_doStep0 (G := G) I A s hs t ht ht2 ek a (by omega) ea
    unfold mz_do1
    rw [ek, nI_clamp (show 0 < 2 ^ 31 by omega)]
    simp only [ea, nI_clamp (show a < 2 ^ 31 by omega)]
    exact h
  · obtain ⟨a, ha, ea⟩ := h3 (by omega)
    obtain ⟨b, hb, eb⟩ := h4 (by omega)
    have h := md_doStep1 (G := G) I A s hs t ht ht2 ek a (by omega) ea b (by omega) eb
    unfold mz_do1
    rw [ek, nI_clamp (show 1 < 2 ^ 31 by omega)]
    simp only [ea, eb, nI_clamp (show a < 2 ^ 31 by omega), nI_clamp (show b < 2 ^ 31 by omega)]
    exact h
  · obtain ⟨a, ha, ea⟩ := h3 (by omega)
    obtain ⟨b, hb, eb⟩ := h4 (by omega)
    obtain ⟨c, hc, ec⟩ := h5 (by omega)
    have h := md_doStep2 (G := G) I A s hs t ht ht2 ek a (by omega) ea b (by omega) eb c (by omega) ec
    unfold mz_do1
    rw [ek, nI_clamp (show 2 < 2 ^ 31 by omega)]
    simp only [ea, eb, ec, nI_clamp (show a < 2 ^ 31 by omega), nI_clamp (show b < 2 ^ 31 by omega), nI_clamp (show c < 2 ^ 31 by omega)]
    exact h
  · obtain ⟨a, ha, ea⟩ := h3 (by omega)
    obtain ⟨b, hb, eb⟩ := h4 (by omega)
    obtain ⟨c, hc, ec⟩ := h5 (by omega)
    have h := md_doStep3 (G := G) I A s hs t ht ht2 ek a (by omega) ea b (by omega) eb c (by omega) ec
    unfold mz_do1
    rw [ek, nI_clamp (show 3 < 2 ^ 31 by omega)]
    simp only [ea, eb, ec, nI_clamp (show a < 2 ^ 31 by omega), nI_clamp (show b < 2 ^ 31 by omega), nI_clamp (show c < 2 ^ 31 by omega)]
    exact h
  · obtain ⟨a, ha, ea⟩ := h3 (by omega)
    obtain ⟨b, hb, eb⟩ := h4 (by omega)
    obtain ⟨c, hc, ec⟩ := h5 (by omega)
    have h := md_doStep4 (G := G) I A s hs t ht ht2 ek a (by omega) ea b (by omega) eb c (by omega) ec
    unfold mz_do1
    rw [ek, nI_clamp (show 4 < 2 ^ 31 by omega)]
    simp only [ea, eb, ec, nI_clamp (show a < 2 ^ 31 by omega), nI_clamp (show b < 2 ^ 31 by omega), nI_clamp (show c < 2 ^ 31 by omega)]
    exact h
  · obtain ⟨a, ha, ea⟩ := h3 (by omega)
    obtain ⟨b, hb, eb⟩ := h4 (by omega)
    obtain ⟨c, hc, ec⟩ := h6 (by omega)
    have h := md_doStep5 (G := G) I A s hs t ht ht2 ek a (by omega) ea b (by omega) eb c (by omega) ec
    unfold mz_do1
    rw [ek, nI_clamp (show 5 < 2 ^ 31 by omega)]
    simp only [ea, eb, ec, nI_clamp (show a < 2 ^ 31 by omega), nI_clamp (show b < 2 ^ 31 by omega), nI_clamp (show c < 2 ^ 31 by omega)]
    exact h
  · obtain ⟨a, ha, ea⟩ := h3 (by omega)
    obtain ⟨b, hb, eb⟩ := h4 (by omega)
    obtain ⟨c, hc, ec⟩ := h6 (by omega)
    have h := md_doStep6 (G := G) I A s hs t ht ht2 ek a (by omega) ea b (by omega) eb c (by omega) ec
    unfold mz_do1
    rw [ek, nI_clamp (show 6 < 2 ^ 31 by omega)]
    simp only [ea, eb, ec, nI_clamp (show a < 2 ^ 31 by omega), nI_clamp (show b < 2 ^ 31 by omega), nI_clamp (show c < 2 ^ 31 by omega)]
    exact h
  · obtain ⟨a, ha, ea⟩ := h3 (by omega)
    obtain ⟨b, hb, eb⟩ := h4 (by omega)
    obtain ⟨c, hc, ec⟩ := h7 (by omega)
    have h := md_doStep7 (G := G) I A s hs t ht ht2 ek a (by omega) ea b (by omega) eb c (by omega) ec
    unfold mz_do1
    rw [ek, nI_clamp (show 7 < 2 ^ 31 by omega)]
    simp only [ea, eb, ec, nI_clamp (show a < 2 ^ 31 by omega), nI_clamp (show b < 2 ^ 31 by omega), nI_clamp (show c < 2 ^ 31 by omega)]
    exact h
  · obtain ⟨a, ha, ea⟩ := h8 (by omega)
    have h := md_doStep8 (G := G) I A s hs t ht ht2 ek a (by omega) ea
    unfold mz_do1
    rw [ek, nI_clamp (show 8 < 2 ^ 31 by omega)]
    simp only [ea, nI_clamp (show a < 2 ^ 31 by omega)]
    exact h
  · obtain ⟨a, ha, ea⟩ := h3 (by omega)
    have h := md_doStep9 (G := G) I A s hs t ht ht2 ek a (by omega) ea
    unfold mz_do1
    rw [ek, nI_clamp (show 9 < 2 ^ 31 by omega)]
    simp only [ea, nI_clamp (show a < 2 ^ 31 by omega)]
    exact h
  · have h := md_doStep10 (G := G) I A s hs t ht ht2 ek 
    unfold mz_do1
    rw [ek, nI_clamp (show 10 < 2 ^ 31 by omega)]
    exact h
