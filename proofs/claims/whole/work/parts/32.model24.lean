/-- an item as the code has it -/
def mz_iw (c : Nat → Int32) (ba i : Nat) : Prop := ∃ k, k ≤ 12 ∧ c (ba + 4 * i) = nI k ∧ (k ≤ 7 ∨ k = 9 ∨ 11 ≤ k → ∃ x, x < 32 ∧ c (ba + 4 * i + 1) = nI x) ∧ ((1 ≤ k ∧ k ≤ 7) ∨ 11 ≤ k → ∃ y, y < 32 ∧ c (ba + 4 * i + 2) = nI y) ∧ (2 ≤ k ∧ k ≤ 4 → ∃ z, z < 32 ∧ c (ba + 4 * i + 3) = nI z) ∧ (k = 7 → ∃ z, z ≤ 400 ∧ c (ba + 4 * i + 3) = nI z) ∧ (k = 8 → ∃ x, x ≤ 400 ∧ c (ba + 4 * i + 1) = nI x)
abbrev mz_IS : Type := (Nat → Int32) × (Nat → Int32) × (Nat → Int32) × (Nat → Int32) × Nat × Nat
/-- an item is done -/
def mz_di1 (c : Nat → Int32) (ba i : Nat) (hd l sd sl : Nat → Int32) (t : Nat) : mz_IS := match (c (ba + 4 * i)).toNatClampNeg with
  | 0 => (upd hd (c (ba + 4 * i + 1)).toNatClampNeg (c (ba + 4 * i + 2)), l, sd, sl, t, i + 1)
  | 1 => (upd hd (c (ba + 4 * i + 1)).toNatClampNeg (hd (c (ba + 4 * i + 2)).toNatClampNeg), l, sd, sl, t, i + 1)
  | 2 => (upd hd (c (ba + 4 * i + 1)).toNatClampNeg (mz_rk (nI 2) (hd (c (ba + 4 * i + 2)).toNatClampNeg) (hd (c (ba + 4 * i + 3)).toNatClampNeg)), l, sd, sl, t, i + 1)
  | 3 => (upd hd (c (ba + 4 * i + 1)).toNatClampNeg (mz_rk (nI 3) (hd (c (ba + 4 * i + 2)).toNatClampNeg) (hd (c (ba + 4 * i + 3)).toNatClampNeg)), l, sd, sl, t, i + 1)
  | 4 => (upd hd (c (ba + 4 * i + 1)).toNatClampNeg (mz_rk (nI 4) (hd (c (ba + 4 * i + 2)).toNatClampNeg) (hd (c (ba + 4 * i + 3)).toNatClampNeg)), l, sd, sl, t, i + 1)
  | 5 => (upd hd (c (ba + 4 * i + 1)).toNatClampNeg (l (mz_cl (hd (c (ba + 4 * i + 2)).toNatClampNeg + (c (ba + 4 * i + 3))))), l, sd, sl, t, i + 1)
  | 6 => (hd, upd l (mz_cl (hd (c (ba + 4 * i + 2)).toNatClampNeg + (c (ba + 4 * i + 3)))) (hd (c (ba + 4 * i + 1)).toNatClampNeg), sd, sl, t, i + 1)
  | 7 => (hd, l, sd, sl, t, if hd (c (ba + 4 * i + 2)).toNatClampNeg ≤ hd (c (ba + 4 * i + 1)).toNatClampNeg then i + 1 else (c (ba + 4 * i + 3)).toNatClampNeg)
  | 8 => (hd, l, sd, sl, t, (c (ba + 4 * i + 1)).toNatClampNeg)
  | 9 => (hd, l, mz_sy t sd (hd (c (ba + 4 * i + 1)).toNatClampNeg), sl, t + 1, i + 1)
  | 11 => (upd hd (c (ba + 4 * i + 1)).toNatClampNeg (sl (32 * ((c (ba + 4 * i + 1)).toNatClampNeg / 16) + (c (ba + 4 * i + 2)).toNatClampNeg)), l, sd, sl, t, i + 1)
  | 12 => (hd, l, sd, upd sl (32 * ((c (ba + 4 * i + 1)).toNatClampNeg / 16) + (c (ba + 4 * i + 2)).toNatClampNeg) (hd (c (ba + 4 * i + 1)).toNatClampNeg), t, i + 1)
  | _ => (hd, l, sd, sl, t, 400)
set_option maxRecDepth 100000 in
set_option maxHeartbeats 4000000 in
theorem md_doItem {G : am_G} (I A : Nat → Nat → Int32) (ba i : Nat) (hba : ba ≤ 1600) (hi : i < 390) (hiw : mz_iw (A m_code) ba i) (t : Nat) (ht : I mM 19 = nI t) (ht2 : t < 4000) : Cm G MX8_doItem 1 22 [.ref mM, .int (nI ba), .int (nI i)] I A (fun r I' A' => r = some (.int (nI (mz_di1 (A m_code) ba i (A m_held) (A m_left) (A m_said) (A m_slots) t).2.2.2.2.2)) ∧ upI I mM 19 (nI (mz_di1 (A m_code) ba i (A m_held) (A m_left) (A m_said) (A m_slots) t).2.2.2.2.1) = I' ∧ mz_IA A (mz_di1 (A m_code) ba i (A m_held) (A m_left) (A m_said) (A m_slots) t).1 (mz_di1 (A m_code) ba i (A m_held) (A m_left) (A m_said) (A m_slots) t).2.1 (mz_di1 (A m_code) ba i (A m_held) (A m_left) (A m_said) (A m_slots) t).2.2.1 (mz_di1 (A m_code) ba i (A m_held) (A m_left) (A m_said) (A m_slots) t).2.2.2.1 = A') := by
  obtain ⟨k, h1, ek, h3, h4, h5, h6, h7⟩ := hiw
  rcases (show k = 0 ∨ k = 1 ∨ k = 2 ∨ k = 3 ∨ k = 4 ∨ k = 5 ∨ k = 6 ∨ k = 7 ∨ k = 8 ∨ k = 9 ∨ k = 10 ∨ k = 11 ∨ k = 12 by omega) with rfl | rfl | rfl | rfl | rfl | rfl | rfl | rfl | rfl | rfl | rfl | rfl | rfl
  · obtain ⟨x, hx, ex⟩ := h3 (by omega)
    have h := md_doItem0 (G := G) I A ba i hba hi t ht ht2 ek x (by omega) ex
    unfold mz_di1
    rw [ek, nI_clamp (show 0 < 2 ^ 31 by omega)]
    simp only [ex, nI_clamp (show x < 2 ^ 31 by omega)]
    exact h
  · obtain ⟨x, hx, ex⟩ := h3 (by omega)
    obtain ⟨y, hy, ey⟩ := h4 (by omega)
    have h := md_doItem1 (G := G) I A ba i hba hi t ht ht2 ek x (by omega) ex y (by omega) ey
    unfold mz_di1
    rw [ek, nI_clamp (show 1 < 2 ^ 31 by omega)]
    simp only [ex, ey, nI_clamp (show x < 2 ^ 31 by omega), nI_clamp (show y < 2 ^ 31 by omega)]
    exact h
  · obtain ⟨x, hx, ex⟩ := h3 (by omega)
    obtain ⟨y, hy, ey⟩ := h4 (by omega)
    obtain ⟨z, hz, ez⟩ := h5 (by omega)
    have h := md_doItem2 (G := G) I A ba i hba hi t ht ht2 ek x (by omega) ex y (by omega) ey z (by omega) ez
    unfold mz_di1
    rw [ek, nI_clamp (show 2 < 2 ^ 31 by omega)]
    simp only [ex, ey, ez, nI_clamp (show x < 2 ^ 31 by omega), nI_clamp (show y < 2 ^ 31 by omega), nI_clamp (show z < 2 ^ 31 by omega)]
    exact h
  · obtain ⟨x, hx, ex⟩ := h3 (by omega)
    obtain ⟨y, hy, ey⟩ := h4 (by omega)
    obtain ⟨z, hz, ez⟩ := h5 (by omega)
    have h := md_doItem3 (G := G) I A ba i hba hi t ht ht2 ek x (by omega) ex y (by omega) ey z (by omega) ez
    unfold mz_di1
    rw [ek, nI_clamp (show 3 < 2 ^ 31 by omega)]
    simp only [ex, ey, ez, nI_clamp (show x < 2 ^ 31 by omega), nI_clamp (show y < 2 ^ 31 by omega), nI_clamp (show z < 2 ^ 31 by omega)]
    exact h
  · obtain ⟨x, hx, ex⟩ := h3 (by omega)
    obtain ⟨y, hy, ey⟩ := h4 (by omega)
    obtain ⟨z, hz, ez⟩ := h5 (by omega)
    have h := md_doItem4 (G := G) I A ba i hba hi t ht ht2 ek x (by omega) ex y (by omega) ey z (by omega) ez
    unfold mz_di1
    rw [ek, nI_clamp (show 4 < 2 ^ 31 by omega)]
    simp only [ex, ey, ez, nI_clamp (show x < 2 ^ 31 by omega), nI_clamp (show y < 2 ^ 31 by omega), nI_clamp (show z < 2 ^ 31 by omega)]
    exact h
  · obtain ⟨x, hx, ex⟩ := h3 (by omega)
    obtain ⟨y, hy, ey⟩ := h4 (by omega)
    have h := md_doItem5 (G := G) I A ba i hba hi t ht ht2 ek x (by omega) ex y (by omega) ey
    unfold mz_di1
    rw [ek, nI_clamp (show 5 < 2 ^ 31 by omega)]
    simp only [ex, ey, nI_clamp (show x < 2 ^ 31 by omega), nI_clamp (show y < 2 ^ 31 by omega)]
    exact h
  · obtain ⟨x, hx, ex⟩ := h3 (by omega)
    obtain ⟨y, hy, ey⟩ := h4 (by omega)
    have h := md_doItem6 (G := G) I A ba i hba hi t ht ht2 ek x (by omega) ex y (by omega) ey
    unfold mz_di1
    rw [ek, nI_clamp (show 6 < 2 ^ 31 by omega)]
    simp only [ex, ey, nI_clamp (show x < 2 ^ 31 by omega), nI_clamp (show y < 2 ^ 31 by omega)]
    exact h
  · obtain ⟨x, hx, ex⟩ := h3 (by omega)
    obtain ⟨y, hy, ey⟩ := h4 (by omega)
    obtain ⟨z, hz, ez⟩ := h6 (by omega)
    have h := md_doItem7 (G := G) I A ba i hba hi t ht ht2 ek x (by omega) ex y (by omega) ey z (by omega) ez
    unfold mz_di1
    rw [ek, nI_clamp (show 7 < 2 ^ 31 by omega)]
    simp only [ex, ey, ez, nI_clamp (show x < 2 ^ 31 by omega), nI_clamp (show y < 2 ^ 31 by omega), nI_clamp (show z < 2 ^ 31 by omega)]
    exact h
  · obtain ⟨x, hx, ex⟩ := h7 (by omega)
    have h := md_doItem8 (G := G) I A ba i hba hi t ht ht2 ek x (by omega) ex
    unfold mz_di1
    rw [ek, nI_clamp (show 8 < 2 ^ 31 by omega)]
    simp only [ex, nI_clamp (show x < 2 ^ 31 by omega)]
    exact h
  · obtain ⟨x, hx, ex⟩ := h3 (by omega)
    have h := md_doItem9 (G := G) I A ba i hba hi t ht ht2 ek x (by omega) ex
    unfold mz_di1
    rw [ek, nI_clamp (show 9 < 2 ^ 31 by omega)]
    simp only [ex, nI_clamp (show x < 2 ^ 31 by omega)]
    exact h
  · have h := md_doItem10 (G := G) I A ba i hba hi t ht ht2 ek 
    unfold mz_di1
    rw [ek, nI_clamp (show 10 < 2 ^ 31 by omega)]
    exact h
  · obtain ⟨x, hx, ex⟩ := h3 (by omega)
    obtain ⟨y, hy, ey⟩ := h4 (by omega)
    have h := md_doItem11 (G := G) I A ba i hba hi t ht ht2 ek x (by omega) ex y (by omega) ey
    unfold mz_di1
    rw [ek, nI_clamp (show 11 < 2 ^ 31 by omega)]
    simp only [ex, ey, nI_clamp (show x < 2 ^ 31 by omega), nI_clamp (show y < 2 ^ 31 by omega)]
    exact h
  · obtain ⟨x, hx, ex⟩ := h3 (by omega)
    obtain ⟨y, hy, ey⟩ := h4 (by omega)
    have h := md_doItem12 (G := G) I A ba i hba hi t ht ht2 ek x (by omega) ex y (by omega) ey
    unfold mz_di1
    rw [ek, nI_clamp (show 12 < 2 ^ 31 by omega)]
    simp only [ex, ey, nI_clamp (show x < 2 ^ 31 by omega), nI_clamp (show y < 2 ^ 31 by omega)]
    exact h
theorem mz_di1_nx {c hd l sd sl : Nat → Int32} {ba i t : Nat} (hi : i < 390) (hiw : mz_iw c ba i) : (mz_di1 c ba i hd l sd sl t).2.2.2.2.2 ≤ 400 ∧ (mz_di1 c ba i hd l sd sl t).2.2.2.2.1 ≤ t + 1 := by
  obtain ⟨k, h1, ek, -, -, -, h6, h7⟩ := hiw
  unfold mz_di1
  rw [ek, nI_clamp (by omega)]
  rcases (show k = 0 ∨ k = 1 ∨ k = 2 ∨ k = 3 ∨ k = 4 ∨ k = 5 ∨ k = 6 ∨ k = 7 ∨ k = 8 ∨ k = 9 ∨ k = 10 ∨ k = 11 ∨ k = 12 by omega) with rfl | rfl | rfl | rfl | rfl | rfl | rfl | rfl | rfl | rfl | rfl | rfl | rfl
  · exact ⟨by show i + 1 ≤ 400; omega, Nat.le_succ _⟩
  · exact ⟨by show i + 1 ≤ 400; omega, Nat.le_succ _⟩
  · exact ⟨by show i + 1 ≤ 400; omega, Nat.le_succ _⟩
  · exact ⟨by show i + 1 ≤ 400; omega, Nat.le_succ _⟩
  · exact ⟨by show i + 1 ≤ 400; omega, Nat.le_succ _⟩
  · exact ⟨by show i + 1 ≤ 400; omega, Nat.le_succ _⟩
  · exact ⟨by show i + 1 ≤ 400; omega, Nat.le_succ _⟩
  · obtain ⟨z, hz, ez⟩ := h6 rfl
    refine ⟨?_, Nat.le_succ _⟩
    show (if hd (c (ba + 4 * i + 2)).toNatClampNeg ≤ hd (c (ba + 4 * i + 1)).toNatClampNeg then i + 1 else (c (ba + 4 * i + 3)).toNatClampNeg) ≤ 400
    rw [ez, nI_clamp (by omega)]
    by_cases q : hd (c (ba + 4 * i + 2)).toNatClampNeg ≤ hd (c (ba + 4 * i + 1)).toNatClampNeg
    · rw [if_pos q]; omega
    · rw [if_neg q]; exact hz
  · obtain ⟨z, hz, ez⟩ := h7 rfl
    refine ⟨?_, Nat.le_succ _⟩
    show (c (ba + 4 * i + 1)).toNatClampNeg ≤ 400
    rw [ez, nI_clamp (by omega)]
    exact hz
  · exact ⟨by show i + 1 ≤ 400; omega, Nat.le_refl _⟩
  · exact ⟨Nat.le_refl _, Nat.le_succ _⟩
  · exact ⟨by show i + 1 ≤ 400; omega, Nat.le_succ _⟩
  · exact ⟨by show i + 1 ≤ 400; omega, Nat.le_succ _⟩
theorem mz_IA_IA {A : Nat → Nat → Int32} {a b c d e f g h : Nat → Int32} : mz_IA (mz_IA A a b c d) e f g h = mz_IA A e f g h := by
  unfold mz_IA
  rw [upA_r4 (a := m_held) (b := m_left) (c := m_said) (d := m_slots) (by decide) (by decide) (by decide), upA_r3 (a := m_left) (b := m_said) (c := m_slots) (by decide) (by decide), upA_r2 (a := m_said) (b := m_slots) (by decide), upA_u]
abbrev mz_QS : Type := Nat × Nat × (Nat → Int32) × (Nat → Int32) × (Nat → Int32) × (Nat → Int32) × Nat
/-- the items are run, at most m more -/
def mz_rnI (n : Nat) (c : Nat → Int32) (ba : Nat) : Nat → Nat → Nat → (Nat → Int32) → (Nat → Int32) → (Nat → Int32) → (Nat → Int32) → Nat → mz_QS
  | 0, at_, j, hd, l, sd, sl, t => (at_, j, hd, l, sd, sl, t)
  | m + 1, at_, j, hd, l, sd, sl, t => if n ≤ at_ then (at_, j, hd, l, sd, sl, t) else mz_rnI n c ba m (mz_di1 c ba at_ hd l sd sl t).2.2.2.2.2 (j + 1) (mz_di1 c ba at_ hd l sd sl t).1 (mz_di1 c ba at_ hd l sd sl t).2.1 (mz_di1 c ba at_ hd l sd sl t).2.2.1 (mz_di1 c ba at_ hd l sd sl t).2.2.2.1 (mz_di1 c ba at_ hd l sd sl t).2.2.2.2.1
set_option maxRecDepth 100000 in
set_option maxHeartbeats 4000000 in
theorem ml_runI1 {G : am_G} {Fn : Array Value → State → List Frame → State → Prop} (I A : Nat → Nat → Int32) (n : Nat) (hn : n < 390) (hiw : ∀ i, i < n → mz_iw (A m_code) 0 i) (g : Nat) (hg : g ≤ 2000) : ∀ (m : Nat) (at_ : Nat) (j : Nat) (hd : Nat → Int32) (l : Nat → Int32) (sd : Nat → Int32) (sl : Nat → Int32) (t : Nat), j + m = g → at_ ≤ 401 → t ≤ j → V G MX8_run (am_R 5 117 0 0) Fn 0 0 108 [(0, .ref mM), (3, .int (nI n)), (4, .int (nI (mz_rnI n (A m_code) 0 m at_ j hd l sd sl t).1))] [] (hp (upI (upI I mM 18 (nI (mz_rnI n (A m_code) 0 m at_ j hd l sd sl t).2.1)) mM 19 (nI (mz_rnI n (A m_code) 0 m at_ j hd l sd sl t).2.2.2.2.2.2)) (mz_IA A (mz_rnI n (A m_code) 0 m at_ j hd l sd sl t).2.2.1 (mz_rnI n (A m_code) 0 m at_ j hd l sd sl t).2.2.2.1 (mz_rnI n (A m_code) 0 m at_ j hd l sd sl t).2.2.2.2.1 (mz_rnI n (A m_code) 0 m at_ j hd l sd sl t).2.2.2.2.2.1)) → V G MX8_run (am_R 5 117 0 0) Fn 0 0 53 [(0, .ref mM), (1, .int (nI 1)), (2, .int (nI g)), (3, .int (nI n)), (4, .int (nI at_))] [] (hp (upI (upI I mM 18 (nI j)) mM 19 (nI t)) (upA (upA (upA (upA A m_held (hd)) m_left (l)) m_said (sd)) m_slots (sl))) := by
  intro m
  induction m with
  | zero =>
    intro at_ j hd l sd sl t hi0 hi1 hi2 hk
    refine V.iload (j := 4) rfl dX8_run_53 ?_
    refine V.iload_n (j := 3) rfl dX8_run_55 ?_
    refine V.icmp_geN (tgt := 108) dX8_run_56 (by decide) (by omega) (by omega) (fun c1 => ?_) (fun c1 => ?_)
    · refine V.fewer [0, 3, 4] rfl ?_
      exact hk
    · refine V.aload_n (j := 0) rfl dX8_run_59 ?_
      refine V.geti (v := nI j) dX8_run_60 fX8_172 rfl rfl rfl ?_
      refine V.iload_n (j := 2) rfl dX8_run_63 ?_
      refine V.icmp_geN (tgt := 108) dX8_run_64 (by decide) (by omega) (by omega) (fun c2 => ?_) (fun c2 => ?_)
      · refine V.fewer [0, 3, 4] rfl ?_
        exact hk
      · exact absurd c2 (by omega)
  | succ m ih =>
    intro at_ j hd l sd sl t hi0 hi1 hi2 hk
    refine V.iload (j := 4) rfl dX8_run_53 ?_
    refine V.iload_n (j := 3) rfl dX8_run_55 ?_
    refine V.icmp_geN (tgt := 108) dX8_run_56 (by decide) (by omega) (by omega) (fun c3 => ?_) (fun c3 => ?_)
    · refine V.fewer [0, 3, 4] rfl ?_
      unfold mz_rnI at hk
      rw [if_pos c3] at hk
      exact hk
    · refine V.aload_n (j := 0) rfl dX8_run_59 ?_
      refine V.geti (v := nI j) dX8_run_60 fX8_172 rfl rfl rfl ?_
      refine V.iload_n (j := 2) rfl dX8_run_63 ?_
      refine V.icmp_geN (tgt := 108) dX8_run_64 (by decide) (by omega) (by omega) (fun c4 => ?_) (fun c4 => ?_)
      · exact absurd c4 (by omega)
      · refine V.iload_n (j := 1) rfl dX8_run_67 ?_
        refine V.if_ne (tgt := 80) dX8_run_68 (by decide) (fun _ => ?_) (fun z => absurd z (by decide))
        refine V.aload_n (j := 0) rfl dX8_run_80 ?_
        refine V.sipush (v := nI 1600) (by decide) dX8_run_81 ?_
        refine V.iload_n (j := 1) rfl dX8_run_84 ?_
        refine V.iconst (v := nI 1) (by decide) dX8_run_85 ?_
        refine V.isubN dX8_run_86 (by omega) ?_
        refine V.st (st' := [.int (nI 0), .int (nI 1600), .ref mM]) rfl ?_
        refine V.imulN dX8_run_87 ?_
        refine V.st (st' := [.int (nI 0), .ref mM]) rfl ?_
        refine V.iload (j := 4) rfl dX8_run_88 ?_
        refine V.cV (As := [.int (nI 0), .int (nI at_)]) (st := []) dX8_run_90 sX8_191 iX8_doItem lX8_doItem rfl rfl (md_doItem (upI (upI I mM 18 (nI j)) mM 19 (nI t)) (upA (upA (upA (upA A m_held (hd)) m_left (l)) m_said (sd)) m_slots (sl)) 0 at_ (by omega) (by omega) (hiw at_ (by omega)) t rfl (by omega)) ⟨by decide, by decide⟩ (Nat.le_of_ble_eq_true rfl) rfl (fun r I' A' hq => ?_)
        obtain ⟨rfl, rfl, rfl⟩ := hq
        refine V.st (st' := [.int (nI ((mz_di1 (A m_code) 0 at_ hd l sd sl t).2.2.2.2.2))]) rfl ?_
        refine V.hpe (I' := (upI (upI I mM 18 (nI j)) mM 19 (nI ((mz_di1 (A m_code) 0 at_ hd l sd sl t).2.2.2.2.1)))) (A' := (upA (upA (upA (upA A m_held ((mz_di1 (A m_code) 0 at_ hd l sd sl t).1)) m_left ((mz_di1 (A m_code) 0 at_ hd l sd sl t).2.1)) m_said ((mz_di1 (A m_code) 0 at_ hd l sd sl t).2.2.1)) m_slots ((mz_di1 (A m_code) 0 at_ hd l sd sl t).2.2.2.1))) upI_u (mz_IA_IA (A := A) (a := hd) (b := l) (c := sd) (d := sl) (e := (mz_di1 (A m_code) 0 at_ hd l sd sl t).1) (f := (mz_di1 (A m_code) 0 at_ hd l sd sl t).2.1) (g := (mz_di1 (A m_code) 0 at_ hd l sd sl t).2.2.1) (h := (mz_di1 (A m_code) 0 at_ hd l sd sl t).2.2.2.1)) ?_
        have hnx := mz_di1_nx (hd := hd) (l := l) (sd := sd) (sl := sl) (t := t) (show at_ < 390 by omega) (hiw at_ (by omega))
        refine V.istore (ls' := [(0, .ref mM), (1, .int (nI 1)), (2, .int (nI g)), (3, .int (nI n)), (4, .int (nI ((mz_di1 (A m_code) 0 at_ hd l sd sl t).2.2.2.2.2)))]) dX8_run_93 (by decide) rfl ?_
        refine V.aload_n (j := 0) rfl dX8_run_95 ?_
        refine V.dup rfl dX8_run_96 ?_
        refine V.geti (v := nI j) dX8_run_97 fX8_172 rfl rfl rfl ?_
        refine V.iconst (v := nI 1) (by decide) dX8_run_100 ?_
        refine V.iaddN dX8_run_101 ?_
        refine V.puti dX8_run_102 pX8_172 rfl rfl ?_
        refine V.goto (tgt := 53) dX8_run_105 (by decide) ?_
        refine V.hpe (I' := (upI (upI I mM 18 (nI (j + 1))) mM 19 (nI (mz_di1 (A m_code) 0 at_ hd l sd sl t).2.2.2.2.1))) (upI_r2 (by decide)) rfl ?_
        unfold mz_rnI at hk
        rw [if_neg c3] at hk
        exact ih _ _ _ _ _ _ _ (by omega) (by omega) (by omega) hk
set_option maxRecDepth 100000 in
set_option maxHeartbeats 4000000 in
theorem ml_runI2 {G : am_G} {Fn : Array Value → State → List Frame → State → Prop} (I A : Nat → Nat → Int32) (n : Nat) (hn : n < 390) (hiw : ∀ i, i < n → mz_iw (A m_code) 1600 i) (g : Nat) (hg : g ≤ 2000) : ∀ (m : Nat) (at_ : Nat) (j : Nat) (hd : Nat → Int32) (l : Nat → Int32) (sd : Nat → Int32) (sl : Nat → Int32) (t : Nat), j + m = g → at_ ≤ 401 → t ≤ j → V G MX8_run (am_R 5 117 0 0) Fn 0 0 108 [(0, .ref mM), (3, .int (nI n)), (4, .int (nI (mz_rnI n (A m_code) 1600 m at_ j hd l sd sl t).1))] [] (hp (upI (upI I mM 18 (nI (mz_rnI n (A m_code) 1600 m at_ j hd l sd sl t).2.1)) mM 19 (nI (mz_rnI n (A m_code) 1600 m at_ j hd l sd sl t).2.2.2.2.2.2)) (mz_IA A (mz_rnI n (A m_code) 1600 m at_ j hd l sd sl t).2.2.1 (mz_rnI n (A m_code) 1600 m at_ j hd l sd sl t).2.2.2.1 (mz_rnI n (A m_code) 1600 m at_ j hd l sd sl t).2.2.2.2.1 (mz_rnI n (A m_code) 1600 m at_ j hd l sd sl t).2.2.2.2.2.1)) → V G MX8_run (am_R 5 117 0 0) Fn 0 0 53 [(0, .ref mM), (1, .int (nI 2)), (2, .int (nI g)), (3, .int (nI n)), (4, .int (nI at_))] [] (hp (upI (upI I mM 18 (nI j)) mM 19 (nI t)) (upA (upA (upA (upA A m_held (hd)) m_left (l)) m_said (sd)) m_slots (sl))) := by
  intro m
  induction m with
  | zero =>
    intro at_ j hd l sd sl t hi0 hi1 hi2 hk
    refine V.iload (j := 4) rfl dX8_run_53 ?_
    refine V.iload_n (j := 3) rfl dX8_run_55 ?_
    refine V.icmp_geN (tgt := 108) dX8_run_56 (by decide) (by omega) (by omega) (fun c1 => ?_) (fun c1 => ?_)
    · refine V.fewer [0, 3, 4] rfl ?_
      exact hk
    · refine V.aload_n (j := 0) rfl dX8_run_59 ?_
      refine V.geti (v := nI j) dX8_run_60 fX8_172 rfl rfl rfl ?_
      refine V.iload_n (j := 2) rfl dX8_run_63 ?_
      refine V.icmp_geN (tgt := 108) dX8_run_64 (by decide) (by omega) (by omega) (fun c2 => ?_) (fun c2 => ?_)
      · refine V.fewer [0, 3, 4] rfl ?_
        exact hk
      · exact absurd c2 (by omega)
  | succ m ih =>
    intro at_ j hd l sd sl t hi0 hi1 hi2 hk
    refine V.iload (j := 4) rfl dX8_run_53 ?_
    refine V.iload_n (j := 3) rfl dX8_run_55 ?_
    refine V.icmp_geN (tgt := 108) dX8_run_56 (by decide) (by omega) (by omega) (fun c3 => ?_) (fun c3 => ?_)
    · refine V.fewer [0, 3, 4] rfl ?_
      unfold mz_rnI at hk
      rw [if_pos c3] at hk
      exact hk
    · refine V.aload_n (j := 0) rfl dX8_run_59 ?_
      refine V.geti (v := nI j) dX8_run_60 fX8_172 rfl rfl rfl ?_
      refine V.iload_n (j := 2) rfl dX8_run_63 ?_
      refine V.icmp_geN (tgt := 108) dX8_run_64 (by decide) (by omega) (by omega) (fun c4 => ?_) (fun c4 => ?_)
      · exact absurd c4 (by omega)
      · refine V.iload_n (j := 1) rfl dX8_run_67 ?_
        refine V.if_ne (tgt := 80) dX8_run_68 (by decide) (fun _ => ?_) (fun z => absurd z (by decide))
        refine V.aload_n (j := 0) rfl dX8_run_80 ?_
        refine V.sipush (v := nI 1600) (by decide) dX8_run_81 ?_
        refine V.iload_n (j := 1) rfl dX8_run_84 ?_
        refine V.iconst (v := nI 1) (by decide) dX8_run_85 ?_
        refine V.isubN dX8_run_86 (by omega) ?_
        refine V.st (st' := [.int (nI 1), .int (nI 1600), .ref mM]) rfl ?_
        refine V.imulN dX8_run_87 ?_
        refine V.st (st' := [.int (nI 1600), .ref mM]) rfl ?_
        refine V.iload (j := 4) rfl dX8_run_88 ?_
        refine V.cV (As := [.int (nI 1600), .int (nI at_)]) (st := []) dX8_run_90 sX8_191 iX8_doItem lX8_doItem rfl rfl (md_doItem (upI (upI I mM 18 (nI j)) mM 19 (nI t)) (upA (upA (upA (upA A m_held (hd)) m_left (l)) m_said (sd)) m_slots (sl)) 1600 at_ (by omega) (by omega) (hiw at_ (by omega)) t rfl (by omega)) ⟨by decide, by decide⟩ (Nat.le_of_ble_eq_true rfl) rfl (fun r I' A' hq => ?_)
        obtain ⟨rfl, rfl, rfl⟩ := hq
        refine V.st (st' := [.int (nI ((mz_di1 (A m_code) 1600 at_ hd l sd sl t).2.2.2.2.2))]) rfl ?_
        refine V.hpe (I' := (upI (upI I mM 18 (nI j)) mM 19 (nI ((mz_di1 (A m_code) 1600 at_ hd l sd sl t).2.2.2.2.1)))) (A' := (upA (upA (upA (upA A m_held ((mz_di1 (A m_code) 1600 at_ hd l sd sl t).1)) m_left ((mz_di1 (A m_code) 1600 at_ hd l sd sl t).2.1)) m_said ((mz_di1 (A m_code) 1600 at_ hd l sd sl t).2.2.1)) m_slots ((mz_di1 (A m_code) 1600 at_ hd l sd sl t).2.2.2.1))) upI_u (mz_IA_IA (A := A) (a := hd) (b := l) (c := sd) (d := sl) (e := (mz_di1 (A m_code) 1600 at_ hd l sd sl t).1) (f := (mz_di1 (A m_code) 1600 at_ hd l sd sl t).2.1) (g := (mz_di1 (A m_code) 1600 at_ hd l sd sl t).2.2.1) (h := (mz_di1 (A m_code) 1600 at_ hd l sd sl t).2.2.2.1)) ?_
        have hnx := mz_di1_nx (hd := hd) (l := l) (sd := sd) (sl := sl) (t := t) (show at_ < 390 by omega) (hiw at_ (by omega))
        refine V.istore (ls' := [(0, .ref mM), (1, .int (nI 2)), (2, .int (nI g)), (3, .int (nI n)), (4, .int (nI ((mz_di1 (A m_code) 1600 at_ hd l sd sl t).2.2.2.2.2)))]) dX8_run_93 (by decide) rfl ?_
        refine V.aload_n (j := 0) rfl dX8_run_95 ?_
        refine V.dup rfl dX8_run_96 ?_
        refine V.geti (v := nI j) dX8_run_97 fX8_172 rfl rfl rfl ?_
        refine V.iconst (v := nI 1) (by decide) dX8_run_100 ?_
        refine V.iaddN dX8_run_101 ?_
        refine V.puti dX8_run_102 pX8_172 rfl rfl ?_
        refine V.goto (tgt := 53) dX8_run_105 (by decide) ?_
        refine V.hpe (I' := (upI (upI I mM 18 (nI (j + 1))) mM 19 (nI (mz_di1 (A m_code) 1600 at_ hd l sd sl t).2.2.2.2.1))) (upI_r2 (by decide)) rfl ?_
        unfold mz_rnI at hk
        rw [if_neg c3] at hk
        exact ih _ _ _ _ _ _ _ (by omega) (by omega) (by omega) hk
