theorem upI_r2 {I : Nat → Nat → Int32} {a x y : Nat} {u v w : Int32} (h : x ≠ y) : upI (upI (upI I a x u) a y v) a x w = upI (upI I a x w) a y v := by
  funext b k
  by_cases h1 : b = a ∧ k = x
  · obtain ⟨rfl, rfl⟩ := h1; simp [upI, h]
  · by_cases h2 : b = a ∧ k = y
    · obtain ⟨rfl, rfl⟩ := h2; simp [upI, Ne.symm h]
    · simp [upI, h1, h2]
theorem mz_DA_DA {A : Nat → Nat → Int32} {a b c d e f : Nat → Int32} : mz_DA (mz_DA A a b c) d e f = mz_DA A d e f := by
  unfold mz_DA
  rw [upA_r3 (a := m_now) (b := m_left) (c := m_said) (by decide) (by decide), upA_r2 (a := m_left) (b := m_said) (by decide), upA_u]
theorem mz_do1_nx {op fa fb fc nw l sd : Nat → Int32} {nv s t : Nat} (hs : s < 60) (hsw : mz_sw nv (op s) (fa s) (fb s) (fc s)) : (mz_do1 op fa fb fc s nw l sd t).2.2.2.2 ≤ 60 ∧ (mz_do1 op fa fb fc s nw l sd t).2.2.2.1 ≤ t + 1 := by
  obtain ⟨k, h1, ek, -, -, -, -, h7, h8⟩ := hsw
  unfold mz_do1
  rw [ek, nI_clamp (by omega)]
  rcases (show k = 0 ∨ k = 1 ∨ k = 2 ∨ k = 3 ∨ k = 4 ∨ k = 5 ∨ k = 6 ∨ k = 7 ∨ k = 8 ∨ k = 9 ∨ k = 10 by omega) with rfl | rfl | rfl | rfl | rfl | rfl | rfl | rfl | rfl | rfl | rfl
  · exact ⟨hs, Nat.le_succ _⟩
  · exact ⟨hs, Nat.le_succ _⟩
  · exact ⟨hs, Nat.le_succ _⟩
  · exact ⟨hs, Nat.le_succ _⟩
  · exact ⟨hs, Nat.le_succ _⟩
  · exact ⟨hs, Nat.le_succ _⟩
  · exact ⟨hs, Nat.le_succ _⟩
  · obtain ⟨x, hx, ex⟩ := h7 rfl
    refine ⟨?_, Nat.le_succ _⟩
    show (if nw (fb s).toNatClampNeg ≤ nw (fa s).toNatClampNeg then s + 1 else (fc s).toNatClampNeg) ≤ 60
    rw [ex, nI_clamp (by omega)]
    by_cases q : nw (fb s).toNatClampNeg ≤ nw (fa s).toNatClampNeg
    · rw [if_pos q]; omega
    · rw [if_neg q]; exact hx
  · obtain ⟨x, hx, ex⟩ := h8 rfl
    refine ⟨?_, Nat.le_succ _⟩
    show (fa s).toNatClampNeg ≤ 60
    rw [ex, nI_clamp (by omega)]
    exact hx
  · exact ⟨hs, Nat.le_refl _⟩
  · exact ⟨Nat.le_refl _, Nat.le_succ _⟩
abbrev mz_RS : Type := Nat × Nat × (Nat → Int32) × (Nat → Int32) × (Nat → Int32) × Nat
/-- the steps are run, at most m more -/
def mz_rnS (ns : Nat) (op fa fb fc : Nat → Int32) : Nat → Nat → Nat → (Nat → Int32) → (Nat → Int32) → (Nat → Int32) → Nat → mz_RS
  | 0, at_, j, nw, l, sd, t => (at_, j, nw, l, sd, t)
  | m + 1, at_, j, nw, l, sd, t => if ns ≤ at_ then (at_, j, nw, l, sd, t) else mz_rnS ns op fa fb fc m (mz_do1 op fa fb fc at_ nw l sd t).2.2.2.2 (j + 1) (mz_do1 op fa fb fc at_ nw l sd t).1 (mz_do1 op fa fb fc at_ nw l sd t).2.1 (mz_do1 op fa fb fc at_ nw l sd t).2.2.1 (mz_do1 op fa fb fc at_ nw l sd t).2.2.2.1
set_option maxRecDepth 100000 in
set_option maxHeartbeats 4000000 in
theorem ml_runS {G : am_G} {Fn : Array Value → State → List Frame → State → Prop} (I A : Nat → Nat → Int32) (nv ns : Nat) (hnv : nv ≤ 24) (hns : ns ≤ 60) (hsw : ∀ s, s < ns → mz_sw nv (A m_ops s) (A m_first s) (A m_second s) (A m_third s)) (g : Nat) (hg : g ≤ 2000) : ∀ (m : Nat) (at_ : Nat) (j : Nat) (nw : Nat → Int32) (l : Nat → Int32) (sd : Nat → Int32) (t : Nat), j + m = g → at_ ≤ 61 → t ≤ j → V G MX8_run (am_R 5 117 0 0) Fn 0 0 108 [(0, .ref mM), (3, .int (nI ns)), (4, .int (nI (mz_rnS ns (A m_ops) (A m_first) (A m_second) (A m_third) m at_ j nw l sd t).1))] [] (hp (upI (upI I mM 18 (nI (mz_rnS ns (A m_ops) (A m_first) (A m_second) (A m_third) m at_ j nw l sd t).2.1)) mM 19 (nI (mz_rnS ns (A m_ops) (A m_first) (A m_second) (A m_third) m at_ j nw l sd t).2.2.2.2.2)) (mz_DA A (mz_rnS ns (A m_ops) (A m_first) (A m_second) (A m_third) m at_ j nw l sd t).2.2.1 (mz_rnS ns (A m_ops) (A m_first) (A m_second) (A m_third) m at_ j nw l sd t).2.2.2.1 (mz_rnS ns (A m_ops) (A m_first) (A m_second) (A m_third) m at_ j nw l sd t).2.2.2.2.1)) → V G MX8_run (am_R 5 117 0 0) Fn 0 0 53 [(0, .ref mM), (1, .int (nI 0)), (2, .int (nI g)), (3, .int (nI ns)), (4, .int (nI at_))] [] (hp (upI (upI I mM 18 (nI j)) mM 19 (nI t)) (upA (upA (upA A m_now (nw)) m_left (l)) m_said (sd))) := by
  intro m
  induction m with
  | zero =>
    intro at_ j nw l sd t hi0 hi1 hi2 hk
    refine V.iload (j := 4) rfl dX8_run_53 ?_
    refine V.iload_n (j := 3) rfl dX8_run_55 ?_
    refine V.icmp_geN (tgt := 108) dX8_run_56 (by decide) (by omega) (by omega) (fun c1 => ?_) (fun c1 => ?_)
    · refine V.fewer [0, 3, 4] rfl ?_
      exact hk
    · refine V.aload_n (j := 0) rfl dX8_run_59 ?_
      refine V.geti (v := nI j) dX8_run_60 fX8_172 rfl rfl rfl ?_
      refine V.iload_n (j := 2) rfl dX8_run_63 ?_
      refine V.icmp_geN (tgt := 108) dX8_run_64 (by decide) (by omega) (by omega) (fun c2 => ?_) (fun c2 => ?_)
      · refine V.fewer [0, 3, 4] rfl ?_
        exact hk
      · exact absurd c2 (by omega)
  | succ m ih =>
    intro at_ j nw l sd t hi0 hi1 hi2 hk
    refine V.iload (j := 4) rfl dX8_run_53 ?_
    refine V.iload_n (j := 3) rfl dX8_run_55 ?_
    refine V.icmp_geN (tgt := 108) dX8_run_56 (by decide) (by omega) (by omega) (fun c3 => ?_) (fun c3 => ?_)
    · refine V.fewer [0, 3, 4] rfl ?_
      unfold mz_rnS at hk
      rw [if_pos c3] at hk
      exact hk
    · refine V.aload_n (j := 0) rfl dX8_run_59 ?_
      refine V.geti (v := nI j) dX8_run_60 fX8_172 rfl rfl rfl ?_
      refine V.iload_n (j := 2) rfl dX8_run_63 ?_
      refine V.icmp_geN (tgt := 108) dX8_run_64 (by decide) (by omega) (by omega) (fun c4 => ?_) (fun c4 => ?_)
      · exact absurd c4 (by omega)
      · refine V.iload_n (j := 1) rfl dX8_run_67 ?_
        refine V.if_ne (tgt := 80) dX8_run_68 (by decide) (fun z => absurd z (by decide)) (fun _ => ?_)
        refine V.aload_n (j := 0) rfl dX8_run_71 ?_
        refine V.iload (j := 4) rfl dX8_run_72 ?_
        refine V.cV (As := [.int (nI at_)]) (st := []) dX8_run_74 sX8_188 iX8_doStep lX8_doStep rfl rfl (md_doStep (upI (upI I mM 18 (nI j)) mM 19 (nI t)) (upA (upA (upA A m_now (nw)) m_left (l)) m_said (sd)) nv hnv at_ (by omega) (hsw at_ (by omega)) t rfl (by omega)) ⟨by decide, by decide⟩ (Nat.le_of_ble_eq_true rfl) rfl (fun r I' A' hq => ?_)
        obtain ⟨rfl, rfl, rfl⟩ := hq
        refine V.st (st' := [.int (nI ((mz_do1 (A m_ops) (A m_first) (A m_second) (A m_third) at_ nw l sd t).2.2.2.2))]) rfl ?_
        refine V.hpe (I' := (upI (upI I mM 18 (nI j)) mM 19 (nI ((mz_do1 (A m_ops) (A m_first) (A m_second) (A m_third) at_ nw l sd t).2.2.2.1)))) (A' := (upA (upA (upA A m_now ((mz_do1 (A m_ops) (A m_first) (A m_second) (A m_third) at_ nw l sd t).1)) m_left ((mz_do1 (A m_ops) (A m_first) (A m_second) (A m_third) at_ nw l sd t).2.1)) m_said ((mz_do1 (A m_ops) (A m_first) (A m_second) (A m_third) at_ nw l sd t).2.2.1))) upI_u (mz_DA_DA (A := A) (a := nw) (b := l) (c := sd) (d := (mz_do1 (A m_ops) (A m_first) (A m_second) (A m_third) at_ nw l sd t).1) (e := (mz_do1 (A m_ops) (A m_first) (A m_second) (A m_third) at_ nw l sd t).2.1) (f := (mz_do1 (A m_ops) (A m_first) (A m_second) (A m_third) at_ nw l sd t).2.2.1)) ?_
        have hnx := mz_do1_nx (nw := nw) (l := l) (sd := sd) (t := t) (show at_ < 60 by omega) (hsw at_ (by omega))
        refine V.goto (tgt := 93) dX8_run_77 (by decide) ?_
        refine V.istore (ls' := [(0, .ref mM), (1, .int (nI 0)), (2, .int (nI g)), (3, .int (nI ns)), (4, .int (nI ((mz_do1 (A m_ops) (A m_first) (A m_second) (A m_third) at_ nw l sd t).2.2.2.2)))]) dX8_run_93 (by decide) rfl ?_
        refine V.aload_n (j := 0) rfl dX8_run_95 ?_
        refine V.dup rfl dX8_run_96 ?_
        refine V.geti (v := nI j) dX8_run_97 fX8_172 rfl rfl rfl ?_
        refine V.iconst (v := nI 1) (by decide) dX8_run_100 ?_
        refine V.iaddN dX8_run_101 ?_
        refine V.puti dX8_run_102 pX8_172 rfl rfl ?_
        refine V.goto (tgt := 53) dX8_run_105 (by decide) ?_
        refine V.hpe (I' := (upI (upI I mM 18 (nI (j + 1))) mM 19 (nI (mz_do1 (A m_ops) (A m_first) (A m_second) (A m_third) at_ nw l sd t).2.2.2.1))) (upI_r2 (by decide)) rfl ?_
        unfold mz_rnS at hk
        rw [if_neg c3] at hk
        exact ih _ _ _ _ _ _ (by omega) (by omega) (by omega) hk
