/-- the rows with which a run begins -/
def mz_bg (A : Nat → Nat → Int32) : Nat → Nat → Int32 := upA (upA (upA (upA A m_left (mz_cpf (A m_memory) 64 0 (A m_left))) m_slots (mz_fill 64 0 (A m_slots))) m_held (mz_fill 32 0 (A m_held))) m_now (mz_fill 24 0 (A m_now))
/-- what makeCode leaves alone -/
theorem mz_made_k {nv ns : Nat} {I A I' A' : Nat → Nat → Int32} (h : mz_made nv ns I A I' A') : A' m_ops = A m_ops ∧ A' m_first = A m_first ∧ A' m_second = A m_second ∧ A' m_third = A m_third ∧ A' m_classes = A m_classes ∧ A' m_registers = A m_registers ∧ A' m_memory = A m_memory ∧ A' m_said = A m_said ∧ A' m_left = A m_left := by
  obtain ⟨A1, z, fe, it, c, n, f, c', n', ⟨k, hm, -, -, rfl⟩, -, -, -, -, rfl⟩ := h
  exact ⟨rfl, rfl, rfl, rfl, rfl, rfl, rfl, rfl, rfl⟩
theorem mz_rnS_le {nv ns : Nat} {op fa fb fc : Nat → Int32} (hsw : ∀ s, s < ns → mz_sw nv (op s) (fa s) (fb s) (fc s)) (hns : ns ≤ 60) : ∀ (m at_ j : Nat) (nw l sd : Nat → Int32) (t : Nat), at_ ≤ 401 → (mz_rnS ns op fa fb fc m at_ j nw l sd t).1 ≤ 401
  | 0, at_, j, nw, l, sd, t, h => h
  | m + 1, at_, j, nw, l, sd, t, h => by
    unfold mz_rnS
    split
    · exact h
    · exact mz_rnS_le hsw hns m _ _ _ _ _ _ (by have := (mz_do1_nx (nw := nw) (l := l) (sd := sd) (t := t) (show at_ < 60 by omega) (hsw at_ (by omega))).1; omega)
theorem mz_rnI_le {n ba : Nat} {c : Nat → Int32} (hn : n < 390) (hiw : ∀ i, i < n → mz_iw c ba i) : ∀ (m at_ j : Nat) (hd l sd sl : Nat → Int32) (t : Nat), at_ ≤ 401 → (mz_rnI n c ba m at_ j hd l sd sl t).1 ≤ 401
  | 0, at_, j, hd, l, sd, sl, t, h => h
  | m + 1, at_, j, hd, l, sd, sl, t, h => by
    unfold mz_rnI
    split
    · exact h
    · exact mz_rnI_le hn hiw m _ _ _ _ _ _ _ (by have := (mz_di1_nx (hd := hd) (l := l) (sd := sd) (sl := sl) (t := t) (show at_ < 390 by omega) (hiw at_ (by omega))).1; omega)
set_option maxRecDepth 100000 in
set_option maxHeartbeats 4000000 in
theorem md_run0 {G : am_G} (I A : Nat → Nat → Int32) (nv ns : Nat) (hW : mz_wf nv ns I A) (hsw : ∀ s, s < ns → mz_sw nv (A m_ops s) (A m_first s) (A m_second s) (A m_third s)) (gr : Int32) : Cm G MX8_run 5 117 [.ref mM, .int (nI 0), .int gr] I A (fun r I' A' => ((¬ gr < 0 ∧ gr ≤ nI 2000) → ∃ I1 A1, mz_made nv ns I A I1 A1 ∧ r = some (.int (nI (if ns ≤ (mz_rnS ns (A1 m_ops) (A1 m_first) (A1 m_second) (A1 m_third) gr.toNatClampNeg 0 0 (mz_bg A1 m_now) (mz_bg A1 m_left) (mz_bg A1 m_said) 0).1 then 0 else 1))) ∧ upI (upI I1 mM 18 (nI (mz_rnS ns (A1 m_ops) (A1 m_first) (A1 m_second) (A1 m_third) gr.toNatClampNeg 0 0 (mz_bg A1 m_now) (mz_bg A1 m_left) (mz_bg A1 m_said) 0).2.1)) mM 19 (nI (mz_rnS ns (A1 m_ops) (A1 m_first) (A1 m_second) (A1 m_third) gr.toNatClampNeg 0 0 (mz_bg A1 m_now) (mz_bg A1 m_left) (mz_bg A1 m_said) 0).2.2.2.2.2) = I' ∧ mz_DA (mz_bg A1) (mz_rnS ns (A1 m_ops) (A1 m_first) (A1 m_second) (A1 m_third) gr.toNatClampNeg 0 0 (mz_bg A1 m_now) (mz_bg A1 m_left) (mz_bg A1 m_said) 0).2.2.1 (mz_rnS ns (A1 m_ops) (A1 m_first) (A1 m_second) (A1 m_third) gr.toNatClampNeg 0 0 (mz_bg A1 m_now) (mz_bg A1 m_left) (mz_bg A1 m_said) 0).2.2.2.1 (mz_rnS ns (A1 m_ops) (A1 m_first) (A1 m_second) (A1 m_third) gr.toNatClampNeg 0 0 (mz_bg A1 m_now) (mz_bg A1 m_left) (mz_bg A1 m_said) 0).2.2.2.2.1 = A') ∧ (¬ (¬ gr < 0 ∧ gr ≤ nI 2000) → r = some (.int (-1)) ∧ I = I' ∧ A = A')) := by
  refine Cm.of (by decide) (Nat.le_of_ble_eq_true rfl) rfl ?_
  show V G MX8_run (am_R 5 117 0 0) _ 0 0 0 [(0, .ref mM), (1, .int (nI 0)), (2, .int gr)] [] (hp I A)
  obtain ⟨hn, hnv, hs, hns, h8, h7, hA, h0, h1, hcl, hrg, hT⟩ := id hW
  refine V.iload_n (j := 1) rfl dX8_run_0 ?_
  refine V.if_lt (tgt := 20) dX8_run_1 (by decide) (fun z => absurd z (by decide)) (fun _ => ?_)
  refine V.iload_n (j := 1) rfl dX8_run_4 ?_
  refine V.iconst (v := nI 2) (by decide) dX8_run_5 ?_
  refine V.icmp_gt (tgt := 20) dX8_run_6 (by decide) (fun z => absurd z (by decide)) (fun _ => ?_)
  refine V.iload_n (j := 2) rfl dX8_run_9 ?_
  refine V.if_lt (tgt := 20) dX8_run_10 (by decide) (fun c3 => ?_) (fun c3 => ?_)
  · refine V.iconst (v := (-1)) (by decide) dX8_run_20 ?_
    refine V.ri dX8_run_21 rfl ?_
    exact ⟨fun z => by obtain ⟨z1, z2⟩ := z; contradiction, fun _ => ⟨rfl, rfl, rfl⟩⟩
  · refine V.iload_n (j := 2) rfl dX8_run_13 ?_
    refine V.sipush (v := nI 2000) (by decide) dX8_run_14 ?_
    refine V.icmp_le (tgt := 22) dX8_run_17 (by decide) (fun c4 => ?_) (fun c4 => ?_)
    · obtain ⟨g, hg, rfl⟩ := mz_le (nv := 2000) (by decide) c3 c4
      refine V.aload_n (j := 0) rfl dX8_run_22 ?_
      refine V.cV (As := []) (st := []) dX8_run_23 sX8_166 iX8_makeCode lX8_makeCode rfl rfl (md_makeCode I A nv ns hW hsw) ⟨by decide, by decide⟩ (Nat.le_of_ble_eq_true rfl) rfl (fun r I' A' hq => ?_)
      obtain ⟨rfl, hmd⟩ := hq
      refine V.st (st' := []) rfl ?_
      obtain ⟨i0, i2, -, -⟩ := mz_made_I hmd
      have hs1 : I' mM 2 = nI ns := i2.trans hs
      obtain ⟨k1, k2, k3, k4, -⟩ := mz_made_k hmd
      have hsw1 : ∀ s, s < ns → mz_sw nv (A' m_ops s) (A' m_first s) (A' m_second s) (A' m_third s) := by rw [k1, k2, k3, k4]; exact hsw
      refine V.aload_n (j := 0) rfl dX8_run_26 ?_
      refine V.cV (As := []) (st := []) dX8_run_27 sX8_185 iX8_begin lX8_begin rfl rfl (md_begin I' A') ⟨by decide, by decide⟩ (Nat.le_of_ble_eq_true rfl) rfl (fun r I' A' hq => ?_)
      obtain ⟨rfl, rfl, rfl⟩ := hq
      refine V.st (st' := []) rfl ?_
      refine V.iload_n (j := 1) rfl dX8_run_30 ?_
      refine V.if_ne (tgt := 41) dX8_run_31 (by decide) (fun z => absurd z (by decide)) (fun _ => ?_)
      refine V.aload_n (j := 0) rfl dX8_run_34 ?_
      refine V.geti (v := nI ns) dX8_run_35 fX8_95 rfl rfl hs1 ?_
      refine V.goto (tgt := 49) dX8_run_38 (by decide) ?_
      refine V.istore_n (ls' := [(0, .ref mM), (1, .int (nI 0)), (2, .int (nI g)), (3, .int (nI ns))]) dX8_run_49 (by decide) rfl ?_
      refine V.iconst (v := nI 0) (by decide) dX8_run_50 ?_
      refine V.istore (ls' := [(0, .ref mM), (1, .int (nI 0)), (2, .int (nI g)), (3, .int (nI ns)), (4, .int (nI 0))]) dX8_run_51 (by decide) rfl ?_
      have hb : (mz_rnS ns (A' m_ops) (A' m_first) (A' m_second) (A' m_third) g 0 0 (mz_bg A' m_now) (mz_bg A' m_left) (mz_bg A' m_said) 0).1 ≤ 401 := mz_rnS_le hsw1 hns g 0 0 _ _ _ 0 (by omega)
      refine V.hpe (I' := (upI (upI I' mM 18 (nI 0)) mM 19 (nI 0))) (A' := (mz_DA (mz_bg A') ((mz_bg A') m_now) ((mz_bg A') m_left) ((mz_bg A') m_said))) rfl (mz_DA_i (A := (mz_bg A'))).symm ?_
      refine ml_runS I' (mz_bg A') nv ns hnv hns hsw1 g hg g 0 0 _ _ _ 0 (by omega) (by omega) (by omega) ?_
      refine V.iload (j := 2) rfl dX8_run_108 ?_
      refine V.iload_n (j := 1) rfl dX8_run_110 ?_
      by_cases hz : ns ≤ (mz_rnS ns (A' m_ops) (A' m_first) (A' m_second) (A' m_third) g 0 0 (mz_bg A' m_now) (mz_bg A' m_left) (mz_bg A' m_said) 0).1
      · refine V.icmp_ge (tgt := 118) dX8_run_111 (by decide) (fun _ => ?_) (fun z => absurd ((nI_leI (a := ns) (b := (mz_rnS ns (A' m_ops) (A' m_first) (A' m_second) (A' m_third) g 0 0 (mz_bg A' m_now) (mz_bg A' m_left) (mz_bg A' m_said) 0).1) (by omega) (by omega)).mpr hz) z)
        refine V.iconst (v := nI 0) (by decide) dX8_run_118 ?_
        refine V.ri dX8_run_119 rfl ?_
        refine ⟨fun _ => ⟨I', A', hmd, ?_⟩, fun z => absurd ⟨c3, c4⟩ z⟩
        rw [nI_clamp (by omega)]
        exact ⟨by rw [if_pos hz], rfl, rfl⟩
      · refine V.icmp_ge (tgt := 118) dX8_run_111 (by decide) (fun z => absurd ((nI_leI (a := ns) (b := (mz_rnS ns (A' m_ops) (A' m_first) (A' m_second) (A' m_third) g 0 0 (mz_bg A' m_now) (mz_bg A' m_left) (mz_bg A' m_said) 0).1) (by omega) (by omega)).mp z) hz) (fun _ => ?_)
        refine V.iconst (v := nI 1) (by decide) dX8_run_114 ?_
        refine V.goto (tgt := 119) dX8_run_115 (by decide) ?_
        refine V.ri dX8_run_119 rfl ?_
        refine ⟨fun _ => ⟨I', A', hmd, ?_⟩, fun z => absurd ⟨c3, c4⟩ z⟩
        rw [nI_clamp (by omega)]
        exact ⟨by rw [if_neg hz], rfl, rfl⟩
    · refine V.iconst (v := (-1)) (by decide) dX8_run_20 ?_
      refine V.ri dX8_run_21 rfl ?_
      exact ⟨fun z => by obtain ⟨z1, z2⟩ := z; contradiction, fun _ => ⟨rfl, rfl, rfl⟩⟩
set_option maxRecDepth 100000 in
set_option maxHeartbeats 4000000 in
theorem md_run1 {G : am_G} (I A : Nat → Nat → Int32) (nv ns : Nat) (hW : mz_wf nv ns I A) (hsw : ∀ s, s < ns → mz_sw nv (A m_ops s) (A m_first s) (A m_second s) (A m_third s)) (hiw : ∀ I1 A1, mz_made nv ns I A I1 A1 → ∀ n, n ≤ 240 → A1 m_items 0 = nI n → ∀ i, i < n → mz_iw (A1 m_code) 0 i) (gr : Int32) : Cm G MX8_run 5 117 [.ref mM, .int (nI 1), .int gr] I A (fun r I' A' => ((¬ gr < 0 ∧ gr ≤ nI 2000) → ∃ I1 A1, mz_made nv ns I A I1 A1 ∧ ∃ nn, nn ≤ 240 ∧ A1 m_items 0 = nI nn ∧ r = some (.int (nI (if nn ≤ (mz_rnI nn (A1 m_code) 0 gr.toNatClampNeg 0 0 (mz_bg A1 m_held) (mz_bg A1 m_left) (mz_bg A1 m_said) (mz_bg A1 m_slots) 0).1 then 0 else 1))) ∧ upI (upI I1 mM 18 (nI (mz_rnI nn (A1 m_code) 0 gr.toNatClampNeg 0 0 (mz_bg A1 m_held) (mz_bg A1 m_left) (mz_bg A1 m_said) (mz_bg A1 m_slots) 0).2.1)) mM 19 (nI (mz_rnI nn (A1 m_code) 0 gr.toNatClampNeg 0 0 (mz_bg A1 m_held) (mz_bg A1 m_left) (mz_bg A1 m_said) (mz_bg A1 m_slots) 0).2.2.2.2.2.2) = I' ∧ mz_IA (mz_bg A1) (mz_rnI nn (A1 m_code) 0 gr.toNatClampNeg 0 0 (mz_bg A1 m_held) (mz_bg A1 m_left) (mz_bg A1 m_said) (mz_bg A1 m_slots) 0).2.2.1 (mz_rnI nn (A1 m_code) 0 gr.toNatClampNeg 0 0 (mz_bg A1 m_held) (mz_bg A1 m_left) (mz_bg A1 m_said) (mz_bg A1 m_slots) 0).2.2.2.1 (mz_rnI nn (A1 m_code) 0 gr.toNatClampNeg 0 0 (mz_bg A1 m_held) (mz_bg A1 m_left) (mz_bg A1 m_said) (mz_bg A1 m_slots) 0).2.2.2.2.1 (mz_rnI nn (A1 m_code) 0 gr.toNatClampNeg 0 0 (mz_bg A1 m_held) (mz_bg A1 m_left) (mz_bg A1 m_said) (mz_bg A1 m_slots) 0).2.2.2.2.2.1 = A') ∧ (¬ (¬ gr < 0 ∧ gr ≤ nI 2000) → r = some (.int (-1)) ∧ I = I' ∧ A = A')) := by
  refine Cm.of (by decide) (Nat.le_of_ble_eq_true rfl) rfl ?_
  show V G MX8_run (am_R 5 117 0 0) _ 0 0 0 [(0, .ref mM), (1, .int (nI 1)), (2, .int gr)] [] (hp I A)
  obtain ⟨hn, hnv, hs, hns, h8, h7, hA, h0, h1, hcl, hrg, hT⟩ := id hW
  refine V.iload_n (j := 1) rfl dX8_run_0 ?_
  refine V.if_lt (tgt := 20) dX8_run_1 (by decide) (fun z => absurd z (by decide)) (fun _ => ?_)
  refine V.iload_n (j := 1) rfl dX8_run_4 ?_
  refine V.iconst (v := nI 2) (by decide) dX8_run_5 ?_
  refine V.icmp_gt (tgt := 20) dX8_run_6 (by decide) (fun z => absurd z (by decide)) (fun _ => ?_)
  refine V.iload_n (j := 2) rfl dX8_run_9 ?_
  refine V.if_lt (tgt := 20) dX8_run_10 (by decide) (fun c3 => ?_) (fun c3 => ?_)
  · refine V.iconst (v := (-1)) (by decide) dX8_run_20 ?_
    refine V.ri dX8_run_21 rfl ?_
    exact ⟨fun z => by obtain ⟨z1, z2⟩ := z; contradiction, fun _ => ⟨rfl, rfl, rfl⟩⟩
  · refine V.iload_n (j := 2) rfl dX8_run_13 ?_
    refine V.sipush (v := nI 2000) (by decide) dX8_run_14 ?_
    refine V.icmp_le (tgt := 22) dX8_run_17 (by decide) (fun c4 => ?_) (fun c4 => ?_)
    · obtain ⟨g, hg, rfl⟩ := mz_le (nv := 2000) (by decide) c3 c4
      refine V.aload_n (j := 0) rfl dX8_run_22 ?_
      refine V.cV (As := []) (st := []) dX8_run_23 sX8_166 iX8_makeCode lX8_makeCode rfl rfl (md_makeCode I A nv ns hW hsw) ⟨by decide, by decide⟩ (Nat.le_of_ble_eq_true rfl) rfl (fun r I' A' hq => ?_)
      obtain ⟨rfl, hmd⟩ := hq
      refine V.st (st' := []) rfl ?_
      obtain ⟨i0, i2, -, -⟩ := mz_made_I hmd
      have hs1 : I' mM 2 = nI ns := i2.trans hs
      obtain ⟨k1, k2, k3, k4, -⟩ := mz_made_k hmd
      have hsw1 : ∀ s, s < ns → mz_sw nv (A' m_ops s) (A' m_first s) (A' m_second s) (A' m_third s) := by rw [k1, k2, k3, k4]; exact hsw
      obtain ⟨nn0, nn1, hn0, hn1, en0, en1⟩ := mz_made_items hns hmd
      obtain ⟨nn, hnn, en⟩ : ∃ nn, nn ≤ 240 ∧ A' m_items 0 = nI nn := ⟨nn0, hn0, en0⟩
      refine V.aload_n (j := 0) rfl dX8_run_26 ?_
      refine V.cV (As := []) (st := []) dX8_run_27 sX8_185 iX8_begin lX8_begin rfl rfl (md_begin I' A') ⟨by decide, by decide⟩ (Nat.le_of_ble_eq_true rfl) rfl (fun r I' A' hq => ?_)
      obtain ⟨rfl, rfl, rfl⟩ := hq
      refine V.st (st' := []) rfl ?_
      refine V.iload_n (j := 1) rfl dX8_run_30 ?_
      refine V.if_ne (tgt := 41) dX8_run_31 (by decide) (fun _ => ?_) (fun z => absurd z (by decide))
      refine V.aload_n (j := 0) rfl dX8_run_41 ?_
      refine V.getr (q := m_items) dX8_run_42 fX8_52 rfl rfl ?_
      refine V.iload_n (j := 1) rfl dX8_run_45 ?_
      refine V.iconst (v := nI 1) (by decide) dX8_run_46 ?_
      refine V.isubN dX8_run_47 (by omega) ?_
      refine V.st (st' := [.int (nI 0), .ref m_items]) rfl ?_
      refine V.lda (v := nI nn) dX8_run_48 rfl (by decide) (by decide) en ?_
      refine V.istore_n (ls' := [(0, .ref mM), (1, .int (nI 1)), (2, .int (nI g)), (3, .int (nI nn))]) dX8_run_49 (by decide) rfl ?_
      refine V.iconst (v := nI 0) (by decide) dX8_run_50 ?_
      refine V.istore (ls' := [(0, .ref mM), (1, .int (nI 1)), (2, .int (nI g)), (3, .int (nI nn)), (4, .int (nI 0))]) dX8_run_51 (by decide) rfl ?_
      have hb : (mz_rnI nn (A' m_code) 0 g 0 0 (mz_bg A' m_held) (mz_bg A' m_left) (mz_bg A' m_said) (mz_bg A' m_slots) 0).1 ≤ 401 := mz_rnI_le (by omega) (hiw I' A' hmd nn hnn en) g 0 0 _ _ _ _ 0 (by omega)
      refine V.hpe (I' := (upI (upI I' mM 18 (nI 0)) mM 19 (nI 0))) (A' := (mz_IA (mz_bg A') ((mz_bg A') m_held) ((mz_bg A') m_left) ((mz_bg A') m_said) ((mz_bg A') m_slots))) rfl (mz_IA_i (A := (mz_bg A'))).symm ?_
      refine ml_runI1 I' (mz_bg A') nn (by omega) (hiw I' A' hmd nn hnn en) g hg g 0 0 _ _ _ _ 0 (by omega) (by omega) (by omega) ?_
      refine V.iload (j := 2) rfl dX8_run_108 ?_
      refine V.iload_n (j := 1) rfl dX8_run_110 ?_
      by_cases hz : nn ≤ (mz_rnI nn (A' m_code) 0 g 0 0 (mz_bg A' m_held) (mz_bg A' m_left) (mz_bg A' m_said) (mz_bg A' m_slots) 0).1
      · refine V.icmp_ge (tgt := 118) dX8_run_111 (by decide) (fun _ => ?_) (fun z => absurd ((nI_leI (a := nn) (b := (mz_rnI nn (A' m_code) 0 g 0 0 (mz_bg A' m_held) (mz_bg A' m_left) (mz_bg A' m_said) (mz_bg A' m_slots) 0).1) (by omega) (by omega)).mpr hz) z)
        refine V.iconst (v := nI 0) (by decide) dX8_run_118 ?_
        refine V.ri dX8_run_119 rfl ?_
        refine ⟨fun _ => ⟨I', A', hmd, nn, hnn, en, ?_⟩, fun z => absurd ⟨c3, c4⟩ z⟩
        rw [nI_clamp (by omega)]
        exact ⟨by rw [if_pos hz], rfl, rfl⟩
      · refine V.icmp_ge (tgt := 118) dX8_run_111 (by decide) (fun z => absurd ((nI_leI (a := nn) (b := (mz_rnI nn (A' m_code) 0 g 0 0 (mz_bg A' m_held) (mz_bg A' m_left) (mz_bg A' m_said) (mz_bg A' m_slots) 0).1) (by omega) (by omega)).mp z) hz) (fun _ => ?_)
        refine V.iconst (v := nI 1) (by decide) dX8_run_114 ?_
        refine V.goto (tgt := 119) dX8_run_115 (by decide) ?_
        refine V.ri dX8_run_119 rfl ?_
        refine ⟨fun _ => ⟨I', A', hmd, nn, hnn, en, ?_⟩, fun z => absurd ⟨c3, c4⟩ z⟩
        rw [nI_clamp (by omega)]
        exact ⟨by rw [if_neg hz], rfl, rfl⟩
    · refine V.iconst (v := (-1)) (by decide) dX8_run_20 ?_
      refine V.ri dX8_run_21 rfl ?_
      exact ⟨fun z => by obtain ⟨z1, z2⟩ := z; contradiction, fun _ => ⟨rfl, rfl, rfl⟩⟩
set_option maxRecDepth 100000 in
set_option maxHeartbeats 4000000 in
theorem md_run2 {G : am_G} (I A : Nat → Nat → Int32) (nv ns : Nat) (hW : mz_wf nv ns I A) (hsw : ∀ s, s < ns → mz_sw nv (A m_ops s) (A m_first s) (A m_second s) (A m_third s)) (hiw : ∀ I1 A1, mz_made nv ns I A I1 A1 → ∀ n, n ≤ 240 → A1 m_items 1 = nI n → ∀ i, i < n → mz_iw (A1 m_code) 1600 i) (gr : Int32) : Cm G MX8_run 5 117 [.ref mM, .int (nI 2), .int gr] I A (fun r I' A' => ((¬ gr < 0 ∧ gr ≤ nI 2000) → ∃ I1 A1, mz_made nv ns I A I1 A1 ∧ ∃ nn, nn ≤ 240 ∧ A1 m_items 1 = nI nn ∧ r = some (.int (nI (if nn ≤ (mz_rnI nn (A1 m_code) 1600 gr.toNatClampNeg 0 0 (mz_bg A1 m_held) (mz_bg A1 m_left) (mz_bg A1 m_said) (mz_bg A1 m_slots) 0).1 then 0 else 1))) ∧ upI (upI I1 mM 18 (nI (mz_rnI nn (A1 m_code) 1600 gr.toNatClampNeg 0 0 (mz_bg A1 m_held) (mz_bg A1 m_left) (mz_bg A1 m_said) (mz_bg A1 m_slots) 0).2.1)) mM 19 (nI (mz_rnI nn (A1 m_code) 1600 gr.toNatClampNeg 0 0 (mz_bg A1 m_held) (mz_bg A1 m_left) (mz_bg A1 m_said) (mz_bg A1 m_slots) 0).2.2.2.2.2.2) = I' ∧ mz_IA (mz_bg A1) (mz_rnI nn (A1 m_code) 1600 gr.toNatClampNeg 0 0 (mz_bg A1 m_held) (mz_bg A1 m_left) (mz_bg A1 m_said) (mz_bg A1 m_slots) 0).2.2.1 (mz_rnI nn (A1 m_code) 1600 gr.toNatClampNeg 0 0 (mz_bg A1 m_held) (mz_bg A1 m_left) (mz_bg A1 m_said) (mz_bg A1 m_slots) 0).2.2.2.1 (mz_rnI nn (A1 m_code) 1600 gr.toNatClampNeg 0 0 (mz_bg A1 m_held) (mz_bg A1 m_left) (mz_bg A1 m_said) (mz_bg A1 m_slots) 0).2.2.2.2.1 (mz_rnI nn (A1 m_code) 1600 gr.toNatClampNeg 0 0 (mz_bg A1 m_held) (mz_bg A1 m_left) (mz_bg A1 m_said) (mz_bg A1 m_slots) 0).2.2.2.2.2.1 = A') ∧ (¬ (¬ gr < 0 ∧ gr ≤ nI 2000) → r = some (.int (-1)) ∧ I = I' ∧ A = A')) := by
  refine Cm.of (by decide) (Nat.le_of_ble_eq_true rfl) rfl ?_
  show V G MX8_run (am_R 5 117 0 0) _ 0 0 0 [(0, .ref mM), (1, .int (nI 2)), (2, .int gr)] [] (hp I A)
  obtain ⟨hn, hnv, hs, hns, h8, h7, hA, h0, h1, hcl, hrg, hT⟩ := id hW
  refine V.iload_n (j := 1) rfl dX8_run_0 ?_
  refine V.if_lt (tgt := 20) dX8_run_1 (by decide) (fun z => absurd z (by decide)) (fun _ => ?_)
  refine V.iload_n (j := 1) rfl dX8_run_4 ?_
  refine V.iconst (v := nI 2) (by decide) dX8_run_5 ?_
  refine V.icmp_gt (tgt := 20) dX8_run_6 (by decide) (fun z => absurd z (by decide)) (fun _ => ?_)
  refine V.iload_n (j := 2) rfl dX8_run_9 ?_
  refine V.if_lt (tgt := 20) dX8_run_10 (by decide) (fun c3 => ?_) (fun c3 => ?_)
  · refine V.iconst (v := (-1)) (by decide) dX8_run_20 ?_
    refine V.ri dX8_run_21 rfl ?_
    exact ⟨fun z => by obtain ⟨z1, z2⟩ := z; contradiction, fun _ => ⟨rfl, rfl, rfl⟩⟩
  · refine V.iload_n (j := 2) rfl dX8_run_13 ?_
    refine V.sipush (v := nI 2000) (by decide) dX8_run_14 ?_
    refine V.icmp_le (tgt := 22) dX8_run_17 (by decide) (fun c4 => ?_) (fun c4 => ?_)
    · obtain ⟨g, hg, rfl⟩ := mz_le (nv := 2000) (by decide) c3 c4
      refine V.aload_n (j := 0) rfl dX8_run_22 ?_
      refine V.cV (As := []) (st := []) dX8_run_23 sX8_166 iX8_makeCode lX8_makeCode rfl rfl (md_makeCode I A nv ns hW hsw) ⟨by decide, by decide⟩ (Nat.le_of_ble_eq_true rfl) rfl (fun r I' A' hq => ?_)
      obtain ⟨rfl, hmd⟩ := hq
      refine V.st (st' := []) rfl ?_
      obtain ⟨i0, i2, -, -⟩ := mz_made_I hmd
      have hs1 : I' mM 2 = nI ns := i2.trans hs
      obtain ⟨k1, k2, k3, k4, -⟩ := mz_made_k hmd
      have hsw1 : ∀ s, s < ns → mz_sw nv (A' m_ops s) (A' m_first s) (A' m_second s) (A' m_third s) := by rw [k1, k2, k3, k4]; exact hsw
      obtain ⟨nn0, nn1, hn0, hn1, en0, en1⟩ := mz_made_items hns hmd
      obtain ⟨nn, hnn, en⟩ : ∃ nn, nn ≤ 240 ∧ A' m_items 1 = nI nn := ⟨nn1, hn1, en1⟩
      refine V.aload_n (j := 0) rfl dX8_run_26 ?_
      refine V.cV (As := []) (st := []) dX8_run_27 sX8_185 iX8_begin lX8_begin rfl rfl (md_begin I' A') ⟨by decide, by decide⟩ (Nat.le_of_ble_eq_true rfl) rfl (fun r I' A' hq => ?_)
      obtain ⟨rfl, rfl, rfl⟩ := hq
      refine V.st (st' := []) rfl ?_
      refine V.iload_n (j := 1) rfl dX8_run_30 ?_
      refine V.if_ne (tgt := 41) dX8_run_31 (by decide) (fun _ => ?_) (fun z => absurd z (by decide))
      refine V.aload_n (j := 0) rfl dX8_run_41 ?_
      refine V.getr (q := m_items) dX8_run_42 fX8_52 rfl rfl ?_
      refine V.iload_n (j := 1) rfl dX8_run_45 ?_
      refine V.iconst (v := nI 1) (by decide) dX8_run_46 ?_
      refine V.isubN dX8_run_47 (by omega) ?_
      refine V.st (st' := [.int (nI 1), .ref m_items]) rfl ?_
      refine V.lda (v := nI nn) dX8_run_48 rfl (by decide) (by decide) en ?_
      refine V.istore_n (ls' := [(0, .ref mM), (1, .int (nI 2)), (2, .int (nI g)), (3, .int (nI nn))]) dX8_run_49 (by decide) rfl ?_
      refine V.iconst (v := nI 0) (by decide) dX8_run_50 ?_
      refine V.istore (ls' := [(0, .ref mM), (1, .int (nI 2)), (2, .int (nI g)), (3, .int (nI nn)), (4, .int (nI 0))]) dX8_run_51 (by decide) rfl ?_
      have hb : (mz_rnI nn (A' m_code) 1600 g 0 0 (mz_bg A' m_held) (mz_bg A' m_left) (mz_bg A' m_said) (mz_bg A' m_slots) 0).1 ≤ 401 := mz_rnI_le (by omega) (hiw I' A' hmd nn hnn en) g 0 0 _ _ _ _ 0 (by omega)
      refine V.hpe (I' := (upI (upI I' mM 18 (nI 0)) mM 19 (nI 0))) (A' := (mz_IA (mz_bg A') ((mz_bg A') m_held) ((mz_bg A') m_left) ((mz_bg A') m_said) ((mz_bg A') m_slots))) rfl (mz_IA_i (A := (mz_bg A'))).symm ?_
      refine ml_runI2 I' (mz_bg A') nn (by omega) (hiw I' A' hmd nn hnn en) g hg g 0 0 _ _ _ _ 0 (by omega) (by omega) (by omega) ?_
      refine V.iload (j := 2) rfl dX8_run_108 ?_
      refine V.iload_n (j := 1) rfl dX8_run_110 ?_
      by_cases hz : nn ≤ (mz_rnI nn (A' m_code) 1600 g 0 0 (mz_bg A' m_held) (mz_bg A' m_left) (mz_bg A' m_said) (mz_bg A' m_slots) 0).1
      · refine V.icmp_ge (tgt := 118) dX8_run_111 (by decide) (fun _ => ?_) (fun z => absurd ((nI_leI (a := nn) (b := (mz_rnI nn (A' m_code) 1600 g 0 0 (mz_bg A' m_held) (mz_bg A' m_left) (mz_bg A' m_said) (mz_bg A' m_slots) 0).1) (by omega) (by omega)).mpr hz) z)
        refine V.iconst (v := nI 0) (by decide) dX8_run_118 ?_
        refine V.ri dX8_run_119 rfl ?_
        refine ⟨fun _ => ⟨I', A', hmd, nn, hnn, en, ?_⟩, fun z => absurd ⟨c3, c4⟩ z⟩
        rw [nI_clamp (by omega)]
        exact ⟨by rw [if_pos hz], rfl, rfl⟩
      · refine V.icmp_ge (tgt := 118) dX8_run_111 (by decide) (fun z => absurd ((nI_leI (a := nn) (b := (mz_rnI nn (A' m_code) 1600 g 0 0 (mz_bg A' m_held) (mz_bg A' m_left) (mz_bg A' m_said) (mz_bg A' m_slots) 0).1) (by omega) (by omega)).mp z) hz) (fun _ => ?_)
        refine V.iconst (v := nI 1) (by decide) dX8_run_114 ?_
        refine V.goto (tgt := 119) dX8_run_115 (by decide) ?_
        refine V.ri dX8_run_119 rfl ?_
        refine ⟨fun _ => ⟨I', A', hmd, nn, hnn, en, ?_⟩, fun z => absurd ⟨c3, c4⟩ z⟩
        rw [nI_clamp (by omega)]
        exact ⟨by rw [if_neg hz], rfl, rfl⟩
    · refine V.iconst (v := (-1)) (by decide) dX8_run_20 ?_
      refine V.ri dX8_run_21 rfl ?_
      exact ⟨fun z => by obtain ⟨z1, z2⟩ := z; contradiction, fun _ => ⟨rfl, rfl, rfl⟩⟩
