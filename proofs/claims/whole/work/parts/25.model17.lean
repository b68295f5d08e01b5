def mz_in (n : Nat) (x : Int32) : Prop := ¬ x < 0 ∧ x < nI n
set_option maxRecDepth 100000 in
set_option maxHeartbeats 4000000 in
theorem md_live {G : am_G} (I A : Nat → Nat → Int32) (nv ns : Nat) (hW : mz_wf nv ns I A) (x : Int32) : Cm G MX8_live 3 73 [.ref mM, .int x] I A (fun r I' A' => (mz_in ns x → ∃ k, mz_fm ns A k = nI 0 ∧ r = some (.int ((mz_fl ns A k).1 x.toNatClampNeg)) ∧ I = I' ∧ upA (upA A m_before (mz_fl ns A k).1) m_behind (mz_fl ns A k).2 = A') ∧ (¬ mz_in ns x → r = some (.int (-1)) ∧ I = I' ∧ A = A')) := by
  refine Cm.of (by decide) (Nat.le_of_ble_eq_true rfl) rfl ?_
  show V G MX8_live (am_R 3 73 0 0) _ 0 0 0 [(0, .ref mM), (1, .int x)] [] (hp I A)
  obtain ⟨hn, hnv, hs, hns, h8, h7, hA, h0, h1, hcl, hrg, hT⟩ := id hW
  refine V.iload_n (j := 1) rfl dX8_live_0 ?_
  refine V.if_lt (tgt := 12) dX8_live_1 (by decide) (fun c1 => ?_) (fun c1 => ?_)
  · refine V.iconst (v := (-1)) (by decide) dX8_live_12 ?_
    refine V.ri dX8_live_13 rfl ?_
    exact ⟨fun z => by obtain ⟨z1, z2⟩ := z; contradiction, fun _ => ⟨rfl, rfl, rfl⟩⟩
  · refine V.iload_n (j := 1) rfl dX8_live_4 ?_
    refine V.aload_n (j := 0) rfl dX8_live_5 ?_
    refine V.geti (v := nI ns) dX8_live_6 fX8_95 rfl rfl hs ?_
    refine V.icmp_lt (tgt := 14) dX8_live_9 (by decide) (fun c2 => ?_) (fun c2 => ?_)
    · obtain ⟨j, hj, rfl⟩ := mz_lt (nv := ns) (by omega) c1 c2
      refine V.aload_n (j := 0) rfl dX8_live_14 ?_
      refine V.cV (As := []) (st := []) dX8_live_15 sX8_118 iX8_flow lX8_flow rfl rfl (md_flow I A ns hs hns h8 h7 hT) ⟨by decide, by decide⟩ (Nat.le_of_ble_eq_true rfl) rfl (fun r I' A' hq => ?_)
      obtain ⟨rfl, rfl, kf, hkf, rfl⟩ := hq
      refine V.st (st' := []) rfl ?_
      refine V.aload_n (j := 0) rfl dX8_live_18 ?_
      refine V.getr (q := m_before) dX8_live_19 fX8_31 rfl rfl ?_
      refine V.iload_n (j := 1) rfl dX8_live_22 ?_
      refine V.lda (v := ((mz_fl ns A kf).1) j) dX8_live_23 rfl (by omega) (by decide) rfl ?_
      refine V.ri dX8_live_24 rfl ?_
      exact ⟨fun _ => ⟨kf, hkf, by rw [nI_clamp (by omega)], rfl, rfl⟩, fun z => absurd ⟨c1, c2⟩ z⟩
    · refine V.iconst (v := (-1)) (by decide) dX8_live_12 ?_
      refine V.ri dX8_live_13 rfl ?_
      exact ⟨fun z => by obtain ⟨z1, z2⟩ := z; contradiction, fun _ => ⟨rfl, rfl, rfl⟩⟩
set_option maxRecDepth 100000 in
set_option maxHeartbeats 4000000 in
theorem md_inWay {G : am_G} (I A : Nat → Nat → Int32) (nv ns : Nat) (hW : mz_wf nv ns I A) (x : Int32) : Cm G MX8_inWay 3 73 [.ref mM, .int x] I A (fun r I' A' => (mz_isV (nI nv) x → ∃ k, mz_fm ns A k = nI 0 ∧ r = some (.int ((mz_W nv ns A (mz_fl ns A k).2) x.toNatClampNeg)) ∧ I = I' ∧ upA (upA (upA (upA A m_before (mz_fl ns A k).1) m_behind (mz_fl ns A k).2) m_way (mz_W nv ns A (mz_fl ns A k).2)) m_weights (mz_G nv ns A) = A') ∧ (¬ mz_isV (nI nv) x → r = some (.int (-1)) ∧ I = I' ∧ A = A')) := by
  refine Cm.of (by decide) (Nat.le_of_ble_eq_true rfl) rfl ?_
  show V G MX8_inWay (am_R 3 73 0 0) _ 0 0 0 [(0, .ref mM), (1, .int x)] [] (hp I A)
  obtain ⟨hn, hnv, hs, hns, h8, h7, hA, h0, h1, hcl, hrg, hT⟩ := id hW
  refine V.aload_n (j := 0) rfl dX8_inWay_0 ?_
  refine V.iload_n (j := 1) rfl dX8_inWay_1 ?_
  refine V.cV (As := [.int x]) (st := []) dX8_inWay_2 sX8_83 iX8_isValue lX8_isValue rfl rfl (md_isV I A nv hn _) ⟨by decide, by decide⟩ (Nat.le_of_ble_eq_true rfl) rfl (fun r I' A' hq => ?_)
  obtain ⟨rfl, rfl, rfl⟩ := hq
  by_cases b1 : mz_isV (nI nv) x
  · refine V.st (st' := [.int (nI 1)]) (by rw [bI_t b1]; rfl) ?_
    obtain ⟨j, hj, rfl⟩ := mz_nat (show nv < 2 ^ 31 by omega) b1
    refine V.if_ne (tgt := 10) dX8_inWay_5 (by decide) (fun _ => ?_) (fun z => absurd z (by decide))
    refine V.aload_n (j := 0) rfl dX8_inWay_10 ?_
    refine V.cV (As := []) (st := []) dX8_inWay_11 sX8_118 iX8_flow lX8_flow rfl rfl (md_flow I A ns hs hns h8 h7 hT) ⟨by decide, by decide⟩ (Nat.le_of_ble_eq_true rfl) rfl (fun r I' A' hq => ?_)
    obtain ⟨rfl, rfl, kf, hkf, rfl⟩ := hq
    refine V.st (st' := []) rfl ?_
    refine V.aload_n (j := 0) rfl dX8_inWay_14 ?_
    refine V.cV (As := []) (st := []) dX8_inWay_15 sX8_121 iX8_meet lX8_meet rfl rfl (md_meet I (upA (upA A m_before ((mz_fl ns A kf).1)) m_behind ((mz_fl ns A kf).2)) nv hn hnv ns hs hns hA h0 h1) ⟨by decide, by decide⟩ (Nat.le_of_ble_eq_true rfl) rfl (fun r I' A' hq => ?_)
    obtain ⟨rfl, rfl, rfl⟩ := hq
    refine V.st (st' := []) rfl ?_
    refine V.aload_n (j := 0) rfl dX8_inWay_18 ?_
    refine V.getr (q := m_way) dX8_inWay_19 fX8_37 rfl rfl ?_
    refine V.iload_n (j := 1) rfl dX8_inWay_22 ?_
    refine V.lda (v := (mz_W nv ns A (mz_fl ns A kf).2) j) dX8_inWay_23 rfl (by omega) (by decide) rfl ?_
    refine V.ri dX8_inWay_24 rfl ?_
    exact ⟨fun _ => ⟨kf, hkf, by rw [nI_clamp (by omega)], rfl, rfl⟩, fun z => absurd b1 z⟩
  · refine V.st (st' := [.int (nI 0)]) (by rw [bI_f b1]; rfl) ?_
    refine V.if_ne (tgt := 10) dX8_inWay_5 (by decide) (fun z => absurd z (by decide)) (fun _ => ?_)
    refine V.iconst (v := (-1)) (by decide) dX8_inWay_8 ?_
    refine V.ri dX8_inWay_9 rfl ?_
    exact ⟨fun z => absurd z b1, fun _ => ⟨rfl, rfl, rfl⟩⟩
set_option maxRecDepth 100000 in
set_option maxHeartbeats 4000000 in
theorem md_weight {G : am_G} (I A : Nat → Nat → Int32) (nv ns : Nat) (hW : mz_wf nv ns I A) (x : Int32) : Cm G MX8_weight 3 73 [.ref mM, .int x] I A (fun r I' A' => (mz_isV (nI nv) x → ∃ k, mz_fm ns A k = nI 0 ∧ r = some (.int ((mz_G nv ns A) x.toNatClampNeg)) ∧ I = I' ∧ upA (upA (upA (upA A m_before (mz_fl ns A k).1) m_behind (mz_fl ns A k).2) m_way (mz_W nv ns A (mz_fl ns A k).2)) m_weights (mz_G nv ns A) = A') ∧ (¬ mz_isV (nI nv) x → r = some (.int (-1)) ∧ I = I' ∧ A = A')) := by
  refine Cm.of (by decide) (Nat.le_of_ble_eq_true rfl) rfl ?_
  show V G MX8_weight (am_R 3 73 0 0) _ 0 0 0 [(0, .ref mM), (1, .int x)] [] (hp I A)
  obtain ⟨hn, hnv, hs, hns, h8, h7, hA, h0, h1, hcl, hrg, hT⟩ := id hW
  refine V.aload_n (j := 0) rfl dX8_weight_0 ?_
  refine V.iload_n (j := 1) rfl dX8_weight_1 ?_
  refine V.cV (As := [.int x]) (st := []) dX8_weight_2 sX8_83 iX8_isValue lX8_isValue rfl rfl (md_isV I A nv hn _) ⟨by decide, by decide⟩ (Nat.le_of_ble_eq_true rfl) rfl (fun r I' A' hq => ?_)
  obtain ⟨rfl, rfl, rfl⟩ := hq
  by_cases b1 : mz_isV (nI nv) x
  · refine V.st (st' := [.int (nI 1)]) (by rw [bI_t b1]; rfl) ?_
    obtain ⟨j, hj, rfl⟩ := mz_nat (show nv < 2 ^ 31 by omega) b1
    refine V.if_ne (tgt := 10) dX8_weight_5 (by decide) (fun _ => ?_) (fun z => absurd z (by decide))
    refine V.aload_n (j := 0) rfl dX8_weight_10 ?_
    refine V.cV (As := []) (st := []) dX8_weight_11 sX8_118 iX8_flow lX8_flow rfl rfl (md_flow I A ns hs hns h8 h7 hT) ⟨by decide, by decide⟩ (Nat.le_of_ble_eq_true rfl) rfl (fun r I' A' hq => ?_)
    obtain ⟨rfl, rfl, kf, hkf, rfl⟩ := hq
    refine V.st (st' := []) rfl ?_
    refine V.aload_n (j := 0) rfl dX8_weight_14 ?_
    refine V.cV (As := []) (st := []) dX8_weight_15 sX8_121 iX8_meet lX8_meet rfl rfl (md_meet I (upA (upA A m_before ((mz_fl ns A kf).1)) m_behind ((mz_fl ns A kf).2)) nv hn hnv ns hs hns hA h0 h1) ⟨by decide, by decide⟩ (Nat.le_of_ble_eq_true rfl) rfl (fun r I' A' hq => ?_)
    obtain ⟨rfl, rfl, rfl⟩ := hq
    refine V.st (st' := []) rfl ?_
    refine V.aload_n (j := 0) rfl dX8_weight_18 ?_
    refine V.getr (q := m_weights) dX8_weight_19 fX8_40 rfl rfl ?_
    refine V.iload_n (j := 1) rfl dX8_weight_22 ?_
    refine V.lda (v := (mz_G nv ns A) j) dX8_weight_23 rfl (by omega) (by decide) rfl ?_
    refine V.ri dX8_weight_24 rfl ?_
    exact ⟨fun _ => ⟨kf, hkf, by rw [nI_clamp (by omega)], rfl, rfl⟩, fun z => absurd b1 z⟩
  · refine V.st (st' := [.int (nI 0)]) (by rw [bI_f b1]; rfl) ?_
    refine V.if_ne (tgt := 10) dX8_weight_5 (by decide) (fun z => absurd z (by decide)) (fun _ => ?_)
    refine V.iconst (v := (-1)) (by decide) dX8_weight_8 ?_
    refine V.ri dX8_weight_9 rfl ?_
    exact ⟨fun z => absurd z b1, fun _ => ⟨rfl, rfl, rfl⟩⟩
set_option maxRecDepth 100000 in
set_option maxHeartbeats 4000000 in
theorem md_home {G : am_G} (I A : Nat → Nat → Int32) (nv ns : Nat) (hW : mz_wf nv ns I A) (x : Int32) : Cm G MX8_home 4 95 [.ref mM, .int x] I A (fun r I' A' => (mz_isV (nI nv) x → r = some (.int (A' m_homes x.toNatClampNeg)) ∧ I = I' ∧ mz_stl nv ns A A') ∧ (¬ mz_isV (nI nv) x → r = some (.int (-1)) ∧ I = I' ∧ A = A')) := by
  refine Cm.of (by decide) (Nat.le_of_ble_eq_true rfl) rfl ?_
  show V G MX8_home (am_R 4 95 0 0) _ 0 0 0 [(0, .ref mM), (1, .int x)] [] (hp I A)
  obtain ⟨hn, hnv, hs, hns, h8, h7, hA, h0, h1, hcl, hrg, hT⟩ := id hW
  refine V.aload_n (j := 0) rfl dX8_home_0 ?_
  refine V.iload_n (j := 1) rfl dX8_home_1 ?_
  refine V.cV (As := [.int x]) (st := []) dX8_home_2 sX8_83 iX8_isValue lX8_isValue rfl rfl (md_isV I A nv hn _) ⟨by decide, by decide⟩ (Nat.le_of_ble_eq_true rfl) rfl (fun r I' A' hq => ?_)
  obtain ⟨rfl, rfl, rfl⟩ := hq
  by_cases b1 : mz_isV (nI nv) x
  · refine V.st (st' := [.int (nI 1)]) (by rw [bI_t b1]; rfl) ?_
    obtain ⟨j, hj, rfl⟩ := mz_nat (show nv < 2 ^ 31 by omega) b1
    refine V.if_ne (tgt := 10) dX8_home_5 (by decide) (fun _ => ?_) (fun z => absurd z (by decide))
    refine V.aload_n (j := 0) rfl dX8_home_10 ?_
    refine V.cV (As := []) (st := []) dX8_home_11 sX8_147 iX8_settle lX8_settle rfl rfl (md_settle I A nv ns hW) ⟨by decide, by decide⟩ (Nat.le_of_ble_eq_true rfl) rfl (fun r I' A' hq => ?_)
    obtain ⟨rfl, rfl, hst⟩ := hq
    refine V.st (st' := []) rfl ?_
    refine V.aload_n (j := 0) rfl dX8_home_14 ?_
    refine V.getr (q := m_homes) dX8_home_15 fX8_46 rfl rfl ?_
    refine V.iload_n (j := 1) rfl dX8_home_18 ?_
    refine V.lda (v := A' m_homes j) dX8_home_19 rfl (by omega) (by decide) rfl ?_
    refine V.ri dX8_home_20 rfl ?_
    exact ⟨fun _ => ⟨by rw [nI_clamp (by omega)], rfl, hst⟩, fun z => absurd b1 z⟩
  · refine V.st (st' := [.int (nI 0)]) (by rw [bI_f b1]; rfl) ?_
    refine V.if_ne (tgt := 10) dX8_home_5 (by decide) (fun z => absurd z (by decide)) (fun _ => ?_)
    refine V.iconst (v := (-1)) (by decide) dX8_home_8 ?_
    refine V.ri dX8_home_9 rfl ?_
    exact ⟨fun z => absurd z b1, fun _ => ⟨rfl, rfl, rfl⟩⟩
set_option maxRecDepth 100000 in
set_option maxHeartbeats 4000000 in
theorem md_order {G : am_G} (I A : Nat → Nat → Int32) (nv ns : Nat) (hW : mz_wf nv ns I A) (x : Int32) : Cm G MX8_order 4 95 [.ref mM, .int x] I A (fun r I' A' => (mz_in nv x → r = some (.int (A' m_order x.toNatClampNeg)) ∧ I = I' ∧ mz_stl nv ns A A') ∧ (¬ mz_in nv x → r = some (.int (-1)) ∧ I = I' ∧ A = A')) := by
  refine Cm.of (by decide) (Nat.le_of_ble_eq_true rfl) rfl ?_
  show V G MX8_order (am_R 4 95 0 0) _ 0 0 0 [(0, .ref mM), (1, .int x)] [] (hp I A)
  obtain ⟨hn, hnv, hs, hns, h8, h7, hA, h0, h1, hcl, hrg, hT⟩ := id hW
  refine V.iload_n (j := 1) rfl dX8_order_0 ?_
  refine V.if_lt (tgt := 12) dX8_order_1 (by decide) (fun c1 => ?_) (fun c1 => ?_)
  · refine V.iconst (v := (-1)) (by decide) dX8_order_12 ?_
    refine V.ri dX8_order_13 rfl ?_
    exact ⟨fun z => by obtain ⟨z1, z2⟩ := z; contradiction, fun _ => ⟨rfl, rfl, rfl⟩⟩
  · refine V.iload_n (j := 1) rfl dX8_order_4 ?_
    refine V.aload_n (j := 0) rfl dX8_order_5 ?_
    refine V.geti (v := nI nv) dX8_order_6 fX8_79 rfl rfl hn ?_
    refine V.icmp_lt (tgt := 14) dX8_order_9 (by decide) (fun c2 => ?_) (fun c2 => ?_)
    · obtain ⟨j, hj, rfl⟩ := mz_lt (nv := nv) (by omega) c1 c2
      refine V.aload_n (j := 0) rfl dX8_order_14 ?_
      refine V.cV (As := []) (st := []) dX8_order_15 sX8_147 iX8_settle lX8_settle rfl rfl (md_settle I A nv ns hW) ⟨by decide, by decide⟩ (Nat.le_of_ble_eq_true rfl) rfl (fun r I' A' hq => ?_)
      obtain ⟨rfl, rfl, hst⟩ := hq
      refine V.st (st' := []) rfl ?_
      refine V.aload_n (j := 0) rfl dX8_order_18 ?_
      refine V.getr (q := m_order) dX8_order_19 fX8_43 rfl rfl ?_
      refine V.iload_n (j := 1) rfl dX8_order_22 ?_
      refine V.lda (v := A' m_order j) dX8_order_23 rfl (by omega) (by decide) rfl ?_
      refine V.ri dX8_order_24 rfl ?_
      exact ⟨fun _ => ⟨by rw [nI_clamp (by omega)], rfl, hst⟩, fun z => absurd ⟨c1, c2⟩ z⟩
    · refine V.iconst (v := (-1)) (by decide) dX8_order_12 ?_
      refine V.ri dX8_order_13 rfl ?_
      exact ⟨fun z => by obtain ⟨z1, z2⟩ := z; contradiction, fun _ => ⟨rfl, rfl, rfl⟩⟩
