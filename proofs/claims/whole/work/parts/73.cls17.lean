/-- what is so behind workOut(w) -/
def cz_Wk (rd w nv ns : Nat) (I A I' A' : Nat → Nat → Int32) : Prop := cz_fI I I' ∧ cz_fA A A' ∧ I' 0 11 = nI (max rd w) ∧ cz_K nv ns I' A' ∧ cz_L (max rd w) nv ns I' A'
set_option maxRecDepth 100000 in
set_option maxHeartbeats 4000000 in
theorem ce_live {G : am_G} (I A : Nat → Nat → Int32) (hst : am_sta G) (nv ns : Nat) (hK : cz_K nv ns I A) (rd : Nat) (hrd : I 0 11 = nI rd) (hr4 : rd ≤ 4) (hL : cz_L rd nv ns I A) (x : Int32) : Cm G MX7_live 6 144 [.ref 0, .int x] I A (fun r I' A' => (mz_in ns x → ∃ j, j < ns ∧ x = nI j ∧ r = some (.int (A' 13 j)) ∧ cz_Wk rd 1 nv ns I A I' A') ∧ (¬ mz_in ns x → r = some (.int (-1)) ∧ I = I' ∧ A = A')) := by
  refine Cm.of (by decide) (Nat.le_of_ble_eq_true rfl) rfl ?_
  show V G MX7_live (am_R 6 144 0 0) _ 0 0 0 [(0, .ref 0), (1, .int x)] [] (hp I A)
  obtain ⟨hn, hs, hnv, hns, hsw, hcl, hrg, hmem, h9, h10, h11, h20⟩ := id hK
  refine V.iload_n (j := 1) rfl dX7_live_0 ?_
  refine V.if_lt (tgt := 18) dX7_live_1 (by decide) (fun c1 => ?_) (fun c1 => ?_)
  · refine V.iconst (v := (-1)) (by decide) dX7_live_18 ?_
    refine V.ri dX7_live_19 rfl ?_
    exact ⟨fun z => absurd c1 z.1, fun _ => ⟨rfl, rfl, rfl⟩⟩
  · refine V.iload_n (j := 1) rfl dX7_live_4 ?_
    refine V.aload_n (j := 0) rfl dX7_live_5 ?_
    refine V.getr (q := 1) dX7_live_6 fX7_12 rfl rfl ?_
    refine V.getr (q := 4) dX7_live_9 fX7_88 rfl rfl ?_
    refine V.geti (v := nI ns) dX7_live_12 fX7_91 rfl rfl hs ?_
    refine V.icmp_lt (tgt := 20) dX7_live_15 (by decide) (fun c2 => ?_) (fun c2 => ?_)
    · obtain ⟨j, hj, rfl⟩ := mz_lt (nv := ns) (by omega) c1 c2
      refine V.aload_n (j := 0) rfl dX7_live_20 ?_
      refine V.iconst (v := nI 1) (by decide) dX7_live_21 ?_
      refine V.cV (As := [.int (nI 1)]) (st := []) dX7_live_22 sX7_108 iX7_workOut lX7_workOut rfl rfl (cd_work I A hst nv ns hK rd 1 hrd hr4 (by omega) hL) ⟨by decide, by decide⟩ (Nat.le_of_ble_eq_true rfl) rfl (fun r I' A' hq => ?_)
      obtain ⟨rfl, hwk⟩ := hq
      refine V.st (st' := []) rfl ?_
      refine V.aload_n (j := 0) rfl dX7_live_25 ?_
      refine V.getr (q := 12) dX7_live_26 fX7_19 rfl rfl ?_
      refine V.getr (q := 13) dX7_live_29 fX7_111 rfl rfl ?_
      refine V.iload_n (j := 1) rfl dX7_live_32 ?_
      refine V.lda (v := A' 13 j) dX7_live_33 rfl (by omega) (by decide) rfl ?_
      refine V.ri dX7_live_34 rfl ?_
      exact ⟨fun _ => ⟨j, hj, rfl, rfl, hwk⟩, fun z => absurd ⟨c1, c2⟩ z⟩
    · refine V.iconst (v := (-1)) (by decide) dX7_live_18 ?_
      refine V.ri dX7_live_19 rfl ?_
      exact ⟨fun z => absurd z.2 c2, fun _ => ⟨rfl, rfl, rfl⟩⟩
set_option maxRecDepth 100000 in
set_option maxHeartbeats 4000000 in
theorem ce_inWay {G : am_G} (I A : Nat → Nat → Int32) (hst : am_sta G) (nv ns : Nat) (hK : cz_K nv ns I A) (rd : Nat) (hrd : I 0 11 = nI rd) (hr4 : rd ≤ 4) (hL : cz_L rd nv ns I A) (x : Int32) : Cm G MX7_inWay 6 144 [.ref 0, .int x] I A (fun r I' A' => (mz_isV (nI nv) x → ∃ j, j < nv ∧ x = nI j ∧ r = some (.int (A' 14 j)) ∧ cz_Wk rd 1 nv ns I A I' A') ∧ (¬ mz_isV (nI nv) x → r = some (.int (-1)) ∧ I = I' ∧ A = A')) := by
  refine Cm.of (by decide) (Nat.le_of_ble_eq_true rfl) rfl ?_
  show V G MX7_inWay (am_R 6 144 0 0) _ 0 0 0 [(0, .ref 0), (1, .int x)] [] (hp I A)
  obtain ⟨hn, hs, hnv, hns, hsw, hcl, hrg, hmem, h9, h10, h11, h20⟩ := id hK
  refine V.aload_n (j := 0) rfl dX7_inWay_0 ?_
  refine V.getr (q := 1) dX7_inWay_1 fX7_12 rfl rfl ?_
  refine V.iload_n (j := 1) rfl dX7_inWay_4 ?_
  refine V.cV (As := [.int x]) (st := []) dX7_inWay_5 sX7_114 iX5_isValue lX5_isValue rfl rfl (cd_isV I A nv hn hnv _) ⟨by decide, by decide⟩ (Nat.le_of_ble_eq_true rfl) rfl (fun r I' A' hq => ?_)
  obtain ⟨rfl, rfl, rfl⟩ := hq
  by_cases b1 : mz_isV (nI nv) x
  · refine V.st (st' := [.int (nI 1)]) (by rw [bI_t b1]; rfl) ?_
    obtain ⟨j, hj, rfl⟩ := mz_nat (show nv < 2 ^ 31 by omega) b1
    refine V.if_ne (tgt := 13) dX7_inWay_8 (by decide) (fun _ => ?_) (fun z => absurd z (by decide))
    refine V.aload_n (j := 0) rfl dX7_inWay_13 ?_
    refine V.iconst (v := nI 1) (by decide) dX7_inWay_14 ?_
    refine V.cV (As := [.int (nI 1)]) (st := []) dX7_inWay_15 sX7_108 iX7_workOut lX7_workOut rfl rfl (cd_work I A hst nv ns hK rd 1 hrd hr4 (by omega) hL) ⟨by decide, by decide⟩ (Nat.le_of_ble_eq_true rfl) rfl (fun r I' A' hq => ?_)
    obtain ⟨rfl, hwk⟩ := hq
    refine V.st (st' := []) rfl ?_
    refine V.aload_n (j := 0) rfl dX7_inWay_18 ?_
    refine V.getr (q := 12) dX7_inWay_19 fX7_19 rfl rfl ?_
    refine V.getr (q := 14) dX7_inWay_22 fX7_117 rfl rfl ?_
    refine V.iload_n (j := 1) rfl dX7_inWay_25 ?_
    refine V.lda (v := A' 14 j) dX7_inWay_26 rfl (by omega) (by decide) rfl ?_
    refine V.ri dX7_inWay_27 rfl ?_
    exact ⟨fun _ => ⟨j, hj, rfl, rfl, hwk⟩, fun z => absurd b1 z⟩
  · refine V.st (st' := [.int (nI 0)]) (by rw [bI_f b1]; rfl) ?_
    refine V.if_ne (tgt := 13) dX7_inWay_8 (by decide) (fun z => absurd z (by decide)) (fun _ => ?_)
    refine V.iconst (v := (-1)) (by decide) dX7_inWay_11 ?_
    refine V.ri dX7_inWay_12 rfl ?_
    exact ⟨fun z => absurd z b1, fun _ => ⟨rfl, rfl, rfl⟩⟩
set_option maxRecDepth 100000 in
set_option maxHeartbeats 4000000 in
theorem ce_weight {G : am_G} (I A : Nat → Nat → Int32) (hst : am_sta G) (nv ns : Nat) (hK : cz_K nv ns I A) (rd : Nat) (hrd : I 0 11 = nI rd) (hr4 : rd ≤ 4) (hL : cz_L rd nv ns I A) (x : Int32) : Cm G MX7_weight 6 144 [.ref 0, .int x] I A (fun r I' A' => (mz_isV (nI nv) x → ∃ j, j < nv ∧ x = nI j ∧ r = some (.int (A' 17 j)) ∧ cz_Wk rd 2 nv ns I A I' A') ∧ (¬ mz_isV (nI nv) x → r = some (.int (-1)) ∧ I = I' ∧ A = A')) := by
  refine Cm.of (by decide) (Nat.le_of_ble_eq_true rfl) rfl ?_
  show V G MX7_weight (am_R 6 144 0 0) _ 0 0 0 [(0, .ref 0), (1, .int x)] [] (hp I A)
  obtain ⟨hn, hs, hnv, hns, hsw, hcl, hrg, hmem, h9, h10, h11, h20⟩ := id hK
  refine V.aload_n (j := 0) rfl dX7_weight_0 ?_
  refine V.getr (q := 1) dX7_weight_1 fX7_12 rfl rfl ?_
  refine V.iload_n (j := 1) rfl dX7_weight_4 ?_
  refine V.cV (As := [.int x]) (st := []) dX7_weight_5 sX7_114 iX5_isValue lX5_isValue rfl rfl (cd_isV I A nv hn hnv _) ⟨by decide, by decide⟩ (Nat.le_of_ble_eq_true rfl) rfl (fun r I' A' hq => ?_)
  obtain ⟨rfl, rfl, rfl⟩ := hq
  by_cases b1 : mz_isV (nI nv) x
  · refine V.st (st' := [.int (nI 1)]) (by rw [bI_t b1]; rfl) ?_
    obtain ⟨j, hj, rfl⟩ := mz_nat (show nv < 2 ^ 31 by omega) b1
    refine V.if_ne (tgt := 13) dX7_weight_8 (by decide) (fun _ => ?_) (fun z => absurd z (by decide))
    refine V.aload_n (j := 0) rfl dX7_weight_13 ?_
    refine V.iconst (v := nI 2) (by decide) dX7_weight_14 ?_
    refine V.cV (As := [.int (nI 2)]) (st := []) dX7_weight_15 sX7_108 iX7_workOut lX7_workOut rfl rfl (cd_work I A hst nv ns hK rd 2 hrd hr4 (by omega) hL) ⟨by decide, by decide⟩ (Nat.le_of_ble_eq_true rfl) rfl (fun r I' A' hq => ?_)
    obtain ⟨rfl, hwk⟩ := hq
    refine V.st (st' := []) rfl ?_
    refine V.aload_n (j := 0) rfl dX7_weight_18 ?_
    refine V.getr (q := 15) dX7_weight_19 fX7_26 rfl rfl ?_
    refine V.getr (q := 17) dX7_weight_22 fX7_120 rfl rfl ?_
    refine V.iload_n (j := 1) rfl dX7_weight_25 ?_
    refine V.lda (v := A' 17 j) dX7_weight_26 rfl (by omega) (by decide) rfl ?_
    refine V.ri dX7_weight_27 rfl ?_
    exact ⟨fun _ => ⟨j, hj, rfl, rfl, hwk⟩, fun z => absurd b1 z⟩
  · refine V.st (st' := [.int (nI 0)]) (by rw [bI_f b1]; rfl) ?_
    refine V.if_ne (tgt := 13) dX7_weight_8 (by decide) (fun z => absurd z (by decide)) (fun _ => ?_)
    refine V.iconst (v := (-1)) (by decide) dX7_weight_11 ?_
    refine V.ri dX7_weight_12 rfl ?_
    exact ⟨fun z => absurd z b1, fun _ => ⟨rfl, rfl, rfl⟩⟩
set_option maxRecDepth 100000 in
set_option maxHeartbeats 4000000 in
theorem ce_home {G : am_G} (I A : Nat → Nat → Int32) (hst : am_sta G) (nv ns : Nat) (hK : cz_K nv ns I A) (rd : Nat) (hrd : I 0 11 = nI rd) (hr4 : rd ≤ 4) (hL : cz_L rd nv ns I A) (x : Int32) : Cm G MX7_home 6 144 [.ref 0, .int x] I A (fun r I' A' => (mz_isV (nI nv) x → ∃ j, j < nv ∧ x = nI j ∧ r = some (.int (A' 20 j)) ∧ cz_Wk rd 2 nv ns I A I' A') ∧ (¬ mz_isV (nI nv) x → r = some (.int (-1)) ∧ I = I' ∧ A = A')) := by
  refine Cm.of (by decide) (Nat.le_of_ble_eq_true rfl) rfl ?_
  show V G MX7_home (am_R 6 144 0 0) _ 0 0 0 [(0, .ref 0), (1, .int x)] [] (hp I A)
  obtain ⟨hn, hs, hnv, hns, hsw, hcl, hrg, hmem, h9, h10, h11, h20⟩ := id hK
  refine V.aload_n (j := 0) rfl dX7_home_0 ?_
  refine V.getr (q := 1) dX7_home_1 fX7_12 rfl rfl ?_
  refine V.iload_n (j := 1) rfl dX7_home_4 ?_
  refine V.cV (As := [.int x]) (st := []) dX7_home_5 sX7_114 iX5_isValue lX5_isValue rfl rfl (cd_isV I A nv hn hnv _) ⟨by decide, by decide⟩ (Nat.le_of_ble_eq_true rfl) rfl (fun r I' A' hq => ?_)
  obtain ⟨rfl, rfl, rfl⟩ := hq
  by_cases b1 : mz_isV (nI nv) x
  · refine V.st (st' := [.int (nI 1)]) (by rw [bI_t b1]; rfl) ?_
    obtain ⟨j, hj, rfl⟩ := mz_nat (show nv < 2 ^ 31 by omega) b1
    refine V.if_ne (tgt := 13) dX7_home_8 (by decide) (fun _ => ?_) (fun z => absurd z (by decide))
    refine V.aload_n (j := 0) rfl dX7_home_13 ?_
    refine V.iconst (v := nI 2) (by decide) dX7_home_14 ?_
    refine V.cV (As := [.int (nI 2)]) (st := []) dX7_home_15 sX7_108 iX7_workOut lX7_workOut rfl rfl (cd_work I A hst nv ns hK rd 2 hrd hr4 (by omega) hL) ⟨by decide, by decide⟩ (Nat.le_of_ble_eq_true rfl) rfl (fun r I' A' hq => ?_)
    obtain ⟨rfl, hwk⟩ := hq
    refine V.st (st' := []) rfl ?_
    refine V.aload_n (j := 0) rfl dX7_home_18 ?_
    refine V.getr (q := 15) dX7_home_19 fX7_26 rfl rfl ?_
    refine V.getr (q := 20) dX7_home_22 fX7_123 rfl rfl ?_
    refine V.iload_n (j := 1) rfl dX7_home_25 ?_
    refine V.lda (v := A' 20 j) dX7_home_26 rfl (by omega) (by decide) rfl ?_
    refine V.ri dX7_home_27 rfl ?_
    exact ⟨fun _ => ⟨j, hj, rfl, rfl, hwk⟩, fun z => absurd b1 z⟩
  · refine V.st (st' := [.int (nI 0)]) (by rw [bI_f b1]; rfl) ?_
    refine V.if_ne (tgt := 13) dX7_home_8 (by decide) (fun z => absurd z (by decide)) (fun _ => ?_)
    refine V.iconst (v := (-1)) (by decide) dX7_home_11 ?_
    refine V.ri dX7_home_12 rfl ?_
    exact ⟨fun z => absurd z b1, fun _ => ⟨rfl, rfl, rfl⟩⟩
set_option maxRecDepth 100000 in
set_option maxHeartbeats 4000000 in
theorem ce_order {G : am_G} (I A : Nat → Nat → Int32) (hst : am_sta G) (nv ns : Nat) (hK : cz_K nv ns I A) (rd : Nat) (hrd : I 0 11 = nI rd) (hr4 : rd ≤ 4) (hL : cz_L rd nv ns I A) (x : Int32) : Cm G MX7_order 6 144 [.ref 0, .int x] I A (fun r I' A' => (mz_isV (nI nv) x → ∃ j, j < nv ∧ x = nI j ∧ r = some (.int (A' 18 j)) ∧ cz_Wk rd 2 nv ns I A I' A') ∧ (¬ mz_isV (nI nv) x → r = some (.int (-1)) ∧ I = I' ∧ A = A')) := by
  refine Cm.of (by decide) (Nat.le_of_ble_eq_true rfl) rfl ?_
  show V G MX7_order (am_R 6 144 0 0) _ 0 0 0 [(0, .ref 0), (1, .int x)] [] (hp I A)
  obtain ⟨hn, hs, hnv, hns, hsw, hcl, hrg, hmem, h9, h10, h11, h20⟩ := id hK
  refine V.aload_n (j := 0) rfl dX7_order_0 ?_
  refine V.getr (q := 1) dX7_order_1 fX7_12 rfl rfl ?_
  refine V.iload_n (j := 1) rfl dX7_order_4 ?_
  refine V.cV (As := [.int x]) (st := []) dX7_order_5 sX7_114 iX5_isValue lX5_isValue rfl rfl (cd_isV I A nv hn hnv _) ⟨by decide, by decide⟩ (Nat.le_of_ble_eq_true rfl) rfl (fun r I' A' hq => ?_)
  obtain ⟨rfl, rfl, rfl⟩ := hq
  by_cases b1 : mz_isV (nI nv) x
  · refine V.st (st' := [.int (nI 1)]) (by rw [bI_t b1]; rfl) ?_
    obtain ⟨j, hj, rfl⟩ := mz_nat (show nv < 2 ^ 31 by omega) b1
    refine V.if_ne (tgt := 13) dX7_order_8 (by decide) (fun _ => ?_) (fun z => absurd z (by decide))
    refine V.aload_n (j := 0) rfl dX7_order_13 ?_
    refine V.iconst (v := nI 2) (by decide) dX7_order_14 ?_
    refine V.cV (As := [.int (nI 2)]) (st := []) dX7_order_15 sX7_108 iX7_workOut lX7_workOut rfl rfl (cd_work I A hst nv ns hK rd 2 hrd hr4 (by omega) hL) ⟨by decide, by decide⟩ (Nat.le_of_ble_eq_true rfl) rfl (fun r I' A' hq => ?_)
    obtain ⟨rfl, hwk⟩ := hq
    refine V.st (st' := []) rfl ?_
    refine V.aload_n (j := 0) rfl dX7_order_18 ?_
    refine V.getr (q := 15) dX7_order_19 fX7_26 rfl rfl ?_
    refine V.getr (q := 18) dX7_order_22 fX7_126 rfl rfl ?_
    refine V.iload_n (j := 1) rfl dX7_order_25 ?_
    refine V.lda (v := A' 18 j) dX7_order_26 rfl (by omega) (by decide) rfl ?_
    refine V.ri dX7_order_27 rfl ?_
    exact ⟨fun _ => ⟨j, hj, rfl, rfl, hwk⟩, fun z => absurd b1 z⟩
  · refine V.st (st' := [.int (nI 0)]) (by rw [bI_f b1]; rfl) ?_
    refine V.if_ne (tgt := 13) dX7_order_8 (by decide) (fun z => absurd z (by decide)) (fun _ => ?_)
    refine V.iconst (v := (-1)) (by decide) dX7_order_11 ?_
    refine V.ri dX7_order_12 rfl ?_
    exact ⟨fun z => absurd z b1, fun _ => ⟨rfl, rfl, rfl⟩⟩
set_option maxRecDepth 100000 in
set_option maxHeartbeats 4000000 in
theorem ce_count0 {G : am_G} (I A : Nat → Nat → Int32) (hst : am_sta G) (nv ns : Nat) (hK : cz_K nv ns I A) (rd : Nat) (hrd : I 0 11 = nI rd) (hr4 : rd ≤ 4) (hL : cz_L rd nv ns I A) : Cm G MX7_count 6 144 [.ref 0, .int (nI 0)] I A (fun r I' A' => r = some (.int (nI nv)) ∧ I = I' ∧ A = A') := by
  refine Cm.of (by decide) (Nat.le_of_ble_eq_true rfl) rfl ?_
  show V G MX7_count (am_R 6 144 0 0) _ 0 0 0 [(0, .ref 0), (1, .int (nI 0))] [] (hp I A)
  obtain ⟨hn, hs, hnv, hns, hsw, hcl, hrg, hmem, h9, h10, h11, h20⟩ := id hK
  refine V.iload_n (j := 1) rfl dX7_count_0 ?_
  refine V.tableIn (tgt := 40) dX7_count_1 (by decide) (by decide) rfl (by decide) ?_
  refine V.aload_n (j := 0) rfl dX7_count_40 ?_
  refine V.getr (q := 1) dX7_count_41 fX7_12 rfl rfl ?_
  refine V.geti (v := nI nv) dX7_count_44 fX7_81 rfl rfl hn ?_
  refine V.ri dX7_count_47 rfl ?_
  exact ⟨rfl, rfl, rfl⟩
set_option maxRecDepth 100000 in
set_option maxHeartbeats 4000000 in
theorem ce_count1 {G : am_G} (I A : Nat → Nat → Int32) (hst : am_sta G) (nv ns : Nat) (hK : cz_K nv ns I A) (rd : Nat) (hrd : I 0 11 = nI rd) (hr4 : rd ≤ 4) (hL : cz_L rd nv ns I A) : Cm G MX7_count 6 144 [.ref 0, .int (nI 1)] I A (fun r I' A' => r = some (.int (nI ns)) ∧ I = I' ∧ A = A') := by
  refine Cm.of (by decide) (Nat.le_of_ble_eq_true rfl) rfl ?_
  show V G MX7_count (am_R 6 144 0 0) _ 0 0 0 [(0, .ref 0), (1, .int (nI 1))] [] (hp I A)
  obtain ⟨hn, hs, hnv, hns, hsw, hcl, hrg, hmem, h9, h10, h11, h20⟩ := id hK
  refine V.iload_n (j := 1) rfl dX7_count_0 ?_
  refine V.tableIn (tgt := 48) dX7_count_1 (by decide) (by decide) rfl (by decide) ?_
  refine V.aload_n (j := 0) rfl dX7_count_48 ?_
  refine V.getr (q := 1) dX7_count_49 fX7_12 rfl rfl ?_
  refine V.getr (q := 4) dX7_count_52 fX7_88 rfl rfl ?_
  refine V.geti (v := nI ns) dX7_count_55 fX7_91 rfl rfl hs ?_
  refine V.ri dX7_count_58 rfl ?_
  exact ⟨rfl, rfl, rfl⟩
set_option maxRecDepth 100000 in
set_option maxHeartbeats 4000000 in
theorem ce_count2 {G : am_G} (I A : Nat → Nat → Int32) (hst : am_sta G) (nv ns : Nat) (hK : cz_K nv ns I A) (rd : Nat) (hrd : I 0 11 = nI rd) (hr4 : rd ≤ 4) (hL : cz_L rd nv ns I A) : Cm G MX7_count 6 144 [.ref 0, .int (nI 2)] I A (fun r I' A' => r = some (.int (I' 25 4)) ∧ cz_Wk rd 3 nv ns I A I' A') := by
  refine Cm.of (by decide) (Nat.le_of_ble_eq_true rfl) rfl ?_
  show V G MX7_count (am_R 6 144 0 0) _ 0 0 0 [(0, .ref 0), (1, .int (nI 2))] [] (hp I A)
  obtain ⟨hn, hs, hnv, hns, hsw, hcl, hrg, hmem, h9, h10, h11, h20⟩ := id hK
  refine V.iload_n (j := 1) rfl dX7_count_0 ?_
  refine V.tableIn (tgt := 59) dX7_count_1 (by decide) (by decide) rfl (by decide) ?_
  refine V.aload_n (j := 0) rfl dX7_count_59 ?_
  refine V.iconst (v := nI 3) (by decide) dX7_count_60 ?_
  refine V.cV (As := [.int (nI 3)]) (st := []) dX7_count_61 sX7_108 iX7_workOut lX7_workOut rfl rfl (cd_work I A hst nv ns hK rd 3 hrd hr4 (by omega) hL) ⟨by decide, by decide⟩ (Nat.le_of_ble_eq_true rfl) rfl (fun r I' A' hq => ?_)
  obtain ⟨rfl, hwk⟩ := hq
  refine V.st (st' := []) rfl ?_
  refine V.aload_n (j := 0) rfl dX7_count_64 ?_
  refine V.getr (q := 25) dX7_count_65 fX7_49 rfl rfl ?_
  refine V.geti (v := I' 25 4) dX7_count_68 fX7_91 rfl rfl rfl ?_
  refine V.ri dX7_count_71 rfl ?_
  exact ⟨rfl, hwk⟩
set_option maxRecDepth 100000 in
set_option maxHeartbeats 4000000 in
theorem ce_count3 {G : am_G} (I A : Nat → Nat → Int32) (hst : am_sta G) (nv ns : Nat) (hK : cz_K nv ns I A) (rd : Nat) (hrd : I 0 11 = nI rd) (hr4 : rd ≤ 4) (hL : cz_L rd nv ns I A) : Cm G MX7_count 6 144 [.ref 0, .int (nI 3)] I A (fun r I' A' => r = some (.int (I' 30 4)) ∧ cz_Wk rd 4 nv ns I A I' A') := by
  refine Cm.of (by decide) (Nat.le_of_ble_eq_true rfl) rfl ?_
  show V G MX7_count (am_R 6 144 0 0) _ 0 0 0 [(0, .ref 0), (1, .int (nI 3))] [] (hp I A)
  obtain ⟨hn, hs, hnv, hns, hsw, hcl, hrg, hmem, h9, h10, h11, h20⟩ := id hK
  refine V.iload_n (j := 1) rfl dX7_count_0 ?_
  refine V.tableIn (tgt := 72) dX7_count_1 (by decide) (by decide) rfl (by decide) ?_
  refine V.aload_n (j := 0) rfl dX7_count_72 ?_
  refine V.iconst (v := nI 4) (by decide) dX7_count_73 ?_
  refine V.cV (As := [.int (nI 4)]) (st := []) dX7_count_74 sX7_108 iX7_workOut lX7_workOut rfl rfl (cd_work I A hst nv ns hK rd 4 hrd hr4 (by omega) hL) ⟨by decide, by decide⟩ (Nat.le_of_ble_eq_true rfl) rfl (fun r I' A' hq => ?_)
  obtain ⟨rfl, hwk⟩ := hq
  refine V.st (st' := []) rfl ?_
  refine V.aload_n (j := 0) rfl dX7_count_77 ?_
  refine V.getr (q := 30) dX7_count_78 fX7_53 rfl rfl ?_
  refine V.geti (v := I' 30 4) dX7_count_81 fX7_91 rfl rfl rfl ?_
  refine V.ri dX7_count_84 rfl ?_
  exact ⟨rfl, hwk⟩
set_option maxRecDepth 100000 in
set_option maxHeartbeats 4000000 in
theorem ce_count4 {G : am_G} (I A : Nat → Nat → Int32) (hst : am_sta G) (nv ns : Nat) (hK : cz_K nv ns I A) (rd : Nat) (hrd : I 0 11 = nI rd) (hr4 : rd ≤ 4) (hL : cz_L rd nv ns I A) : Cm G MX7_count 6 144 [.ref 0, .int (nI 4)] I A (fun r I' A' => r = some (.int (cz_bc (cz_po true (nI 100) (A' 20) (A' 3 0) 24 0 (nI 0)))) ∧ cz_Wk rd 2 nv ns I A I' A') := by
  refine Cm.of (by decide) (Nat.le_of_ble_eq_true rfl) rfl ?_
  show V G MX7_count (am_R 6 144 0 0) _ 0 0 0 [(0, .ref 0), (1, .int (nI 4))] [] (hp I A)
  obtain ⟨hn, hs, hnv, hns, hsw, hcl, hrg, hmem, h9, h10, h11, h20⟩ := id hK
  refine V.iload_n (j := 1) rfl dX7_count_0 ?_
  refine V.tableIn (tgt := 85) dX7_count_1 (by decide) (by decide) rfl (by decide) ?_
  refine V.aload_n (j := 0) rfl dX7_count_85 ?_
  refine V.iconst (v := nI 2) (by decide) dX7_count_86 ?_
  refine V.cV (As := [.int (nI 2)]) (st := []) dX7_count_87 sX7_108 iX7_workOut lX7_workOut rfl rfl (cd_work I A hst nv ns hK rd 2 hrd hr4 (by omega) hL) ⟨by decide, by decide⟩ (Nat.le_of_ble_eq_true rfl) rfl (fun r I' A' hq => ?_)
  obtain ⟨rfl, hwk⟩ := hq
  refine V.st (st' := []) rfl ?_
  refine V.aload_n (j := 0) rfl dX7_count_90 ?_
  refine V.getr (q := 15) dX7_count_91 fX7_26 rfl rfl ?_
  refine V.iload_n (j := 1) rfl dX7_count_94 ?_
  refine V.iconst (v := nI 4) (by decide) dX7_count_95 ?_
  refine V.isubN dX7_count_96 (by omega) ?_
  refine V.st (st' := [.int (nI 0), .ref 15]) rfl ?_
  refine V.aload_n (j := 0) rfl dX7_count_97 ?_
  refine V.getr (q := 1) dX7_count_98 fX7_12 rfl rfl ?_
  refine V.cV (As := [.int (nI 0), .ref 1]) (st := []) dX7_count_101 sX7_129 iX2_slotsOf lX2_slotsOf rfl rfl (cd_slotsOf I' A' 0 (by omega)) ⟨by decide, by decide⟩ (Nat.le_of_ble_eq_true rfl) rfl (fun r I' A' hq => ?_)
  obtain ⟨rfl, rfl, rfl⟩ := hq
  refine V.st (st' := [.int (cz_bc (cz_po true (nI 100) (A' 20) (A' 3 0) 24 0 (nI 0)))]) rfl ?_
  refine V.ri dX7_count_104 rfl ?_
  exact ⟨rfl, hwk⟩
set_option maxRecDepth 100000 in
set_option maxHeartbeats 4000000 in
theorem ce_count5 {G : am_G} (I A : Nat → Nat → Int32) (hst : am_sta G) (nv ns : Nat) (hK : cz_K nv ns I A) (rd : Nat) (hrd : I 0 11 = nI rd) (hr4 : rd ≤ 4) (hL : cz_L rd nv ns I A) : Cm G MX7_count 6 144 [.ref 0, .int (nI 5)] I A (fun r I' A' => r = some (.int (cz_bc (cz_po true (nI 100) (A' 20) (A' 3 1) 24 0 (nI 0)))) ∧ cz_Wk rd 2 nv ns I A I' A') := by
  refine Cm.of (by decide) (Nat.le_of_ble_eq_true rfl) rfl ?_
  show V G MX7_count (am_R 6 144 0 0) _ 0 0 0 [(0, .ref 0), (1, .int (nI 5))] [] (hp I A)
  obtain ⟨hn, hs, hnv, hns, hsw, hcl, hrg, hmem, h9, h10, h11, h20⟩ := id hK
  refine V.iload_n (j := 1) rfl dX7_count_0 ?_
  refine V.tableIn (tgt := 85) dX7_count_1 (by decide) (by decide) rfl (by decide) ?_
  refine V.aload_n (j := 0) rfl dX7_count_85 ?_
  refine V.iconst (v := nI 2) (by decide) dX7_count_86 ?_
  refine V.cV (As := [.int (nI 2)]) (st := []) dX7_count_87 sX7_108 iX7_workOut lX7_workOut rfl rfl (cd_work I A hst nv ns hK rd 2 hrd hr4 (by omega) hL) ⟨by decide, by decide⟩ (Nat.le_of_ble_eq_true rfl) rfl (fun r I' A' hq => ?_)
  obtain ⟨rfl, hwk⟩ := hq
  refine V.st (st' := []) rfl ?_
  refine V.aload_n (j := 0) rfl dX7_count_90 ?_
  refine V.getr (q := 15) dX7_count_91 fX7_26 rfl rfl ?_
  refine V.iload_n (j := 1) rfl dX7_count_94 ?_
  refine V.iconst (v := nI 4) (by decide) dX7_count_95 ?_
  refine V.isubN dX7_count_96 (by omega) ?_
  refine V.st (st' := [.int (nI 1), .ref 15]) rfl ?_
  refine V.aload_n (j := 0) rfl dX7_count_97 ?_
  refine V.getr (q := 1) dX7_count_98 fX7_12 rfl rfl ?_
  refine V.cV (As := [.int (nI 1), .ref 1]) (st := []) dX7_count_101 sX7_129 iX2_slotsOf lX2_slotsOf rfl rfl (cd_slotsOf I' A' 1 (by omega)) ⟨by decide, by decide⟩ (Nat.le_of_ble_eq_true rfl) rfl (fun r I' A' hq => ?_)
  obtain ⟨rfl, rfl, rfl⟩ := hq
  refine V.st (st' := [.int (cz_bc (cz_po true (nI 100) (A' 20) (A' 3 1) 24 0 (nI 0)))]) rfl ?_
  refine V.ri dX7_count_104 rfl ?_
  exact ⟨rfl, hwk⟩
set_option maxRecDepth 100000 in
theorem ce_countO {G : am_G} (I A : Nat → Nat → Int32) (x : Int32) (h : x.toInt < 0 ∨ 5 < x.toInt) : Cm G MX7_count 6 144 [.ref 0, .int x] I A (fun r I' A' => r = some (.int (-1)) ∧ I = I' ∧ A = A') := by
  refine Cm.of (by decide) (Nat.le_of_ble_eq_true rfl) rfl ?_
  show V G MX7_count (am_R 6 144 0 0) _ 0 0 0 [(0, .ref 0), (1, .int x)] [] (hp I A)
  refine V.iload_n (j := 1) rfl dX7_count_0 ?_
  refine V.tableOut (tgt := 105) dX7_count_1 h (by decide) ?_
  refine V.iconst (v := (-1)) (by decide) dX7_count_105 ?_
  refine V.ri dX7_count_106 rfl ?_
  exact ⟨rfl, rfl, rfl⟩
set_option maxRecDepth 100000 in
set_option maxHeartbeats 4000000 in
theorem cd_stage0 {G : am_G} (I A : Nat → Nat → Int32)  : Cm G MX7_stageOf 0 0 [.int (nI 0)] I A (fun r I' A' => r = some (.int (nI 0)) ∧ I = I' ∧ A = A') := by
  refine Cm.of (by decide) (Nat.le_of_ble_eq_true rfl) rfl ?_
  show V G MX7_stageOf (am_R 0 0 0 0) _ 0 0 0 [(0, .int (nI 0))] [] (hp I A)
  refine V.iload_n (j := 0) rfl dX7_stageOf_0 ?_
  refine V.lookup (tgt := 32) (off := 31) dX7_stageOf_1 (by decide) (by decide) (by decide) ?_
  refine V.iconst (v := nI 0) (by decide) dX7_stageOf_32 ?_
  refine V.ri dX7_stageOf_33 rfl ?_
  exact ⟨rfl, rfl, rfl⟩
set_option maxRecDepth 100000 in
set_option maxHeartbeats 4000000 in
theorem cd_listing0 {G : am_G} (I A : Nat → Nat → Int32)  : Cm G MX7_listingOf 0 0 [.ref 0, .int (nI 0)] I A (fun r I' A' => r = some (.ref 4) ∧ I = I' ∧ A = A') := by
  refine Cm.of (by decide) (Nat.le_of_ble_eq_true rfl) rfl ?_
  show V G MX7_listingOf (am_R 0 0 0 0) _ 0 0 0 [(0, .ref 0), (1, .int (nI 0))] [] (hp I A)
  refine V.iload_n (j := 1) rfl dX7_listingOf_0 ?_
  refine V.lookup (tgt := 38) (off := 37) dX7_listingOf_1 (by decide) (by decide) (by decide) ?_
  refine V.aload_n (j := 0) rfl dX7_listingOf_38 ?_
  refine V.getr (q := 1) dX7_listingOf_39 fX7_12 rfl rfl ?_
  refine V.getr (q := 4) dX7_listingOf_42 fX7_88 rfl rfl ?_
  refine V.ra dX7_listingOf_45 rfl ?_
  exact ⟨rfl, rfl, rfl⟩
set_option maxRecDepth 100000 in
set_option maxHeartbeats 4000000 in
theorem cd_stage1 {G : am_G} (I A : Nat → Nat → Int32)  : Cm G MX7_stageOf 0 0 [.int (nI 1)] I A (fun r I' A' => r = some (.int (nI 3)) ∧ I = I' ∧ A = A') := by
  refine Cm.of (by decide) (Nat.le_of_ble_eq_true rfl) rfl ?_
  show V G MX7_stageOf (am_R 0 0 0 0) _ 0 0 0 [(0, .int (nI 1))] [] (hp I A)
  refine V.iload_n (j := 0) rfl dX7_stageOf_0 ?_
  refine V.lookup (tgt := 28) (off := 27) dX7_stageOf_1 (by decide) (by decide) (by decide) ?_
  refine V.iconst (v := nI 3) (by decide) dX7_stageOf_28 ?_
  refine V.ri dX7_stageOf_29 rfl ?_
  exact ⟨rfl, rfl, rfl⟩
set_option maxRecDepth 100000 in
set_option maxHeartbeats 4000000 in
theorem cd_listing1 {G : am_G} (I A : Nat → Nat → Int32)  : Cm G MX7_listingOf 0 0 [.ref 0, .int (nI 1)] I A (fun r I' A' => r = some (.ref 25) ∧ I = I' ∧ A = A') := by
  refine Cm.of (by decide) (Nat.le_of_ble_eq_true rfl) rfl ?_
  show V G MX7_listingOf (am_R 0 0 0 0) _ 0 0 0 [(0, .ref 0), (1, .int (nI 1))] [] (hp I A)
  refine V.iload_n (j := 1) rfl dX7_listingOf_0 ?_
  refine V.lookup (tgt := 28) (off := 27) dX7_listingOf_1 (by decide) (by decide) (by decide) ?_
  refine V.aload_n (j := 0) rfl dX7_listingOf_28 ?_
  refine V.getr (q := 25) dX7_listingOf_29 fX7_49 rfl rfl ?_
  refine V.ra dX7_listingOf_32 rfl ?_
  exact ⟨rfl, rfl, rfl⟩
set_option maxRecDepth 100000 in
set_option maxHeartbeats 4000000 in
theorem cd_stage2 {G : am_G} (I A : Nat → Nat → Int32)  : Cm G MX7_stageOf 0 0 [.int (nI 2)] I A (fun r I' A' => r = some (.int (nI 4)) ∧ I = I' ∧ A = A') := by
  refine Cm.of (by decide) (Nat.le_of_ble_eq_true rfl) rfl ?_
  show V G MX7_stageOf (am_R 0 0 0 0) _ 0 0 0 [(0, .int (nI 2))] [] (hp I A)
  refine V.iload_n (j := 0) rfl dX7_stageOf_0 ?_
  refine V.lookup (tgt := 30) (off := 29) dX7_stageOf_1 (by decide) (by decide) (by decide) ?_
  refine V.iconst (v := nI 4) (by decide) dX7_stageOf_30 ?_
  refine V.ri dX7_stageOf_31 rfl ?_
  exact ⟨rfl, rfl, rfl⟩
set_option maxRecDepth 100000 in
set_option maxHeartbeats 4000000 in
theorem cd_listing2 {G : am_G} (I A : Nat → Nat → Int32)  : Cm G MX7_listingOf 0 0 [.ref 0, .int (nI 2)] I A (fun r I' A' => r = some (.ref 30) ∧ I = I' ∧ A = A') := by
  refine Cm.of (by decide) (Nat.le_of_ble_eq_true rfl) rfl ?_
  show V G MX7_listingOf (am_R 0 0 0 0) _ 0 0 0 [(0, .ref 0), (1, .int (nI 2))] [] (hp I A)
  refine V.iload_n (j := 1) rfl dX7_listingOf_0 ?_
  refine V.lookup (tgt := 33) (off := 32) dX7_listingOf_1 (by decide) (by decide) (by decide) ?_
  refine V.aload_n (j := 0) rfl dX7_listingOf_33 ?_
  refine V.getr (q := 30) dX7_listingOf_34 fX7_53 rfl rfl ?_
  refine V.ra dX7_listingOf_37 rfl ?_
  exact ⟨rfl, rfl, rfl⟩
set_option maxRecDepth 100000 in
set_option maxHeartbeats 4000000 in
theorem ce_item1 {G : am_G} (I A : Nat → Nat → Int32) (hst : am_sta G) (nv ns : Nat) (hK : cz_K nv ns I A) (rd : Nat) (hrd : I 0 11 = nI rd) (hr4 : rd ≤ 4) (hL : cz_L rd nv ns I A) (i p : Int32) : Cm G MX7_item 6 144 [.ref 0, .int (nI 1), .int i, .int p] I A (fun r I' A' => cz_Wk rd 3 nv ns I A I' A' ∧ ∃ n, n ≤ 240 ∧ I' 25 4 = nI n ∧ ((¬ i < 0 ∧ i < nI n) → ∃ j, j < n ∧ i = nI j ∧ r = some (.int (cz_part (A' 26) (A' 27) (A' 28) (A' 29) j p))) ∧ (¬ (¬ i < 0 ∧ i < nI n) → r = some (.int (-1)))) := by
  refine Cm.of (by decide) (Nat.le_of_ble_eq_true rfl) rfl ?_
  show V G MX7_item (am_R 6 144 0 0) _ 0 0 0 [(0, .ref 0), (1, .int (nI 1)), (2, .int i), (3, .int p)] [] (hp I A)
  obtain ⟨hn, hs, hnv, hns, hsw, hcl, hrg, hmem, h9, h10, h11, h20⟩ := id hK
  refine V.iload_n (j := 1) rfl dX7_item_0 ?_
  refine V.iconst (v := nI 1) (by decide) dX7_item_1 ?_
  refine V.icmp_eq (tgt := 12) dX7_item_2 (by decide) (fun _ => ?_) (fun z => absurd z (by decide))
  refine V.aload_n (j := 0) rfl dX7_item_12 ?_
  refine V.iload_n (j := 1) rfl dX7_item_13 ?_
  refine V.cS (As := [.int (nI 1)]) (st := [.ref 0]) dX7_item_14 sX7_133 zX7_stageOf (cd_stage1 I A) ⟨by decide, by decide⟩ (Nat.le_of_ble_eq_true rfl) rfl (fun r I' A' hq => ?_)
  obtain ⟨rfl, rfl, rfl⟩ := hq
  refine V.st (st' := [.int (nI 3), .ref 0]) rfl ?_
  refine V.cV (As := [.int (nI 3)]) (st := []) dX7_item_17 sX7_108 iX7_workOut lX7_workOut rfl rfl (cd_work I A hst nv ns hK rd 3 hrd hr4 (by omega) hL) ⟨by decide, by decide⟩ (Nat.le_of_ble_eq_true rfl) rfl (fun r I' A' hq => ?_)
  obtain ⟨rfl, hwk⟩ := hq
  refine V.st (st' := []) rfl ?_
  obtain ⟨n, hn240, en, -⟩ := hwk.2.2.2.2.2.2.1 (by omega)
  refine V.aload_n (j := 0) rfl dX7_item_20 ?_
  refine V.iload_n (j := 1) rfl dX7_item_21 ?_
  refine V.cV (As := [.int (nI 1)]) (st := []) dX7_item_22 sX7_136 iX7_listingOf lX7_listingOf rfl rfl (cd_listing1 I' A') ⟨by decide, by decide⟩ (Nat.le_of_ble_eq_true rfl) rfl (fun r I' A' hq => ?_)
  obtain ⟨rfl, rfl, rfl⟩ := hq
  refine V.st (st' := [.ref 25]) rfl ?_
  refine V.astore (ls' := [(0, .ref 0), (1, .int (nI 1)), (2, .int i), (3, .int p), (4, .ref 25)]) dX7_item_25 (by decide) rfl ?_
  refine V.iload_n (j := 2) rfl dX7_item_27 ?_
  refine V.if_lt (tgt := 40) dX7_item_28 (by decide) (fun c2 => ?_) (fun c2 => ?_)
  · refine V.iconst (v := (-1)) (by decide) dX7_item_40 ?_
    refine V.ri dX7_item_41 rfl ?_
    exact ⟨hwk, n, hn240, en, fun z => absurd c2 z.1, fun _ => rfl⟩
  · refine V.iload_n (j := 2) rfl dX7_item_31 ?_
    refine V.aload (j := 4) rfl dX7_item_32 ?_
    refine V.geti (v := nI n) dX7_item_34 fX7_91 rfl rfl en ?_
    refine V.icmp_lt (tgt := 42) dX7_item_37 (by decide) (fun c3 => ?_) (fun c3 => ?_)
    · obtain ⟨j, hj, rfl⟩ := mz_lt (nv := n) (by omega) c2 c3
      refine V.aload (j := 4) rfl dX7_item_42 ?_
      refine V.iload_n (j := 2) rfl dX7_item_44 ?_
      refine V.iload_n (j := 3) rfl dX7_item_45 ?_
      refine V.cV (As := [.int (nI j), .int p]) (st := []) dX7_item_46 sX7_140 iX3_part lX3_part rfl rfl (cd_part25 I' A' j (by omega) _) ⟨by decide, by decide⟩ (Nat.le_of_ble_eq_true rfl) rfl (fun r I' A' hq => ?_)
      obtain ⟨rfl, rfl, rfl⟩ := hq
      refine V.st (st' := [.int (cz_part (A' 26) (A' 27) (A' 28) (A' 29) j (p))]) rfl ?_
      refine V.ri dX7_item_49 rfl ?_
      exact ⟨hwk, n, hn240, en, fun _ => ⟨j, hj, rfl, rfl⟩, fun z => absurd ⟨c2, c3⟩ z⟩
    · refine V.iconst (v := (-1)) (by decide) dX7_item_40 ?_
      refine V.ri dX7_item_41 rfl ?_
      exact ⟨hwk, n, hn240, en, fun z => absurd z.2 c3, fun _ => rfl⟩
set_option maxRecDepth 100000 in
set_option maxHeartbeats 4000000 in
theorem ce_item2 {G : am_G} (I A : Nat → Nat → Int32) (hst : am_sta G) (nv ns : Nat) (hK : cz_K nv ns I A) (rd : Nat) (hrd : I 0 11 = nI rd) (hr4 : rd ≤ 4) (hL : cz_L rd nv ns I A) (i p : Int32) : Cm G MX7_item 6 144 [.ref 0, .int (nI 2), .int i, .int p] I A (fun r I' A' => cz_Wk rd 4 nv ns I A I' A' ∧ ∃ n, n ≤ 240 ∧ I' 30 4 = nI n ∧ ((¬ i < 0 ∧ i < nI n) → ∃ j, j < n ∧ i = nI j ∧ r = some (.int (cz_part (A' 31) (A' 32) (A' 33) (A' 34) j p))) ∧ (¬ (¬ i < 0 ∧ i < nI n) → r = some (.int (-1)))) := by
  refine Cm.of (by decide) (Nat.le_of_ble_eq_true rfl) rfl ?_
  show V G MX7_item (am_R 6 144 0 0) _ 0 0 0 [(0, .ref 0), (1, .int (nI 2)), (2, .int i), (3, .int p)] [] (hp I A)
  obtain ⟨hn, hs, hnv, hns, hsw, hcl, hrg, hmem, h9, h10, h11, h20⟩ := id hK
  refine V.iload_n (j := 1) rfl dX7_item_0 ?_
  refine V.iconst (v := nI 1) (by decide) dX7_item_1 ?_
  refine V.icmp_eq (tgt := 12) dX7_item_2 (by decide) (fun z => absurd z (by decide)) (fun _ => ?_)
  refine V.iload_n (j := 1) rfl dX7_item_5 ?_
  refine V.iconst (v := nI 2) (by decide) dX7_item_6 ?_
  refine V.icmp_eq (tgt := 12) dX7_item_7 (by decide) (fun _ => ?_) (fun z => absurd z (by decide))
  refine V.aload_n (j := 0) rfl dX7_item_12 ?_
  refine V.iload_n (j := 1) rfl dX7_item_13 ?_
  refine V.cS (As := [.int (nI 2)]) (st := [.ref 0]) dX7_item_14 sX7_133 zX7_stageOf (cd_stage2 I A) ⟨by decide, by decide⟩ (Nat.le_of_ble_eq_true rfl) rfl (fun r I' A' hq => ?_)
  obtain ⟨rfl, rfl, rfl⟩ := hq
  refine V.st (st' := [.int (nI 4), .ref 0]) rfl ?_
  refine V.cV (As := [.int (nI 4)]) (st := []) dX7_item_17 sX7_108 iX7_workOut lX7_workOut rfl rfl (cd_work I A hst nv ns hK rd 4 hrd hr4 (by omega) hL) ⟨by decide, by decide⟩ (Nat.le_of_ble_eq_true rfl) rfl (fun r I' A' hq => ?_)
  obtain ⟨rfl, hwk⟩ := hq
  refine V.st (st' := []) rfl ?_
  obtain ⟨n, hn240, en, -⟩ := hwk.2.2.2.2.2.2.2 (by omega)
  refine V.aload_n (j := 0) rfl dX7_item_20 ?_
  refine V.iload_n (j := 1) rfl dX7_item_21 ?_
  refine V.cV (As := [.int (nI 2)]) (st := []) dX7_item_22 sX7_136 iX7_listingOf lX7_listingOf rfl rfl (cd_listing2 I' A') ⟨by decide, by decide⟩ (Nat.le_of_ble_eq_true rfl) rfl (fun r I' A' hq => ?_)
  obtain ⟨rfl, rfl, rfl⟩ := hq
  refine V.st (st' := [.ref 30]) rfl ?_
  refine V.astore (ls' := [(0, .ref 0), (1, .int (nI 2)), (2, .int i), (3, .int p), (4, .ref 30)]) dX7_item_25 (by decide) rfl ?_
  refine V.iload_n (j := 2) rfl dX7_item_27 ?_
  refine V.if_lt (tgt := 40) dX7_item_28 (by decide) (fun c3 => ?_) (fun c3 => ?_)
  · refine V.iconst (v := (-1)) (by decide) dX7_item_40 ?_
    refine V.ri dX7_item_41 rfl ?_
    exact ⟨hwk, n, hn240, en, fun z => absurd c3 z.1, fun _ => rfl⟩
  · refine V.iload_n (j := 2) rfl dX7_item_31 ?_
    refine V.aload (j := 4) rfl dX7_item_32 ?_
    refine V.geti (v := nI n) dX7_item_34 fX7_91 rfl rfl en ?_
    refine V.icmp_lt (tgt := 42) dX7_item_37 (by decide) (fun c4 => ?_) (fun c4 => ?_)
    · obtain ⟨j, hj, rfl⟩ := mz_lt (nv := n) (by omega) c3 c4
      refine V.aload (j := 4) rfl dX7_item_42 ?_
      refine V.iload_n (j := 2) rfl dX7_item_44 ?_
      refine V.iload_n (j := 3) rfl dX7_item_45 ?_
      refine V.cV (As := [.int (nI j), .int p]) (st := []) dX7_item_46 sX7_140 iX3_part lX3_part rfl rfl (cd_part30 I' A' j (by omega) _) ⟨by decide, by decide⟩ (Nat.le_of_ble_eq_true rfl) rfl (fun r I' A' hq => ?_)
      obtain ⟨rfl, rfl, rfl⟩ := hq
      refine V.st (st' := [.int (cz_part (A' 31) (A' 32) (A' 33) (A' 34) j (p))]) rfl ?_
      refine V.ri dX7_item_49 rfl ?_
      exact ⟨hwk, n, hn240, en, fun _ => ⟨j, hj, rfl, rfl⟩, fun z => absurd ⟨c3, c4⟩ z⟩
    · refine V.iconst (v := (-1)) (by decide) dX7_item_40 ?_
      refine V.ri dX7_item_41 rfl ?_
      exact ⟨hwk, n, hn240, en, fun z => absurd z.2 c4, fun _ => rfl⟩
set_option maxRecDepth 100000 in
theorem ce_itemO {G : am_G} (I A : Nat → Nat → Int32) (w i p : Int32) (h1 : ¬ w = nI 1) (h2 : ¬ w = nI 2) : Cm G MX7_item 6 144 [.ref 0, .int w, .int i, .int p] I A (fun r I' A' => r = some (.int (-1)) ∧ I = I' ∧ A = A') := by
  refine Cm.of (by decide) (Nat.le_of_ble_eq_true rfl) rfl ?_
  show V G MX7_item (am_R 6 144 0 0) _ 0 0 0 [(0, .ref 0), (1, .int w), (2, .int i), (3, .int p)] [] (hp I A)
  refine V.iload_n (j := 1) rfl dX7_item_0 ?_
  refine V.iconst (v := nI 1) (by decide) dX7_item_1 ?_
  refine V.icmp_eq (tgt := 12) dX7_item_2 (by decide) (fun z => absurd z h1) (fun _ => ?_)
  refine V.iload_n (j := 1) rfl dX7_item_5 ?_
  refine V.iconst (v := nI 2) (by decide) dX7_item_6 ?_
  refine V.icmp_eq (tgt := 12) dX7_item_7 (by decide) (fun z => absurd z h2) (fun _ => ?_)
  refine V.iconst (v := (-1)) (by decide) dX7_item_10 ?_
  refine V.ri dX7_item_11 rfl ?_
  exact ⟨rfl, rfl, rfl⟩
theorem cz_iw_of {c o x y z : Nat → Int32} {ba i : Nat} (h : mz_i2 c ba i) (e0 : o i = c (ba + 4 * i)) (e1 : x i = c (ba + 4 * i + 1)) (e2 : y i = c (ba + 4 * i + 2)) (e3 : z i = c (ba + 4 * i + 3)) : cz_iw o x y z i := by
  obtain ⟨⟨k, hk, ek, h3, h4, h5, h6, h7⟩, h8⟩ := h
  refine ⟨k, hk, by rw [e0]; exact ek, by rw [e1]; exact h3, fun q => by rw [e2]; exact h4 (Or.inl q), fun q => ?_, by rw [e3]; exact h5, by rw [e3]; exact h6, by rw [e1]; exact h7⟩
  rw [e2]
  apply h8
  rw [ek]
  rcases (show k = 11 ∨ k = 12 by omega) with rfl | rfl
  · exact Or.inl rfl
  · exact Or.inr rfl
theorem cz_iw_sw {nv : Nat} {o x y z : Nat → Int32} {i : Nat} (hnv : nv ≤ 24) (h : mz_sw nv (o i) (x i) (y i) (z i)) : cz_iw o x y z i ∧ ∀ k, o i = nI k → k ≤ 12 → k ≤ 10 := by
  obtain ⟨k, hk, ek, h3, h4, h5, h6, h7, h8⟩ := h
  refine ⟨⟨k, by omega, ek, fun q => ?_, fun q => ?_, fun q => by omega, fun q => ?_, fun q => ?_, fun q => ?_⟩, fun k' e hk' => ?_⟩
  · obtain ⟨a, ha, e⟩ := h3 (by omega); exact ⟨a, by omega, e⟩
  · obtain ⟨a, ha, e⟩ := h4 q; exact ⟨a, by omega, e⟩
  · obtain ⟨a, ha, e⟩ := h5 q; exact ⟨a, by omega, e⟩
  · obtain ⟨a, ha, e⟩ := h7 q; exact ⟨a, by omega, e⟩
  · obtain ⟨a, ha, e⟩ := h8 q; exact ⟨a, by omega, e⟩
  · have := (nI_eq (by omega) (by omega)).mp (ek.symm.trans e); omega
/-- the machine's run from its beginning, over the rows o x y z: machine's rows R C P S, told memory -/
abbrev cz_rn (n : Nat) (c : Nat → Int32) (g : Nat) (A : Nat → Nat → Int32) (R C P S : Nat) : mz_QS := mz_rnI n c 0 g 0 0 (mz_fill 32 0 (A R)) (mz_cpf (A 35) 64 0 (A C)) (A P) (cz_sl (mz_fill 48 0 (A S))) 0
set_option maxRecDepth 100000 in
set_option maxHeartbeats 4000000 in
theorem ce_run0 {G : am_G} (I A : Nat → Nat → Int32) (hst : am_sta G) (nv ns : Nat) (hK : cz_K nv ns I A) (rd : Nat) (hrd : I 0 11 = nI rd) (hr4 : rd ≤ 4) (hL : cz_L rd nv ns I A) (gr : Int32) : Cm G MX7_run 6 144 [.ref 0, .int (nI 0), .int gr] I A (fun r I' A' => ((¬ gr < 0 ∧ gr ≤ nI 2000) → ∃ g, g ≤ 2000 ∧ gr = nI g ∧ ∃ I1 A1, cz_Wk rd 0 nv ns I A I1 A1 ∧ ∃ n, n ≤ 240 ∧ I1 4 4 = nI n ∧ r = some (.int (nI (if n ≤ (cz_rn n (cz_c (A1 5) (A1 6) (A1 7) (A1 8)) g A1 37 39 40 38).1 then 0 else 1))) ∧ upI (upI I1 36 5 (nI (cz_rn n (cz_c (A1 5) (A1 6) (A1 7) (A1 8)) g A1 37 39 40 38).2.1)) 36 4 (nI (cz_rn n (cz_c (A1 5) (A1 6) (A1 7) (A1 8)) g A1 37 39 40 38).2.2.2.2.2.2) = I' ∧ ∃ s', upA (upA (upA (upA A1 37 (cz_rn n (cz_c (A1 5) (A1 6) (A1 7) (A1 8)) g A1 37 39 40 38).2.2.1) 39 (cz_rn n (cz_c (A1 5) (A1 6) (A1 7) (A1 8)) g A1 37 39 40 38).2.2.2.1) 40 (cz_rn n (cz_c (A1 5) (A1 6) (A1 7) (A1 8)) g A1 37 39 40 38).2.2.2.2.1) 38 s' = A') ∧ (¬ (¬ gr < 0 ∧ gr ≤ nI 2000) → r = some (.int (-1)) ∧ I = I' ∧ A = A')) := by
  refine Cm.of (by decide) (Nat.le_of_ble_eq_true rfl) rfl ?_
  show V G MX7_run (am_R 6 144 0 0) _ 0 0 0 [(0, .ref 0), (1, .int (nI 0)), (2, .int gr)] [] (hp I A)
  obtain ⟨hn, hs, hnv, hns, hsw, hcl, hrg, hmem, h9, h10, h11, h20⟩ := id hK
  refine V.iload_n (j := 1) rfl dX7_run_0 ?_
  refine V.if_lt (tgt := 20) dX7_run_1 (by decide) (fun z => absurd z (by decide)) (fun _ => ?_)
  refine V.iload_n (j := 1) rfl dX7_run_4 ?_
  refine V.iconst (v := nI 2) (by decide) dX7_run_5 ?_
  refine V.icmp_gt (tgt := 20) dX7_run_6 (by decide) (fun z => absurd z (by decide)) (fun _ => ?_)
  refine V.iload_n (j := 2) rfl dX7_run_9 ?_
  refine V.if_lt (tgt := 20) dX7_run_10 (by decide) (fun c3 => ?_) (fun c3 => ?_)
  · refine V.iconst (v := (-1)) (by decide) dX7_run_20 ?_
    refine V.ri dX7_run_21 rfl ?_
    exact ⟨fun z => absurd c3 z.1, fun _ => ⟨rfl, rfl, rfl⟩⟩
  · refine V.iload_n (j := 2) rfl dX7_run_13 ?_
    refine V.sipush (v := nI 2000) (by decide) dX7_run_14 ?_
    refine V.icmp_le (tgt := 22) dX7_run_17 (by decide) (fun c4 => ?_) (fun c4 => ?_)
    · obtain ⟨g, hg, rfl⟩ := mz_le (nv := 2000) (by decide) c3 c4
      refine V.aload_n (j := 0) rfl dX7_run_22 ?_
      refine V.iload_n (j := 1) rfl dX7_run_23 ?_
      refine V.cS (As := [.int (nI 0)]) (st := [.ref 0]) dX7_run_24 sX7_133 zX7_stageOf (cd_stage0 I A) ⟨by decide, by decide⟩ (Nat.le_of_ble_eq_true rfl) rfl (fun r I' A' hq => ?_)
      obtain ⟨rfl, rfl, rfl⟩ := hq
      refine V.st (st' := [.int (nI 0), .ref 0]) rfl ?_
      refine V.cV (As := [.int (nI 0)]) (st := []) dX7_run_27 sX7_108 iX7_workOut lX7_workOut rfl rfl (cd_work I A hst nv ns hK rd 0 hrd hr4 (by omega) hL) ⟨by decide, by decide⟩ (Nat.le_of_ble_eq_true rfl) rfl (fun r I' A' hq => ?_)
      obtain ⟨rfl, hwk⟩ := hq
      refine V.st (st' := []) rfl ?_
      obtain ⟨-, hs2, -, -, hsw2, -⟩ := id hwk.2.2.2.1
      obtain ⟨n, rfl⟩ : ∃ n, n = ns := ⟨ns, rfl⟩
      have en := hs2
      have hiw : ∀ i, i < n → cz_iw (A' 5) (A' 6) (A' 7) (A' 8) i := fun i hi => (cz_iw_sw hnv (hsw2 i hi)).1
      have hi10 : ∀ i, i < n → ∀ k, A' 5 i = nI k → k ≤ 12 → k ≤ 10 := fun i hi => (cz_iw_sw hnv (hsw2 i hi)).2
      refine V.aload_n (j := 0) rfl dX7_run_30 ?_
      refine V.getr (q := 36) dX7_run_31 fX7_63 rfl rfl ?_
      refine V.iload_n (j := 2) rfl dX7_run_34 ?_
      refine V.aload_n (j := 0) rfl dX7_run_35 ?_
      refine V.iload_n (j := 1) rfl dX7_run_36 ?_
      refine V.cV (As := [.int (nI 0)]) (st := [.int (nI g), .ref 36]) dX7_run_37 sX7_136 iX7_listingOf lX7_listingOf rfl rfl (cd_listing0 I' A') ⟨by decide, by decide⟩ (Nat.le_of_ble_eq_true rfl) rfl (fun r I' A' hq => ?_)
      obtain ⟨rfl, rfl, rfl⟩ := hq
      refine V.st (st' := [.ref 4, .int (nI g), .ref 36]) rfl ?_
      refine V.aload_n (j := 0) rfl dX7_run_40 ?_
      refine V.getr (q := 35) dX7_run_41 fX7_56 rfl rfl ?_
      refine V.cV (As := [.int (nI g), .ref 4, .ref 35]) (st := []) dX7_run_44 sX7_144 iX4_endsWithin lX4_endsWithin rfl rfl (cd_ends36_4 I' A' n en (by omega) hiw hi10 g hg) ⟨by decide, by decide⟩ (Nat.le_of_ble_eq_true rfl) rfl (fun r I' A' hq => ?_)
      obtain ⟨rfl, rfl, s', rfl⟩ := hq
      by_cases b5 : n ≤ (cz_rn n (cz_c (A' 5) (A' 6) (A' 7) (A' 8)) g A' 37 39 40 38).1
      · refine V.st (st' := [.int (nI 1)]) (by rw [bI_t b5]; rfl) ?_
        refine V.if_eq (tgt := 54) dX7_run_47 (by decide) (fun z => absurd z (by decide)) (fun _ => ?_)
        refine V.iconst (v := nI 0) (by decide) dX7_run_50 ?_
        refine V.goto (tgt := 55) dX7_run_51 (by decide) ?_
        refine V.ri dX7_run_55 rfl ?_
        exact ⟨fun _ => ⟨g, hg, rfl, I', A', hwk, n, (by omega), en, by rw [if_pos b5], rfl, s', rfl⟩, fun z => absurd ⟨c3, c4⟩ z⟩
      · refine V.st (st' := [.int (nI 0)]) (by rw [bI_f b5]; rfl) ?_
        refine V.if_eq (tgt := 54) dX7_run_47 (by decide) (fun _ => ?_) (fun z => absurd z (by decide))
        refine V.iconst (v := nI 1) (by decide) dX7_run_54 ?_
        refine V.ri dX7_run_55 rfl ?_
        exact ⟨fun _ => ⟨g, hg, rfl, I', A', hwk, n, (by omega), en, by rw [if_neg b5], rfl, s', rfl⟩, fun z => absurd ⟨c3, c4⟩ z⟩
    · refine V.iconst (v := (-1)) (by decide) dX7_run_20 ?_
      refine V.ri dX7_run_21 rfl ?_
      exact ⟨fun z => absurd z.2 c4, fun _ => ⟨rfl, rfl, rfl⟩⟩
set_option maxRecDepth 100000 in
set_option maxHeartbeats 4000000 in
theorem ce_run1 {G : am_G} (I A : Nat → Nat → Int32) (hst : am_sta G) (nv ns : Nat) (hK : cz_K nv ns I A) (rd : Nat) (hrd : I 0 11 = nI rd) (hr4 : rd ≤ 4) (hL : cz_L rd nv ns I A) (gr : Int32) : Cm G MX7_run 6 144 [.ref 0, .int (nI 1), .int gr] I A (fun r I' A' => ((¬ gr < 0 ∧ gr ≤ nI 2000) → ∃ g, g ≤ 2000 ∧ gr = nI g ∧ ∃ I1 A1, cz_Wk rd 3 nv ns I A I1 A1 ∧ ∃ n, n ≤ 240 ∧ I1 25 4 = nI n ∧ r = some (.int (nI (if n ≤ (cz_rn n (cz_c (A1 26) (A1 27) (A1 28) (A1 29)) g A1 37 39 40 38).1 then 0 else 1))) ∧ upI (upI I1 36 5 (nI (cz_rn n (cz_c (A1 26) (A1 27) (A1 28) (A1 29)) g A1 37 39 40 38).2.1)) 36 4 (nI (cz_rn n (cz_c (A1 26) (A1 27) (A1 28) (A1 29)) g A1 37 39 40 38).2.2.2.2.2.2) = I' ∧ ∃ s', upA (upA (upA (upA A1 37 (cz_rn n (cz_c (A1 26) (A1 27) (A1 28) (A1 29)) g A1 37 39 40 38).2.2.1) 39 (cz_rn n (cz_c (A1 26) (A1 27) (A1 28) (A1 29)) g A1 37 39 40 38).2.2.2.1) 40 (cz_rn n (cz_c (A1 26) (A1 27) (A1 28) (A1 29)) g A1 37 39 40 38).2.2.2.2.1) 38 s' = A') ∧ (¬ (¬ gr < 0 ∧ gr ≤ nI 2000) → r = some (.int (-1)) ∧ I = I' ∧ A = A')) := by
  refine Cm.of (by decide) (Nat.le_of_ble_eq_true rfl) rfl ?_
  show V G MX7_run (am_R 6 144 0 0) _ 0 0 0 [(0, .ref 0), (1, .int (nI 1)), (2, .int gr)] [] (hp I A)
  obtain ⟨hn, hs, hnv, hns, hsw, hcl, hrg, hmem, h9, h10, h11, h20⟩ := id hK
  refine V.iload_n (j := 1) rfl dX7_run_0 ?_
  refine V.if_lt (tgt := 20) dX7_run_1 (by decide) (fun z => absurd z (by decide)) (fun _ => ?_)
  refine V.iload_n (j := 1) rfl dX7_run_4 ?_
  refine V.iconst (v := nI 2) (by decide) dX7_run_5 ?_
  refine V.icmp_gt (tgt := 20) dX7_run_6 (by decide) (fun z => absurd z (by decide)) (fun _ => ?_)
  refine V.iload_n (j := 2) rfl dX7_run_9 ?_
  refine V.if_lt (tgt := 20) dX7_run_10 (by decide) (fun c3 => ?_) (fun c3 => ?_)
  · refine V.iconst (v := (-1)) (by decide) dX7_run_20 ?_
    refine V.ri dX7_run_21 rfl ?_
    exact ⟨fun z => absurd c3 z.1, fun _ => ⟨rfl, rfl, rfl⟩⟩
  · refine V.iload_n (j := 2) rfl dX7_run_13 ?_
    refine V.sipush (v := nI 2000) (by decide) dX7_run_14 ?_
    refine V.icmp_le (tgt := 22) dX7_run_17 (by decide) (fun c4 => ?_) (fun c4 => ?_)
    · obtain ⟨g, hg, rfl⟩ := mz_le (nv := 2000) (by decide) c3 c4
      refine V.aload_n (j := 0) rfl dX7_run_22 ?_
      refine V.iload_n (j := 1) rfl dX7_run_23 ?_
      refine V.cS (As := [.int (nI 1)]) (st := [.ref 0]) dX7_run_24 sX7_133 zX7_stageOf (cd_stage1 I A) ⟨by decide, by decide⟩ (Nat.le_of_ble_eq_true rfl) rfl (fun r I' A' hq => ?_)
      obtain ⟨rfl, rfl, rfl⟩ := hq
      refine V.st (st' := [.int (nI 3), .ref 0]) rfl ?_
      refine V.cV (As := [.int (nI 3)]) (st := []) dX7_run_27 sX7_108 iX7_workOut lX7_workOut rfl rfl (cd_work I A hst nv ns hK rd 3 hrd hr4 (by omega) hL) ⟨by decide, by decide⟩ (Nat.le_of_ble_eq_true rfl) rfl (fun r I' A' hq => ?_)
      obtain ⟨rfl, hwk⟩ := hq
      refine V.st (st' := []) rfl ?_
      obtain ⟨n, hn240, en, hi2, -⟩ := hwk.2.2.2.2.2.2.1 (by omega)
      have hiw : ∀ i, i < n → cz_iw (A' 26) (A' 27) (A' 28) (A' 29) i := fun i hi => cz_iw_of (hi2 i hi) (by unfold cz_v; rw [Nat.zero_add, cz_c_0]) (by unfold cz_v; rw [Nat.zero_add, cz_c_1]) (by unfold cz_v; rw [Nat.zero_add, cz_c_2]) (by unfold cz_v; rw [Nat.zero_add, cz_c_3])
      refine V.aload_n (j := 0) rfl dX7_run_30 ?_
      refine V.getr (q := 36) dX7_run_31 fX7_63 rfl rfl ?_
      refine V.iload_n (j := 2) rfl dX7_run_34 ?_
      refine V.aload_n (j := 0) rfl dX7_run_35 ?_
      refine V.iload_n (j := 1) rfl dX7_run_36 ?_
      refine V.cV (As := [.int (nI 1)]) (st := [.int (nI g), .ref 36]) dX7_run_37 sX7_136 iX7_listingOf lX7_listingOf rfl rfl (cd_listing1 I' A') ⟨by decide, by decide⟩ (Nat.le_of_ble_eq_true rfl) rfl (fun r I' A' hq => ?_)
      obtain ⟨rfl, rfl, rfl⟩ := hq
      refine V.st (st' := [.ref 25, .int (nI g), .ref 36]) rfl ?_
      refine V.aload_n (j := 0) rfl dX7_run_40 ?_
      refine V.getr (q := 35) dX7_run_41 fX7_56 rfl rfl ?_
      refine V.cV (As := [.int (nI g), .ref 25, .ref 35]) (st := []) dX7_run_44 sX7_144 iX4_endsWithin lX4_endsWithin rfl rfl (cd_ends36_25 I' A' n en (by omega) hiw g hg) ⟨by decide, by decide⟩ (Nat.le_of_ble_eq_true rfl) rfl (fun r I' A' hq => ?_)
      obtain ⟨rfl, rfl, s', rfl⟩ := hq
      by_cases b5 : n ≤ (cz_rn n (cz_c (A' 26) (A' 27) (A' 28) (A' 29)) g A' 37 39 40 38).1
      · refine V.st (st' := [.int (nI 1)]) (by rw [bI_t b5]; rfl) ?_
        refine V.if_eq (tgt := 54) dX7_run_47 (by decide) (fun z => absurd z (by decide)) (fun _ => ?_)
        refine V.iconst (v := nI 0) (by decide) dX7_run_50 ?_
        refine V.goto (tgt := 55) dX7_run_51 (by decide) ?_
        refine V.ri dX7_run_55 rfl ?_
        exact ⟨fun _ => ⟨g, hg, rfl, I', A', hwk, n, (by omega), en, by rw [if_pos b5], rfl, s', rfl⟩, fun z => absurd ⟨c3, c4⟩ z⟩
      · refine V.st (st' := [.int (nI 0)]) (by rw [bI_f b5]; rfl) ?_
        refine V.if_eq (tgt := 54) dX7_run_47 (by decide) (fun _ => ?_) (fun z => absurd z (by decide))
        refine V.iconst (v := nI 1) (by decide) dX7_run_54 ?_
        refine V.ri dX7_run_55 rfl ?_
        exact ⟨fun _ => ⟨g, hg, rfl, I', A', hwk, n, (by omega), en, by rw [if_neg b5], rfl, s', rfl⟩, fun z => absurd ⟨c3, c4⟩ z⟩
    · refine V.iconst (v := (-1)) (by decide) dX7_run_20 ?_
      refine V.ri dX7_run_21 rfl ?_
      exact ⟨fun z => absurd z.2 c4, fun _ => ⟨rfl, rfl, rfl⟩⟩
set_option maxRecDepth 100000 in
set_option maxHeartbeats 4000000 in
theorem ce_run2 {G : am_G} (I A : Nat → Nat → Int32) (hst : am_sta G) (nv ns : Nat) (hK : cz_K nv ns I A) (rd : Nat) (hrd : I 0 11 = nI rd) (hr4 : rd ≤ 4) (hL : cz_L rd nv ns I A) (gr : Int32) : Cm G MX7_run 6 144 [.ref 0, .int (nI 2), .int gr] I A (fun r I' A' => ((¬ gr < 0 ∧ gr ≤ nI 2000) → ∃ g, g ≤ 2000 ∧ gr = nI g ∧ ∃ I1 A1, cz_Wk rd 4 nv ns I A I1 A1 ∧ ∃ n, n ≤ 240 ∧ I1 30 4 = nI n ∧ r = some (.int (nI (if n ≤ (cz_rn n (cz_c (A1 31) (A1 32) (A1 33) (A1 34)) g A1 37 39 40 38).1 then 0 else 1))) ∧ upI (upI I1 36 5 (nI (cz_rn n (cz_c (A1 31) (A1 32) (A1 33) (A1 34)) g A1 37 39 40 38).2.1)) 36 4 (nI (cz_rn n (cz_c (A1 31) (A1 32) (A1 33) (A1 34)) g A1 37 39 40 38).2.2.2.2.2.2) = I' ∧ ∃ s', upA (upA (upA (upA A1 37 (cz_rn n (cz_c (A1 31) (A1 32) (A1 33) (A1 34)) g A1 37 39 40 38).2.2.1) 39 (cz_rn n (cz_c (A1 31) (A1 32) (A1 33) (A1 34)) g A1 37 39 40 38).2.2.2.1) 40 (cz_rn n (cz_c (A1 31) (A1 32) (A1 33) (A1 34)) g A1 37 39 40 38).2.2.2.2.1) 38 s' = A') ∧ (¬ (¬ gr < 0 ∧ gr ≤ nI 2000) → r = some (.int (-1)) ∧ I = I' ∧ A = A')) := by
  refine Cm.of (by decide) (Nat.le_of_ble_eq_true rfl) rfl ?_
  show V G MX7_run (am_R 6 144 0 0) _ 0 0 0 [(0, .ref 0), (1, .int (nI 2)), (2, .int gr)] [] (hp I A)
  obtain ⟨hn, hs, hnv, hns, hsw, hcl, hrg, hmem, h9, h10, h11, h20⟩ := id hK
  refine V.iload_n (j := 1) rfl dX7_run_0 ?_
  refine V.if_lt (tgt := 20) dX7_run_1 (by decide) (fun z => absurd z (by decide)) (fun _ => ?_)
  refine V.iload_n (j := 1) rfl dX7_run_4 ?_
  refine V.iconst (v := nI 2) (by decide) dX7_run_5 ?_
  refine V.icmp_gt (tgt := 20) dX7_run_6 (by decide) (fun z => absurd z (by decide)) (fun _ => ?_)
  refine V.iload_n (j := 2) rfl dX7_run_9 ?_
  refine V.if_lt (tgt := 20) dX7_run_10 (by decide) (fun c3 => ?_) (fun c3 => ?_)
  · refine V.iconst (v := (-1)) (by decide) dX7_run_20 ?_
    refine V.ri dX7_run_21 rfl ?_
    exact ⟨fun z => absurd c3 z.1, fun _ => ⟨rfl, rfl, rfl⟩⟩
  · refine V.iload_n (j := 2) rfl dX7_run_13 ?_
    refine V.sipush (v := nI 2000) (by decide) dX7_run_14 ?_
    refine V.icmp_le (tgt := 22) dX7_run_17 (by decide) (fun c4 => ?_) (fun c4 => ?_)
    · obtain ⟨g, hg, rfl⟩ := mz_le (nv := 2000) (by decide) c3 c4
      refine V.aload_n (j := 0) rfl dX7_run_22 ?_
      refine V.iload_n (j := 1) rfl dX7_run_23 ?_
      refine V.cS (As := [.int (nI 2)]) (st := [.ref 0]) dX7_run_24 sX7_133 zX7_stageOf (cd_stage2 I A) ⟨by decide, by decide⟩ (Nat.le_of_ble_eq_true rfl) rfl (fun r I' A' hq => ?_)
      obtain ⟨rfl, rfl, rfl⟩ := hq
      refine V.st (st' := [.int (nI 4), .ref 0]) rfl ?_
      refine V.cV (As := [.int (nI 4)]) (st := []) dX7_run_27 sX7_108 iX7_workOut lX7_workOut rfl rfl (cd_work I A hst nv ns hK rd 4 hrd hr4 (by omega) hL) ⟨by decide, by decide⟩ (Nat.le_of_ble_eq_true rfl) rfl (fun r I' A' hq => ?_)
      obtain ⟨rfl, hwk⟩ := hq
      refine V.st (st' := []) rfl ?_
      obtain ⟨n, hn240, en, hi2, -⟩ := hwk.2.2.2.2.2.2.2 (by omega)
      have hiw : ∀ i, i < n → cz_iw (A' 31) (A' 32) (A' 33) (A' 34) i := fun i hi => cz_iw_of (hi2 i hi) (by unfold cz_tv cz_u; rw [show 1600 + 4 * i - 1600 = 4 * i by omega, cz_c_0]) (by unfold cz_tv cz_u; rw [show 1600 + 4 * i + 1 - 1600 = 4 * i + 1 by omega, cz_c_1]) (by unfold cz_tv cz_u; rw [show 1600 + 4 * i + 2 - 1600 = 4 * i + 2 by omega, cz_c_2]) (by unfold cz_tv cz_u; rw [show 1600 + 4 * i + 3 - 1600 = 4 * i + 3 by omega, cz_c_3])
      refine V.aload_n (j := 0) rfl dX7_run_30 ?_
      refine V.getr (q := 36) dX7_run_31 fX7_63 rfl rfl ?_
      refine V.iload_n (j := 2) rfl dX7_run_34 ?_
      refine V.aload_n (j := 0) rfl dX7_run_35 ?_
      refine V.iload_n (j := 1) rfl dX7_run_36 ?_
      refine V.cV (As := [.int (nI 2)]) (st := [.int (nI g), .ref 36]) dX7_run_37 sX7_136 iX7_listingOf lX7_listingOf rfl rfl (cd_listing2 I' A') ⟨by decide, by decide⟩ (Nat.le_of_ble_eq_true rfl) rfl (fun r I' A' hq => ?_)
      obtain ⟨rfl, rfl, rfl⟩ := hq
      refine V.st (st' := [.ref 30, .int (nI g), .ref 36]) rfl ?_
      refine V.aload_n (j := 0) rfl dX7_run_40 ?_
      refine V.getr (q := 35) dX7_run_41 fX7_56 rfl rfl ?_
      refine V.cV (As := [.int (nI g), .ref 30, .ref 35]) (st := []) dX7_run_44 sX7_144 iX4_endsWithin lX4_endsWithin rfl rfl (cd_ends36_30 I' A' n en (by omega) hiw g hg) ⟨by decide, by decide⟩ (Nat.le_of_ble_eq_true rfl) rfl (fun r I' A' hq => ?_)
      obtain ⟨rfl, rfl, s', rfl⟩ := hq
      by_cases b5 : n ≤ (cz_rn n (cz_c (A' 31) (A' 32) (A' 33) (A' 34)) g A' 37 39 40 38).1
      · refine V.st (st' := [.int (nI 1)]) (by rw [bI_t b5]; rfl) ?_
        refine V.if_eq (tgt := 54) dX7_run_47 (by decide) (fun z => absurd z (by decide)) (fun _ => ?_)
        refine V.iconst (v := nI 0) (by decide) dX7_run_50 ?_
        refine V.goto (tgt := 55) dX7_run_51 (by decide) ?_
        refine V.ri dX7_run_55 rfl ?_
        exact ⟨fun _ => ⟨g, hg, rfl, I', A', hwk, n, (by omega), en, by rw [if_pos b5], rfl, s', rfl⟩, fun z => absurd ⟨c3, c4⟩ z⟩
      · refine V.st (st' := [.int (nI 0)]) (by rw [bI_f b5]; rfl) ?_
        refine V.if_eq (tgt := 54) dX7_run_47 (by decide) (fun _ => ?_) (fun z => absurd z (by decide))
        refine V.iconst (v := nI 1) (by decide) dX7_run_54 ?_
        refine V.ri dX7_run_55 rfl ?_
        exact ⟨fun _ => ⟨g, hg, rfl, I', A', hwk, n, (by omega), en, by rw [if_neg b5], rfl, s', rfl⟩, fun z => absurd ⟨c3, c4⟩ z⟩
    · refine V.iconst (v := (-1)) (by decide) dX7_run_20 ?_
      refine V.ri dX7_run_21 rfl ?_
      exact ⟨fun z => absurd z.2 c4, fun _ => ⟨rfl, rfl, rfl⟩⟩
set_option maxRecDepth 100000 in
theorem ce_runO {G : am_G} (I A : Nat → Nat → Int32) (w gr : Int32) (h : w < 0 ∨ nI 2 < w) : Cm G MX7_run 6 144 [.ref 0, .int w, .int gr] I A (fun r I' A' => r = some (.int (-1)) ∧ I = I' ∧ A = A') := by
  refine Cm.of (by decide) (Nat.le_of_ble_eq_true rfl) rfl ?_
  show V G MX7_run (am_R 6 144 0 0) _ 0 0 0 [(0, .ref 0), (1, .int w), (2, .int gr)] [] (hp I A)
  have K : V G MX7_run (am_R 6 144 0 0) (am_Fin G 0 0 (Pm (fun r I' A' => r = some (.int (-1)) ∧ I = I' ∧ A = A'))) 0 0 20 [(0, .ref 0), (1, .int w), (2, .int gr)] [] (hp I A) := by
    refine V.iconst (v := (-1)) (by decide) dX7_run_20 ?_
    refine V.ri dX7_run_21 rfl ?_
    exact ⟨rfl, rfl, rfl⟩
  refine V.iload_n (j := 1) rfl dX7_run_0 ?_
  refine V.if_lt (tgt := 20) dX7_run_1 (by decide) (fun _ => K) (fun c1 => ?_)
  refine V.iload_n (j := 1) rfl dX7_run_4 ?_
  refine V.iconst (v := nI 2) (by decide) dX7_run_5 ?_
  refine V.icmp_gt (tgt := 20) dX7_run_6 (by decide) (fun _ => K) (fun c2 => ?_)
  exact absurd h (fun z => z.elim c1 c2)
