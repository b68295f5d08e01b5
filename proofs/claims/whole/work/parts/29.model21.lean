theorem mz_tids_le : ∀ (n : Nat) (c c' : Nat → Int32) (n' : Nat), mz_tids n c c' n' → n' ≤ n
  | 0, _, _, _, h => by obtain ⟨-, rfl⟩ := h; exact Nat.le_refl _
  | n + 1, c, c', n', h => by
    rcases h with ⟨-, -, rfl⟩ | ⟨i, -, -, -, h⟩
    · exact Nat.le_refl _
    · have := mz_tids_le n _ c' n' h
      omega
theorem mz_made_items {nv ns : Nat} {I A I' A' : Nat → Nat → Int32} (hns : ns ≤ 60) (h : mz_made nv ns I A I' A') : ∃ n0 n1, n0 ≤ 240 ∧ n1 ≤ 240 ∧ A' m_items 0 = nI n0 ∧ A' m_items 1 = nI n1 := by
  obtain ⟨A1, z, fe, it, c, n, f, c', n', -, -, h1, h2, -, rfl⟩ := h
  have h3 := mz_tids_le _ _ _ _ h2
  exact ⟨n, n', by omega, by omega, rfl, rfl⟩
theorem mz_made_I {nv ns : Nat} {I A I' A' : Nat → Nat → Int32} (h : mz_made nv ns I A I' A') : I' mM 0 = I mM 0 ∧ I' mM 2 = I mM 2 ∧ I' mM 18 = I mM 18 ∧ I' mM 19 = I mM 19 := by
  obtain ⟨A1, z, fe, it, c, n, f, c', n', -, -, -, -, rfl, -⟩ := h
  exact ⟨rfl, rfl, rfl, rfl⟩
set_option maxRecDepth 100000 in
set_option maxHeartbeats 4000000 in
theorem md_item1 {G : am_G} (I A : Nat → Nat → Int32) (nv ns : Nat) (hW : mz_wf nv ns I A) (hsw : ∀ s, s < ns → mz_sw nv (A m_ops s) (A m_first s) (A m_second s) (A m_third s)) (i p : Int32) : Cm G MX8_item 5 117 [.ref mM, .int (nI 1), .int i, .int p] I A (fun r I' A' => ((¬ p < 0 ∧ p ≤ nI 3) → mz_made nv ns I A I' A' ∧ r = some (.int (if ¬ i < 0 ∧ i < A' m_items 0 then A' m_code (0 + 4 * i.toNatClampNeg + p.toNatClampNeg) else (-1)))) ∧ (¬ (¬ p < 0 ∧ p ≤ nI 3) → r = some (.int (-1)) ∧ I = I' ∧ A = A')) := by
  refine Cm.of (by decide) (Nat.le_of_ble_eq_true rfl) rfl ?_
  show V G MX8_item (am_R 5 117 0 0) _ 0 0 0 [(0, .ref mM), (1, .int (nI 1)), (2, .int i), (3, .int p)] [] (hp I A)
  obtain ⟨hn, hnv, hs, hns, h8, h7, hA, h0, h1, hcl, hrg, hT⟩ := id hW
  refine V.iload_n (j := 1) rfl dX8_item_0 ?_
  refine V.iconst (v := nI 1) (by decide) dX8_item_1 ?_
  refine V.icmp_lt (tgt := 19) dX8_item_2 (by decide) (fun z => absurd z (by decide)) (fun _ => ?_)
  refine V.iload_n (j := 1) rfl dX8_item_5 ?_
  refine V.iconst (v := nI 2) (by decide) dX8_item_6 ?_
  refine V.icmp_gt (tgt := 19) dX8_item_7 (by decide) (fun z => absurd z (by decide)) (fun _ => ?_)
  refine V.iload_n (j := 3) rfl dX8_item_10 ?_
  refine V.if_lt (tgt := 19) dX8_item_11 (by decide) (fun c3 => ?_) (fun c3 => ?_)
  · refine V.iconst (v := (-1)) (by decide) dX8_item_19 ?_
    refine V.ri dX8_item_20 rfl ?_
    exact ⟨fun z => by obtain ⟨z1, z2⟩ := z; contradiction, fun _ => ⟨rfl, rfl, rfl⟩⟩
  · refine V.iload_n (j := 3) rfl dX8_item_14 ?_
    refine V.iconst (v := nI 3) (by decide) dX8_item_15 ?_
    refine V.icmp_le (tgt := 21) dX8_item_16 (by decide) (fun c4 => ?_) (fun c4 => ?_)
    · obtain ⟨q, hq3, rfl⟩ := mz_le (nv := 3) (by decide) c3 c4
      refine V.aload_n (j := 0) rfl dX8_item_21 ?_
      refine V.cV (As := []) (st := []) dX8_item_22 sX8_166 iX8_makeCode lX8_makeCode rfl rfl (md_makeCode I A nv ns hW hsw) ⟨by decide, by decide⟩ (Nat.le_of_ble_eq_true rfl) rfl (fun r I' A' hq => ?_)
      obtain ⟨rfl, hmd⟩ := hq
      refine V.st (st' := []) rfl ?_
      obtain ⟨nn0, nn1, hn0, hn1, en0, en1⟩ := mz_made_items hns hmd
      obtain ⟨nn, hnn, en⟩ : ∃ nn, nn ≤ 240 ∧ A' m_items 0 = nI nn := ⟨nn0, hn0, en0⟩
      refine V.iload_n (j := 2) rfl dX8_item_25 ?_
      refine V.if_lt (tgt := 41) dX8_item_26 (by decide) (fun c5 => ?_) (fun c5 => ?_)
      · refine V.iconst (v := (-1)) (by decide) dX8_item_41 ?_
        refine V.goto (tgt := 63) dX8_item_42 (by decide) ?_
        refine V.ri dX8_item_63 rfl ?_
        exact ⟨fun _ => ⟨hmd, by rw [if_neg (fun z => z.1 c5)]⟩, fun z => absurd ⟨c3, c4⟩ z⟩
      · refine V.iload_n (j := 2) rfl dX8_item_29 ?_
        refine V.aload_n (j := 0) rfl dX8_item_30 ?_
        refine V.getr (q := m_items) dX8_item_31 fX8_52 rfl rfl ?_
        refine V.iload_n (j := 1) rfl dX8_item_34 ?_
        refine V.iconst (v := nI 1) (by decide) dX8_item_35 ?_
        refine V.isubN dX8_item_36 (by omega) ?_
        refine V.st (st' := [.int (nI 0), .ref m_items, .int i]) rfl ?_
        refine V.lda (v := nI nn) dX8_item_37 rfl (by decide) (by decide) en ?_
        refine V.icmp_lt (tgt := 45) dX8_item_38 (by decide) (fun c6 => ?_) (fun c6 => ?_)
        · obtain ⟨j, hj, rfl⟩ := mz_lt (nv := nn) (by omega) c5 c6
          refine V.aload_n (j := 0) rfl dX8_item_45 ?_
          refine V.getr (q := m_code) dX8_item_46 fX8_49 rfl rfl ?_
          refine V.sipush (v := nI 1600) (by decide) dX8_item_49 ?_
          refine V.iload_n (j := 1) rfl dX8_item_52 ?_
          refine V.iconst (v := nI 1) (by decide) dX8_item_53 ?_
          refine V.isubN dX8_item_54 (by omega) ?_
          refine V.st (st' := [.int (nI 0), .int (nI 1600), .ref m_code]) rfl ?_
          refine V.imulN dX8_item_55 ?_
          refine V.st (st' := [.int (nI 0), .ref m_code]) rfl ?_
          refine V.iconst (v := nI 4) (by decide) dX8_item_56 ?_
          refine V.iload_n (j := 2) rfl dX8_item_57 ?_
          refine V.imulN dX8_item_58 ?_
          refine V.iaddN dX8_item_59 ?_
          refine V.iload_n (j := 3) rfl dX8_item_60 ?_
          refine V.iaddN dX8_item_61 ?_
          refine V.lda (v := A' m_code ((0 + (4 * j)) + q)) dX8_item_62 rfl (by omega) (by decide) rfl ?_
          refine V.ri dX8_item_63 rfl ?_
          exact ⟨fun _ => ⟨hmd, by rw [if_pos ⟨c5, by rw [en]; exact c6⟩, nI_clamp (by omega), nI_clamp (by omega)]⟩, fun z => absurd ⟨c3, c4⟩ z⟩
        · refine V.iconst (v := (-1)) (by decide) dX8_item_41 ?_
          refine V.goto (tgt := 63) dX8_item_42 (by decide) ?_
          refine V.ri dX8_item_63 rfl ?_
          exact ⟨fun _ => ⟨hmd, by rw [if_neg (fun z => c6 (by have z2 := z.2; rw [en] at z2; exact z2))]⟩, fun z => absurd ⟨c3, c4⟩ z⟩
    · refine V.iconst (v := (-1)) (by decide) dX8_item_19 ?_
      refine V.ri dX8_item_20 rfl ?_
      exact ⟨fun z => by obtain ⟨z1, z2⟩ := z; contradiction, fun _ => ⟨rfl, rfl, rfl⟩⟩
set_option maxRecDepth 100000 in
set_option maxHeartbeats 4000000 in
theorem md_item2 {G : am_G} (I A : Nat → Nat → Int32) (nv ns : Nat) (hW : mz_wf nv ns I A) (hsw : ∀ s, s < ns → mz_sw nv (A m_ops s) (A m_first s) (A m_second s) (A m_third s)) (i p : Int32) : Cm G MX8_item 5 117 [.ref mM, .int (nI 2), .int i, .int p] I A (fun r I' A' => ((¬ p < 0 ∧ p ≤ nI 3) → mz_made nv ns I A I' A' ∧ r = some (.int (if ¬ i < 0 ∧ i < A' m_items 1 then A' m_code (1600 + 4 * i.toNatClampNeg + p.toNatClampNeg) else (-1)))) ∧ (¬ (¬ p < 0 ∧ p ≤ nI 3) → r = some (.int (-1)) ∧ I = I' ∧ A = A')) := by
  refine Cm.of (by decide) (Nat.le_of_ble_eq_true rfl) rfl ?_
  show V G MX8_item (am_R 5 117 0 0) _ 0 0 0 [(0, .ref mM), (1, .int (nI 2)), (2, .int i), (3, .int p)] [] (hp I A)
  obtain ⟨hn, hnv, hs, hns, h8, h7, hA, h0, h1, hcl, hrg, hT⟩ := id hW
  refine V.iload_n (j := 1) rfl dX8_item_0 ?_
  refine V.iconst (v := nI 1) (by decide) dX8_item_1 ?_
  refine V.icmp_lt (tgt := 19) dX8_item_2 (by decide) (fun z => absurd z (by decide)) (fun _ => ?_)
  refine V.iload_n (j := 1) rfl dX8_item_5 ?_
  refine V.iconst (v := nI 2) (by decide) dX8_item_6 ?_
  refine V.icmp_gt (tgt := 19) dX8_item_7 (by decide) (fun z => absurd z (by decide)) (fun _ => ?_)
  refine V.iload_n (j := 3) rfl dX8_item_10 ?_
  refine V.if_lt (tgt := 19) dX8_item_11 (by decide) (fun c3 => ?_) (fun c3 => ?_)
  · refine V.iconst (v := (-1)) (by decide) dX8_item_19 ?_
    refine V.ri dX8_item_20 rfl ?_
    exact ⟨fun z => by obtain ⟨z1, z2⟩ := z; contradiction, fun _ => ⟨rfl, rfl, rfl⟩⟩
  · refine V.iload_n (j := 3) rfl dX8_item_14 ?_
    refine V.iconst (v := nI 3) (by decide) dX8_item_15 ?_
    refine V.icmp_le (tgt := 21) dX8_item_16 (by decide) (fun c4 => ?_) (fun c4 => ?_)
    · obtain ⟨q, hq3, rfl⟩ := mz_le (nv := 3) (by decide) c3 c4
      refine V.aload_n (j := 0) rfl dX8_item_21 ?_
      refine V.cV (As := []) (st := []) dX8_item_22 sX8_166 iX8_makeCode lX8_makeCode rfl rfl (md_makeCode I A nv ns hW hsw) ⟨by decide, by decide⟩ (Nat.le_of_ble_eq_true rfl) rfl (fun r I' A' hq => ?_)
      obtain ⟨rfl, hmd⟩ := hq
      refine V.st (st' := []) rfl ?_
      obtain ⟨nn0, nn1, hn0, hn1, en0, en1⟩ := mz_made_items hns hmd
      obtain ⟨nn, hnn, en⟩ : ∃ nn, nn ≤ 240 ∧ A' m_items 1 = nI nn := ⟨nn1, hn1, en1⟩
      refine V.iload_n (j := 2) rfl dX8_item_25 ?_
      refine V.if_lt (tgt := 41) dX8_item_26 (by decide) (fun c5 => ?_) (fun c5 => ?_)
      · refine V.iconst (v := (-1)) (by decide) dX8_item_41 ?_
        refine V.goto (tgt := 63) dX8_item_42 (by decide) ?_
        refine V.ri dX8_item_63 rfl ?_
        exact ⟨fun _ => ⟨hmd, by rw [if_neg (fun z => z.1 c5)]⟩, fun z => absurd ⟨c3, c4⟩ z⟩
      · refine V.iload_n (j := 2) rfl dX8_item_29 ?_
        refine V.aload_n (j := 0) rfl dX8_item_30 ?_
        refine V.getr (q := m_items) dX8_item_31 fX8_52 rfl rfl ?_
        refine V.iload_n (j := 1) rfl dX8_item_34 ?_
        refine V.iconst (v := nI 1) (by decide) dX8_item_35 ?_
        refine V.isubN dX8_item_36 (by omega) ?_
        refine V.st (st' := [.int (nI 1), .ref m_items, .int i]) rfl ?_
        refine V.lda (v := nI nn) dX8_item_37 rfl (by decide) (by decide) en ?_
        refine V.icmp_lt (tgt := 45) dX8_item_38 (by decide) (fun c6 => ?_) (fun c6 => ?_)
        · obtain ⟨j, hj, rfl⟩ := mz_lt (nv := nn) (by omega) c5 c6
          refine V.aload_n (j := 0) rfl dX8_item_45 ?_
          refine V.getr (q := m_code) dX8_item_46 fX8_49 rfl rfl ?_
          refine V.sipush (v := nI 1600) (by decide) dX8_item_49 ?_
          refine V.iload_n (j := 1) rfl dX8_item_52 ?_
          refine V.iconst (v := nI 1) (by decide) dX8_item_53 ?_
          refine V.isubN dX8_item_54 (by omega) ?_
          refine V.st (st' := [.int (nI 1), .int (nI 1600), .ref m_code]) rfl ?_
          refine V.imulN dX8_item_55 ?_
          refine V.st (st' := [.int (nI 1600), .ref m_code]) rfl ?_
          refine V.iconst (v := nI 4) (by decide) dX8_item_56 ?_
          refine V.iload_n (j := 2) rfl dX8_item_57 ?_
          refine V.imulN dX8_item_58 ?_
          refine V.iaddN dX8_item_59 ?_
          refine V.iload_n (j := 3) rfl dX8_item_60 ?_
          refine V.iaddN dX8_item_61 ?_
          refine V.lda (v := A' m_code ((1600 + (4 * j)) + q)) dX8_item_62 rfl (by omega) (by decide) rfl ?_
          refine V.ri dX8_item_63 rfl ?_
          exact ⟨fun _ => ⟨hmd, by rw [if_pos ⟨c5, by rw [en]; exact c6⟩, nI_clamp (by omega), nI_clamp (by omega)]⟩, fun z => absurd ⟨c3, c4⟩ z⟩
        · refine V.iconst (v := (-1)) (by decide) dX8_item_41 ?_
          refine V.goto (tgt := 63) dX8_item_42 (by decide) ?_
          refine V.ri dX8_item_63 rfl ?_
          exact ⟨fun _ => ⟨hmd, by rw [if_neg (fun z => c6 (by have z2 := z.2; rw [en] at z2; exact z2))]⟩, fun z => absurd ⟨c3, c4⟩ z⟩
    · refine V.iconst (v := (-1)) (by decide) dX8_item_19 ?_
      refine V.ri dX8_item_20 rfl ?_
      exact ⟨fun z => by obtain ⟨z1, z2⟩ := z; contradiction, fun _ => ⟨rfl, rfl, rfl⟩⟩
set_option maxRecDepth 100000 in
theorem md_itemO {G : am_G} (I A : Nat → Nat → Int32) (w i p : Int32) (h : w < nI 1 ∨ nI 2 < w) : Cm G MX8_item 5 117 [.ref mM, .int w, .int i, .int p] I A (fun r I' A' => r = some (.int (-1)) ∧ I = I' ∧ A = A') := by
  refine Cm.of (by decide) (Nat.le_of_ble_eq_true rfl) rfl ?_
  show V G MX8_item (am_R 5 117 0 0) _ 0 0 0 [(0, .ref mM), (1, .int w), (2, .int i), (3, .int p)] [] (hp I A)
  have K : V G MX8_item (am_R 5 117 0 0) (am_Fin G 0 0 (Pm (fun r I' A' => r = some (.int (-1)) ∧ I = I' ∧ A = A'))) 0 0 19 [(0, .ref mM), (1, .int w), (2, .int i), (3, .int p)] [] (hp I A) := by
    refine V.iconst (v := (-1)) (by decide) dX8_item_19 ?_
    refine V.ri dX8_item_20 rfl ?_
    exact ⟨rfl, rfl, rfl⟩
  refine V.iload_n (j := 1) rfl dX8_item_0 ?_
  refine V.iconst (v := nI 1) (by decide) dX8_item_1 ?_
  refine V.icmp_lt (tgt := 19) dX8_item_2 (by decide) (fun _ => K) (fun c1 => ?_)
  refine V.iload_n (j := 1) rfl dX8_item_5 ?_
  refine V.iconst (v := nI 2) (by decide) dX8_item_6 ?_
  refine V.icmp_gt (tgt := 19) dX8_item_7 (by decide) (fun _ => K) (fun c2 => ?_)
  exact absurd h (fun z => z.elim c1 c2)
