noncomputable def mz_c1 (c : Prop) : Nat := @ite _ c (Classical.propDecidable c) 1 0
theorem mz_c1_t {c : Prop} (h : c) : 1 = mz_c1 c := (if_pos h).symm
theorem mz_c1_f {c : Prop} (h : ¬ c) : 0 = mz_c1 c := (if_neg h).symm
theorem mz_c1_le {c : Prop} : mz_c1 c ≤ 1 := by
  by_cases h : c
  · rw [← mz_c1_t h]; exact Nat.le_refl _
  · rw [← mz_c1_f h]; exact Nat.zero_le _
/-- a slot is home to a value of cc -/
def mz_sl (nv : Nat) (cl hm : Nat → Int32) (cc k : Nat) : Prop := ∃ t, t < nv ∧ (cl t = nI cc ∧ hm t = nI k)
noncomputable def mz_cnt (nv : Nat) (cl hm : Nat → Int32) (cc : Nat) : Nat → Nat → Nat → Nat
  | 0, _, n => n
  | m + 1, k, n => mz_cnt nv cl hm cc m (k + 1) (n + mz_c1 (mz_sl nv cl hm cc k))
set_option maxRecDepth 100000 in
set_option maxHeartbeats 4000000 in
theorem ml_slotsOf1 {G : am_G} {Fn : Array Value → State → List Frame → State → Prop} (I A : Nat → Nat → Int32) (nv : Nat) (hn : I mM 0 = nI nv) (hnv : nv ≤ 24) (cc k n : Nat) : ∀ (m : Nat) (i : Nat), i + m = nv → V G MX8_slotsOf (am_R 4 95 0 0) Fn 0 0 70 [(0, .ref mM), (1, .int (nI cc)), (2, .int (nI n)), (3, .int (nI k)), (4, .int (bI (∃ t, t < nv ∧ ((A m_classes) t = nI cc ∧ (A m_homes) t = nI k))))] [] (hp I A) → V G MX8_slotsOf (am_R 4 95 0 0) Fn 0 0 21 [(0, .ref mM), (1, .int (nI cc)), (2, .int (nI n)), (3, .int (nI k)), (4, .int (bI (∃ t, t < i ∧ ((A m_classes) t = nI cc ∧ (A m_homes) t = nI k)))), (5, .int (nI i))] [] (hp I A) := by
  intro m
  induction m with
  | zero =>
    intro i hi0 hk
    obtain rfl : nv = i := by omega
    refine V.iload (j := 5) rfl dX8_slotsOf_21 ?_
    refine V.aload_n (j := 0) rfl dX8_slotsOf_23 ?_
    refine V.geti (v := nI nv) dX8_slotsOf_24 fX8_79 rfl rfl hn ?_
    refine V.icmp_geN (tgt := 70) dX8_slotsOf_27 (by decide) (by omega) (by omega) (fun c1 => ?_) (fun c1 => ?_)
    · refine V.fewer [0, 1, 2, 3, 4] rfl ?_
      exact hk
    · exact absurd c1 (by omega)
  | succ m ih =>
    intro i hi0 hk
    refine V.iload (j := 5) rfl dX8_slotsOf_21 ?_
    refine V.aload_n (j := 0) rfl dX8_slotsOf_23 ?_
    refine V.geti (v := nI nv) dX8_slotsOf_24 fX8_79 rfl rfl hn ?_
    refine V.icmp_geN (tgt := 70) dX8_slotsOf_27 (by decide) (by omega) (by omega) (fun c2 => ?_) (fun c2 => ?_)
    · exact absurd c2 (by omega)
    · refine V.iload (j := 4) rfl dX8_slotsOf_30 ?_
      have K3 : V G MX8_slotsOf (am_R 4 95 0 0) Fn 0 0 62 [(0, .ref mM), (1, .int (nI cc)), (2, .int (nI n)), (3, .int (nI k)), (4, .int (bI (∃ t, t < i ∧ ((A m_classes) t = nI cc ∧ (A m_homes) t = nI k)))), (5, .int (nI i))] [.int (bI (∃ t, t < i + 1 ∧ ((A m_classes) t = nI cc ∧ (A m_homes) t = nI k)))] (hp I A) := by
        refine V.istore (ls' := [(0, .ref mM), (1, .int (nI cc)), (2, .int (nI n)), (3, .int (nI k)), (4, .int (bI (∃ t, t < i + 1 ∧ ((A m_classes) t = nI cc ∧ (A m_homes) t = nI k)))), (5, .int (nI i))]) dX8_slotsOf_62 (by decide) rfl ?_
        refine V.iincN (ls' := [(0, .ref mM), (1, .int (nI cc)), (2, .int (nI n)), (3, .int (nI k)), (4, .int (bI (∃ t, t < i + 1 ∧ ((A m_classes) t = nI cc ∧ (A m_homes) t = nI k)))), (5, .int (nI (i + 1)))]) dX8_slotsOf_64 (j := 5) rfl (by decide) rfl ?_
        refine V.goto (tgt := 21) dX8_slotsOf_67 (by decide) ?_
        exact ih (i + 1) (by omega) hk
      refine V.if_ne (tgt := 57) dX8_slotsOf_32 (by decide) (fun c4 => ?_) (fun c4 => ?_)
      · refine V.iconst (v := nI 1) (by decide) dX8_slotsOf_57 ?_
        refine V.goto (tgt := 62) dX8_slotsOf_58 (by decide) ?_
        exact V.st (congrArg (fun x => [Value.int x]) (bI_1 (by obtain ⟨t, h1, h2⟩ := bI_nz c4; exact ⟨t, by omega, h2⟩))) K3
      · refine V.aload_n (j := 0) rfl dX8_slotsOf_35 ?_
        refine V.getr (q := m_classes) dX8_slotsOf_36 fX8_7 rfl rfl ?_
        refine V.iload (j := 5) rfl dX8_slotsOf_39 ?_
        refine V.lda (v := A m_classes i) dX8_slotsOf_41 rfl (by omega) (by decide) rfl ?_
        refine V.iload_n (j := 1) rfl dX8_slotsOf_42 ?_
        refine V.icmp_ne (tgt := 61) dX8_slotsOf_43 (by decide) (fun c5 => ?_) (fun c5 => ?_)
        · refine V.iconst (v := nI 0) (by decide) dX8_slotsOf_61 ?_
          exact V.st (congrArg (fun x => [Value.int x]) (bI_0 (ex_no (bI_z c4) (fun y => c5 y.1)))) K3
        · refine V.aload_n (j := 0) rfl dX8_slotsOf_46 ?_
          refine V.getr (q := m_homes) dX8_slotsOf_47 fX8_46 rfl rfl ?_
          refine V.iload (j := 5) rfl dX8_slotsOf_50 ?_
          refine V.lda (v := A m_homes i) dX8_slotsOf_52 rfl (by omega) (by decide) rfl ?_
          refine V.iload_n (j := 3) rfl dX8_slotsOf_53 ?_
          refine V.icmp_ne (tgt := 61) dX8_slotsOf_54 (by decide) (fun c6 => ?_) (fun c6 => ?_)
          · refine V.iconst (v := nI 0) (by decide) dX8_slotsOf_61 ?_
            exact V.st (congrArg (fun x => [Value.int x]) (bI_0 (ex_no (bI_z c4) (fun y => c6 y.2)))) K3
          · refine V.iconst (v := nI 1) (by decide) dX8_slotsOf_57 ?_
            refine V.goto (tgt := 62) dX8_slotsOf_58 (by decide) ?_
            exact V.st (congrArg (fun x => [Value.int x]) (bI_1 ⟨i, by omega, c5, c6⟩)) K3
set_option maxRecDepth 100000 in
set_option maxHeartbeats 4000000 in
theorem ml_slotsOf2 {G : am_G} {Fn : Array Value → State → List Frame → State → Prop} (I A : Nat → Nat → Int32) (nv : Nat) (hn : I mM 0 = nI nv) (hnv : nv ≤ 24) (cc : Nat) : ∀ (m : Nat) (k : Nat) (n : Nat), k + m = 124 → V G MX8_slotsOf (am_R 4 95 0 0) Fn 0 0 89 [(0, .ref mM), (1, .int (nI cc)), (2, .int (nI (mz_cnt nv (A m_classes) (A m_homes) cc m k n)))] [] (hp I A) → V G MX8_slotsOf (am_R 4 95 0 0) Fn 0 0 9 [(0, .ref mM), (1, .int (nI cc)), (2, .int (nI n)), (3, .int (nI k))] [] (hp I A) := by
  intro m
  induction m with
  | zero =>
    intro k n hi0 hk
    refine V.iload_n (j := 3) rfl dX8_slotsOf_9 ?_
    refine V.bipush (v := nI 124) (by decide) dX8_slotsOf_10 ?_
    refine V.icmp_geN (tgt := 89) dX8_slotsOf_12 (by decide) (by omega) (by omega) (fun c1 => ?_) (fun c1 => ?_)
    · refine V.fewer [0, 1, 2] rfl ?_
      exact hk
    · exact absurd c1 (by omega)
  | succ m ih =>
    intro k n hi0 hk
    refine V.iload_n (j := 3) rfl dX8_slotsOf_9 ?_
    refine V.bipush (v := nI 124) (by decide) dX8_slotsOf_10 ?_
    refine V.icmp_geN (tgt := 89) dX8_slotsOf_12 (by decide) (by omega) (by omega) (fun c2 => ?_) (fun c2 => ?_)
    · exact absurd c2 (by omega)
    · refine V.iconst (v := nI 0) (by decide) dX8_slotsOf_15 ?_
      refine V.istore (ls' := [(0, .ref mM), (1, .int (nI cc)), (2, .int (nI n)), (3, .int (nI k)), (4, .int (nI 0))]) dX8_slotsOf_16 (by decide) rfl ?_
      refine V.iconst (v := nI 0) (by decide) dX8_slotsOf_18 ?_
      refine V.istore (ls' := [(0, .ref mM), (1, .int (nI cc)), (2, .int (nI n)), (3, .int (nI k)), (4, .int (nI 0)), (5, .int (nI 0))]) dX8_slotsOf_19 (by decide) rfl ?_
      refine V.lse (ls' := [(0, .ref mM), (1, .int (nI cc)), (2, .int (nI n)), (3, .int (nI k)), (4, .int (bI (∃ t, t < 0 ∧ ((A m_classes) t = nI cc ∧ (A m_homes) t = nI k)))), (5, .int (nI 0))]) (by rw [← bI_0 (c := ∃ t, t < 0 ∧ _) (fun z => by obtain ⟨t, h1, h2⟩ := z; omega)]) ?_
      refine ml_slotsOf1 I A nv hn hnv cc k n nv 0 (by omega) ?_
      refine V.lse (ls' := [(0, .ref mM), (1, .int (nI cc)), (2, .int (nI n)), (3, .int (nI k)), (4, .int (bI (mz_sl nv (A m_classes) (A m_homes) cc k)))]) rfl ?_
      refine V.iload_n (j := 2) rfl dX8_slotsOf_70 ?_
      refine V.iload (j := 4) rfl dX8_slotsOf_71 ?_
      have K3 : V G MX8_slotsOf (am_R 4 95 0 0) Fn 0 0 81 [(0, .ref mM), (1, .int (nI cc)), (2, .int (nI n)), (3, .int (nI k)), (4, .int (bI (mz_sl nv (A m_classes) (A m_homes) cc k)))] [.int (nI (mz_c1 (mz_sl nv (A m_classes) (A m_homes) cc k))), .int (nI n)] (hp I A) := by
        refine V.iaddN dX8_slotsOf_81 ?_
        refine V.istore_n (ls' := [(0, .ref mM), (1, .int (nI cc)), (2, .int (nI (n + (mz_c1 (mz_sl nv (A m_classes) (A m_homes) cc k))))), (3, .int (nI k)), (4, .int (bI (mz_sl nv (A m_classes) (A m_homes) cc k)))]) dX8_slotsOf_82 (by decide) rfl ?_
        refine V.iincN (ls' := [(0, .ref mM), (1, .int (nI cc)), (2, .int (nI (n + (mz_c1 (mz_sl nv (A m_classes) (A m_homes) cc k))))), (3, .int (nI (k + 1))), (4, .int (bI (mz_sl nv (A m_classes) (A m_homes) cc k)))]) dX8_slotsOf_83 (j := 3) rfl (by decide) rfl ?_
        refine V.goto (tgt := 9) dX8_slotsOf_86 (by decide) ?_
        refine V.fewer [0, 1, 2, 3] rfl ?_
        exact ih (k + 1) _ (by omega) hk
      refine V.if_eq (tgt := 80) dX8_slotsOf_73 (by decide) (fun c4 => ?_) (fun c4 => ?_)
      · refine V.iconst (v := nI 0) (by decide) dX8_slotsOf_80 ?_
        exact V.st (congrArg (fun x => [Value.int (nI x), Value.int (nI n)]) (mz_c1_f (bI_z c4))) K3
      · refine V.iconst (v := nI 1) (by decide) dX8_slotsOf_76 ?_
        refine V.goto (tgt := 81) dX8_slotsOf_77 (by decide) ?_
        exact V.st (congrArg (fun x => [Value.int (nI x), Value.int (nI n)]) (mz_c1_t (bI_nz c4))) K3
set_option maxRecDepth 100000 in
set_option maxHeartbeats 4000000 in
theorem md_slotsOf {G : am_G} (I A : Nat → Nat → Int32) (nv ns : Nat) (hW : mz_wf nv ns I A) (cc : Nat) : Cm G MX8_slotsOf 4 95 [.ref mM, .int (nI cc)] I A (fun r I' A' => r = some (.int (nI (mz_cnt nv (A' m_classes) (A' m_homes) cc 24 100 0))) ∧ I = I' ∧ mz_stl nv ns A A') := by
  refine Cm.of (by decide) (Nat.le_of_ble_eq_true rfl) rfl ?_
  show V G MX8_slotsOf (am_R 4 95 0 0) _ 0 0 0 [(0, .ref mM), (1, .int (nI cc))] [] (hp I A)
  obtain ⟨hn, hnv, hs, hns, h8, h7, hA, h0, h1, hcl, hrg, hT⟩ := id hW
  refine V.aload_n (j := 0) rfl dX8_slotsOf_0 ?_
  refine V.cV (As := []) (st := []) dX8_slotsOf_1 sX8_147 iX8_settle lX8_settle rfl rfl (md_settle I A nv ns hW) ⟨by decide, by decide⟩ (Nat.le_of_ble_eq_true rfl) rfl (fun r I' A' hq => ?_)
  obtain ⟨rfl, rfl, hst⟩ := hq
  refine V.st (st' := []) rfl ?_
  refine V.iconst (v := nI 0) (by decide) dX8_slotsOf_4 ?_
  refine V.istore_n (ls' := [(0, .ref mM), (1, .int (nI cc)), (2, .int (nI 0))]) dX8_slotsOf_5 (by decide) rfl ?_
  refine V.bipush (v := nI 100) (by decide) dX8_slotsOf_6 ?_
  refine V.istore_n (ls' := [(0, .ref mM), (1, .int (nI cc)), (2, .int (nI 0)), (3, .int (nI 100))]) dX8_slotsOf_8 (by decide) rfl ?_
  refine ml_slotsOf2 I A' nv hn hnv cc 24 100 0 (by omega) ?_
  refine V.iload_n (j := 2) rfl dX8_slotsOf_89 ?_
  refine V.ri dX8_slotsOf_90 rfl ?_
  exact ⟨rfl, rfl, hst⟩
set_option maxRecDepth 100000 in
set_option maxHeartbeats 4000000 in
theorem md_count0 {G : am_G} (I A : Nat → Nat → Int32) (nv ns : Nat) (hW : mz_wf nv ns I A) (hsw : ∀ s, s < ns → mz_sw nv (A m_ops s) (A m_first s) (A m_second s) (A m_third s)) : Cm G MX8_count 5 120 [.ref mM, .int (nI 0)] I A (fun r I' A' => r = some (.int (nI nv)) ∧ I = I' ∧ A = A') := by
  refine Cm.of (by decide) (Nat.le_of_ble_eq_true rfl) rfl ?_
  show V G MX8_count (am_R 5 120 0 0) _ 0 0 0 [(0, .ref mM), (1, .int (nI 0))] [] (hp I A)
  obtain ⟨hn, hnv, hs, hns, h8, h7, hA, h0, h1, hcl, hrg, hT⟩ := id hW
  refine V.iload_n (j := 1) rfl dX8_count_0 ?_
  refine V.tableIn (tgt := 40) dX8_count_1 (by decide) (by decide) rfl (by decide) ?_
  refine V.aload_n (j := 0) rfl dX8_count_40 ?_
  refine V.geti (v := nI nv) dX8_count_41 fX8_79 rfl rfl hn ?_
  refine V.ri dX8_count_44 rfl ?_
  exact ⟨rfl, rfl, rfl⟩
set_option maxRecDepth 100000 in
set_option maxHeartbeats 4000000 in
theorem md_count1 {G : am_G} (I A : Nat → Nat → Int32) (nv ns : Nat) (hW : mz_wf nv ns I A) (hsw : ∀ s, s < ns → mz_sw nv (A m_ops s) (A m_first s) (A m_second s) (A m_third s)) : Cm G MX8_count 5 120 [.ref mM, .int (nI 1)] I A (fun r I' A' => r = some (.int (nI ns)) ∧ I = I' ∧ A = A') := by
  refine Cm.of (by decide) (Nat.le_of_ble_eq_true rfl) rfl ?_
  show V G MX8_count (am_R 5 120 0 0) _ 0 0 0 [(0, .ref mM), (1, .int (nI 1))] [] (hp I A)
  obtain ⟨hn, hnv, hs, hns, h8, h7, hA, h0, h1, hcl, hrg, hT⟩ := id hW
  refine V.iload_n (j := 1) rfl dX8_count_0 ?_
  refine V.tableIn (tgt := 45) dX8_count_1 (by decide) (by decide) rfl (by decide) ?_
  refine V.aload_n (j := 0) rfl dX8_count_45 ?_
  refine V.geti (v := nI ns) dX8_count_46 fX8_95 rfl rfl hs ?_
  refine V.ri dX8_count_49 rfl ?_
  exact ⟨rfl, rfl, rfl⟩
set_option maxRecDepth 100000 in
set_option maxHeartbeats 4000000 in
theorem md_count2 {G : am_G} (I A : Nat → Nat → Int32) (nv ns : Nat) (hW : mz_wf nv ns I A) (hsw : ∀ s, s < ns → mz_sw nv (A m_ops s) (A m_first s) (A m_second s) (A m_third s)) : Cm G MX8_count 5 120 [.ref mM, .int (nI 2)] I A (fun r I' A' => r = some (.int (A' m_items 0)) ∧ mz_made nv ns I A I' A') := by
  refine Cm.of (by decide) (Nat.le_of_ble_eq_true rfl) rfl ?_
  show V G MX8_count (am_R 5 120 0 0) _ 0 0 0 [(0, .ref mM), (1, .int (nI 2))] [] (hp I A)
  obtain ⟨hn, hnv, hs, hns, h8, h7, hA, h0, h1, hcl, hrg, hT⟩ := id hW
  refine V.iload_n (j := 1) rfl dX8_count_0 ?_
  refine V.tableIn (tgt := 50) dX8_count_1 (by decide) (by decide) rfl (by decide) ?_
  refine V.aload_n (j := 0) rfl dX8_count_50 ?_
  refine V.cV (As := []) (st := []) dX8_count_51 sX8_166 iX8_makeCode lX8_makeCode rfl rfl (md_makeCode I A nv ns hW hsw) ⟨by decide, by decide⟩ (Nat.le_of_ble_eq_true rfl) rfl (fun r I' A' hq => ?_)
  obtain ⟨rfl, hmd⟩ := hq
  refine V.st (st' := []) rfl ?_
  refine V.aload_n (j := 0) rfl dX8_count_54 ?_
  refine V.getr (q := m_items) dX8_count_55 fX8_52 rfl rfl ?_
  refine V.iload_n (j := 1) rfl dX8_count_58 ?_
  refine V.iconst (v := nI 2) (by decide) dX8_count_59 ?_
  refine V.isubN dX8_count_60 (by omega) ?_
  refine V.st (st' := [.int (nI 0), .ref m_items]) rfl ?_
  refine V.lda (v := A' m_items 0) dX8_count_61 rfl (by decide) (by decide) rfl ?_
  refine V.ri dX8_count_62 rfl ?_
  exact ⟨rfl, hmd⟩
set_option maxRecDepth 100000 in
set_option maxHeartbeats 4000000 in
theorem md_count3 {G : am_G} (I A : Nat → Nat → Int32) (nv ns : Nat) (hW : mz_wf nv ns I A) (hsw : ∀ s, s < ns → mz_sw nv (A m_ops s) (A m_first s) (A m_second s) (A m_third s)) : Cm G MX8_count 5 120 [.ref mM, .int (nI 3)] I A (fun r I' A' => r = some (.int (A' m_items 1)) ∧ mz_made nv ns I A I' A') := by
  refine Cm.of (by decide) (Nat.le_of_ble_eq_true rfl) rfl ?_
  show V G MX8_count (am_R 5 120 0 0) _ 0 0 0 [(0, .ref mM), (1, .int (nI 3))] [] (hp I A)
  obtain ⟨hn, hnv, hs, hns, h8, h7, hA, h0, h1, hcl, hrg, hT⟩ := id hW
  refine V.iload_n (j := 1) rfl dX8_count_0 ?_
  refine V.tableIn (tgt := 50) dX8_count_1 (by decide) (by decide) rfl (by decide) ?_
  refine V.aload_n (j := 0) rfl dX8_count_50 ?_
  refine V.cV (As := []) (st := []) dX8_count_51 sX8_166 iX8_makeCode lX8_makeCode rfl rfl (md_makeCode I A nv ns hW hsw) ⟨by decide, by decide⟩ (Nat.le_of_ble_eq_true rfl) rfl (fun r I' A' hq => ?_)
  obtain ⟨rfl, hmd⟩ := hq
  refine V.st (st' := []) rfl ?_
  refine V.aload_n (j := 0) rfl dX8_count_54 ?_
  refine V.getr (q := m_items) dX8_count_55 fX8_52 rfl rfl ?_
  refine V.iload_n (j := 1) rfl dX8_count_58 ?_
  refine V.iconst (v := nI 2) (by decide) dX8_count_59 ?_
  refine V.isubN dX8_count_60 (by omega) ?_
  refine V.st (st' := [.int (nI 1), .ref m_items]) rfl ?_
  refine V.lda (v := A' m_items 1) dX8_count_61 rfl (by decide) (by decide) rfl ?_
  refine V.ri dX8_count_62 rfl ?_
  exact ⟨rfl, hmd⟩
set_option maxRecDepth 100000 in
set_option maxHeartbeats 4000000 in
theorem md_count4 {G : am_G} (I A : Nat → Nat → Int32) (nv ns : Nat) (hW : mz_wf nv ns I A) (hsw : ∀ s, s < ns → mz_sw nv (A m_ops s) (A m_first s) (A m_second s) (A m_third s)) : Cm G MX8_count 5 120 [.ref mM, .int (nI 4)] I A (fun r I' A' => r = some (.int (nI (mz_cnt nv (A' m_classes) (A' m_homes) 0 24 100 0))) ∧ I = I' ∧ mz_stl nv ns A A') := by
  refine Cm.of (by decide) (Nat.le_of_ble_eq_true rfl) rfl ?_
  show V G MX8_count (am_R 5 120 0 0) _ 0 0 0 [(0, .ref mM), (1, .int (nI 4))] [] (hp I A)
  obtain ⟨hn, hnv, hs, hns, h8, h7, hA, h0, h1, hcl, hrg, hT⟩ := id hW
  refine V.iload_n (j := 1) rfl dX8_count_0 ?_
  refine V.tableIn (tgt := 63) dX8_count_1 (by decide) (by decide) rfl (by decide) ?_
  refine V.aload_n (j := 0) rfl dX8_count_63 ?_
  refine V.iload_n (j := 1) rfl dX8_count_64 ?_
  refine V.iconst (v := nI 4) (by decide) dX8_count_65 ?_
  refine V.isubN dX8_count_66 (by omega) ?_
  refine V.st (st' := [.int (nI 0), .ref mM]) rfl ?_
  refine V.cV (As := [.int (nI 0)]) (st := []) dX8_count_67 sX8_169 iX8_slotsOf lX8_slotsOf rfl rfl (md_slotsOf I A nv ns hW 0) ⟨by decide, by decide⟩ (Nat.le_of_ble_eq_true rfl) rfl (fun r I' A' hq => ?_)
  obtain ⟨rfl, rfl, hst⟩ := hq
  refine V.st (st' := [.int (nI (mz_cnt nv (A' m_classes) (A' m_homes) 0 24 100 0))]) rfl ?_
  refine V.ri dX8_count_70 rfl ?_
  exact ⟨rfl, rfl, hst⟩
set_option maxRecDepth 100000 in
set_option maxHeartbeats 4000000 in
theorem md_count5 {G : am_G} (I A : Nat → Nat → Int32) (nv ns : Nat) (hW : mz_wf nv ns I A) (hsw : ∀ s, s < ns → mz_sw nv (A m_ops s) (A m_first s) (A m_second s) (A m_third s)) : Cm G MX8_count 5 120 [.ref mM, .int (nI 5)] I A (fun r I' A' => r = some (.int (nI (mz_cnt nv (A' m_classes) (A' m_homes) 1 24 100 0))) ∧ I = I' ∧ mz_stl nv ns A A') := by
  refine Cm.of (by decide) (Nat.le_of_ble_eq_true rfl) rfl ?_
  show V G MX8_count (am_R 5 120 0 0) _ 0 0 0 [(0, .ref mM), (1, .int (nI 5))] [] (hp I A)
  obtain ⟨hn, hnv, hs, hns, h8, h7, hA, h0, h1, hcl, hrg, hT⟩ := id hW
  refine V.iload_n (j := 1) rfl dX8_count_0 ?_
  refine V.tableIn (tgt := 63) dX8_count_1 (by decide) (by decide) rfl (by decide) ?_
  refine V.aload_n (j := 0) rfl dX8_count_63 ?_
  refine V.iload_n (j := 1) rfl dX8_count_64 ?_
  refine V.iconst (v := nI 4) (by decide) dX8_count_65 ?_
  refine V.isubN dX8_count_66 (by omega) ?_
  refine V.st (st' := [.int (nI 1), .ref mM]) rfl ?_
  refine V.cV (As := [.int (nI 1)]) (st := []) dX8_count_67 sX8_169 iX8_slotsOf lX8_slotsOf rfl rfl (md_slotsOf I A nv ns hW 1) ⟨by decide, by decide⟩ (Nat.le_of_ble_eq_true rfl) rfl (fun r I' A' hq => ?_)
  obtain ⟨rfl, rfl, hst⟩ := hq
  refine V.st (st' := [.int (nI (mz_cnt nv (A' m_classes) (A' m_homes) 1 24 100 0))]) rfl ?_
  refine V.ri dX8_count_70 rfl ?_
  exact ⟨rfl, rfl, hst⟩
set_option maxRecDepth 100000 in
theorem md_countO {G : am_G} (I A : Nat → Nat → Int32) (x : Int32) (h : x.toInt < 0 ∨ 5 < x.toInt) : Cm G MX8_count 5 120 [.ref mM, .int x] I A (fun r I' A' => r = some (.int (-1)) ∧ I = I' ∧ A = A') := by
  refine Cm.of (by decide) (Nat.le_of_ble_eq_true rfl) rfl ?_
  show V G MX8_count (am_R 5 120 0 0) _ 0 0 0 [(0, .ref mM), (1, .int x)] [] (hp I A)
  refine V.iload_n (j := 1) rfl dX8_count_0 ?_
  refine V.tableOut (tgt := 71) dX8_count_1 h (by decide) ?_
  refine V.iconst (v := (-1)) (by decide) dX8_count_71 ?_
  refine V.ri dX8_count_72 rfl ?_
  exact ⟨rfl, rfl, rfl⟩
