def mz_jt (ns : Nat) (op fa fb cl hm : Nat → Int32) (v cc k t : Nat) : Prop := ¬ t = v ∧ cl t = nI cc ∧ hm t = nI k ∧ mz_joined ns op fa fb (nI v) (nI t)
/-- register k is home to a value that a step 1 joins with v -/
def mz_J (nv ns : Nat) (op fa fb cl hm : Nat → Int32) (v cc k : Nat) : Prop := ∃ t, t < nv ∧ mz_jt ns op fa fb cl hm v cc k t
/-- the home that a value gets: R registers, J: joined there, F: free -/
def mz_home (R : Nat) (J F : Nat → Prop) (x : Nat) : Prop := (x < R ∧ (J x ∧ F x) ∧ ∀ k, k < x → ¬ (J k ∧ F k)) ∨ ((∀ k, k < R → ¬ (J k ∧ F k)) ∧ ((x < R ∧ F x ∧ ∀ k, k < x → ¬ F k) ∨ ((∀ k, k < R → ¬ F k) ∧ 100 ≤ x ∧ F x ∧ ∀ k, 100 ≤ k → k < x → ¬ F k)))
def mz_no (P : Nat → Prop) (n : Nat) : Prop := ∀ k, k < n → ¬ P k
set_option maxRecDepth 100000 in
set_option maxHeartbeats 4000000 in
theorem ml_homeFor1 {G : am_G} {Fn : Array Value → State → List Frame → State → Prop} (I A : Nat → Nat → Int32) (nv : Nat) (hn : I mM 0 = nI nv) (hnv : nv ≤ 24) (ns : Nat) (hs : I mM 2 = nI ns) (hns : ns ≤ 60) (v cc k : Nat) (hv : v < nv) : ∀ (m : Nat) (i : Nat), i + m = nv → V G MX8_homeFor (am_R 1 24 0 0) Fn 0 0 90 [(0, .ref mM), (1, .int (nI v)), (2, .int (nI cc)), (3, .int (nI k)), (4, .int (bI (∃ t, t < nv ∧ mz_jt ns (A m_ops) (A m_first) (A m_second) (A m_classes) (A m_homes) v cc k t)))] [] (hp I A) → V G MX8_homeFor (am_R 1 24 0 0) Fn 0 0 25 [(0, .ref mM), (1, .int (nI v)), (2, .int (nI cc)), (3, .int (nI k)), (4, .int (bI (∃ t, t < i ∧ mz_jt ns (A m_ops) (A m_first) (A m_second) (A m_classes) (A m_homes) v cc k t))), (5, .int (nI i))] [] (hp I A) := by
  intro m
  induction m with
  | zero =>
    intro i hi0 hk
    obtain rfl : nv = i := by omega
    refine V.iload (j := 5) rfl dX8_homeFor_25 ?_
    refine V.aload_n (j := 0) rfl dX8_homeFor_27 ?_
    refine V.geti (v := nI nv) dX8_homeFor_28 fX8_79 rfl rfl hn ?_
    refine V.icmp_geN (tgt := 90) dX8_homeFor_31 (by decide) (by omega) (by omega) (fun c1 => ?_) (fun c1 => ?_)
    · refine V.fewer [0, 1, 2, 3, 4] rfl ?_
      exact hk
    · exact absurd c1 (by omega)
  | succ m ih =>
    intro i hi0 hk
    refine V.iload (j := 5) rfl dX8_homeFor_25 ?_
    refine V.aload_n (j := 0) rfl dX8_homeFor_27 ?_
    refine V.geti (v := nI nv) dX8_homeFor_28 fX8_79 rfl rfl hn ?_
    refine V.icmp_geN (tgt := 90) dX8_homeFor_31 (by decide) (by omega) (by omega) (fun c2 => ?_) (fun c2 => ?_)
    · exact absurd c2 (by omega)
    · refine V.iload (j := 4) rfl dX8_homeFor_34 ?_
      have K3 : V G MX8_homeFor (am_R 1 24 0 0) Fn 0 0 82 [(0, .ref mM), (1, .int (nI v)), (2, .int (nI cc)), (3, .int (nI k)), (4, .int (bI (∃ t, t < i ∧ mz_jt ns (A m_ops) (A m_first) (A m_second) (A m_classes) (A m_homes) v cc k t))), (5, .int (nI i))] [.int (bI (∃ t, t < i + 1 ∧ mz_jt ns (A m_ops) (A m_first) (A m_second) (A m_classes) (A m_homes) v cc k t))] (hp I A) := by
        refine V.istore (ls' := [(0, .ref mM), (1, .int (nI v)), (2, .int (nI cc)), (3, .int (nI k)), (4, .int (bI (∃ t, t < i + 1 ∧ mz_jt ns (A m_ops) (A m_first) (A m_second) (A m_classes) (A m_homes) v cc k t))), (5, .int (nI i))]) dX8_homeFor_82 (by decide) rfl ?_
        refine V.iincN (ls' := [(0, .ref mM), (1, .int (nI v)), (2, .int (nI cc)), (3, .int (nI k)), (4, .int (bI (∃ t, t < i + 1 ∧ mz_jt ns (A m_ops) (A m_first) (A m_second) (A m_classes) (A m_homes) v cc k t))), (5, .int (nI (i + 1)))]) dX8_homeFor_84 (j := 5) rfl (by decide) rfl ?_
        refine V.goto (tgt := 25) dX8_homeFor_87 (by decide) ?_
        exact ih (i + 1) (by omega) hk
      refine V.if_ne (tgt := 77) dX8_homeFor_36 (by decide) (fun c4 => ?_) (fun c4 => ?_)
      · refine V.iconst (v := nI 1) (by decide) dX8_homeFor_77 ?_
        refine V.goto (tgt := 82) dX8_homeFor_78 (by decide) ?_
        exact V.st (congrArg (fun x => [Value.int x]) (bI_1 (by obtain ⟨t, h1, h2⟩ := bI_nz c4; exact ⟨t, by omega, h2⟩))) K3
      · refine V.iload (j := 5) rfl dX8_homeFor_39 ?_
        refine V.iload_n (j := 1) rfl dX8_homeFor_41 ?_
        refine V.icmp_eqN (tgt := 81) dX8_homeFor_42 (by decide) (by omega) (by omega) (fun c5 => ?_) (fun c5 => ?_)
        · refine V.iconst (v := nI 0) (by decide) dX8_homeFor_81 ?_
          exact V.st (congrArg (fun x => [Value.int x]) (bI_0 (ex_no (bI_z c4) (fun y => y.1 c5)))) K3
        · refine V.aload_n (j := 0) rfl dX8_homeFor_45 ?_
          refine V.getr (q := m_classes) dX8_homeFor_46 fX8_7 rfl rfl ?_
          refine V.iload (j := 5) rfl dX8_homeFor_49 ?_
          refine V.lda (v := A m_classes i) dX8_homeFor_51 rfl (by omega) (by decide) rfl ?_
          refine V.iload_n (j := 2) rfl dX8_homeFor_52 ?_
          refine V.icmp_ne (tgt := 81) dX8_homeFor_53 (by decide) (fun c6 => ?_) (fun c6 => ?_)
          · refine V.iconst (v := nI 0) (by decide) dX8_homeFor_81 ?_
            exact V.st (congrArg (fun x => [Value.int x]) (bI_0 (ex_no (bI_z c4) (fun y => c6 y.2.1)))) K3
          · refine V.aload_n (j := 0) rfl dX8_homeFor_56 ?_
            refine V.getr (q := m_homes) dX8_homeFor_57 fX8_46 rfl rfl ?_
            refine V.iload (j := 5) rfl dX8_homeFor_60 ?_
            refine V.lda (v := A m_homes i) dX8_homeFor_62 rfl (by omega) (by decide) rfl ?_
            refine V.iload_n (j := 3) rfl dX8_homeFor_63 ?_
            refine V.icmp_ne (tgt := 81) dX8_homeFor_64 (by decide) (fun c7 => ?_) (fun c7 => ?_)
            · refine V.iconst (v := nI 0) (by decide) dX8_homeFor_81 ?_
              exact V.st (congrArg (fun x => [Value.int x]) (bI_0 (ex_no (bI_z c4) (fun y => c7 y.2.2.1)))) K3
            · refine V.aload_n (j := 0) rfl dX8_homeFor_67 ?_
              refine V.iload_n (j := 1) rfl dX8_homeFor_68 ?_
              refine V.iload (j := 5) rfl dX8_homeFor_69 ?_
              refine V.cV (As := [.int (nI v), .int (nI i)]) (st := []) dX8_homeFor_71 sX8_112 iX8_isJoined lX8_isJoined rfl rfl (md_isJoined I A ns hs hns _ _) ⟨by decide, by decide⟩ (Nat.le_of_ble_eq_true rfl) rfl (fun r I' A' hq => ?_)
              obtain ⟨rfl, rfl, rfl⟩ := hq
              by_cases b8 : mz_joined ns (A m_ops) (A m_first) (A m_second) (nI v) (nI i)
              · refine V.st (st' := [.int (nI 1)]) (by rw [bI_t b8]; rfl) ?_
                refine V.if_eq (tgt := 81) dX8_homeFor_74 (by decide) (fun z => absurd z (by decide)) (fun _ => ?_)
                refine V.iconst (v := nI 1) (by decide) dX8_homeFor_77 ?_
                refine V.goto (tgt := 82) dX8_homeFor_78 (by decide) ?_
                exact V.st (congrArg (fun x => [Value.int x]) (bI_1 ⟨i, by omega, c5, c6, c7, b8⟩)) K3
              · refine V.st (st' := [.int (nI 0)]) (by rw [bI_f b8]; rfl) ?_
                refine V.if_eq (tgt := 81) dX8_homeFor_74 (by decide) (fun _ => ?_) (fun z => absurd z (by decide))
                refine V.iconst (v := nI 0) (by decide) dX8_homeFor_81 ?_
                exact V.st (congrArg (fun x => [Value.int x]) (bI_0 (ex_no (bI_z c4) (fun y => b8 y.2.2.2)))) K3
set_option maxRecDepth 100000 in
set_option maxHeartbeats 4000000 in
theorem ml_homeFor2 {G : am_G} {Q : Option Value → (Nat → Nat → Int32) → (Nat → Nat → Int32) → Prop} (I A : Nat → Nat → Int32) (nv : Nat) (hn : I mM 0 = nI nv) (hnv : nv ≤ 24) (ns : Nat) (hs : I mM 2 = nI ns) (hns : ns ≤ 60) (v cc R : Nat) (hv : v < nv) (hc : A m_classes v = nI cc) (hcc : cc < 2) (hR : A m_registers cc = nI R) (hR8 : R ≤ 8) (hret : ∀ k, k < R → (mz_J nv ns (A m_ops) (A m_first) (A m_second) (A m_classes) (A m_homes) v cc k ∧ mz_free nv (A m_way v) (A m_homes) (nI k)) → mz_no (fun k1 => mz_J nv ns (A m_ops) (A m_first) (A m_second) (A m_classes) (A m_homes) v cc k1 ∧ mz_free nv (A m_way v) (A m_homes) (nI k1)) k → Q (some (.int (nI k))) I A) : ∀ (m : Nat) (k : Nat), k + m = R → mz_no (fun k1 => mz_J nv ns (A m_ops) (A m_first) (A m_second) (A m_classes) (A m_homes) v cc k1 ∧ mz_free nv (A m_way v) (A m_homes) (nI k1)) k → (mz_no (fun k1 => mz_J nv ns (A m_ops) (A m_first) (A m_second) (A m_classes) (A m_homes) v cc k1 ∧ mz_free nv (A m_way v) (A m_homes) (nI k1)) R → V G MX8_homeFor (am_R 1 24 0 0) (am_Fin G 0 0 (Pm Q)) 0 0 112 [(0, .ref mM), (1, .int (nI v)), (2, .int (nI cc))] [] (hp I A)) → V G MX8_homeFor (am_R 1 24 0 0) (am_Fin G 0 0 (Pm Q)) 0 0 9 [(0, .ref mM), (1, .int (nI v)), (2, .int (nI cc)), (3, .int (nI k))] [] (hp I A) := by
  intro m
  induction m with
  | zero =>
    intro k hi0 hi1 hk
    obtain rfl : R = k := by omega
    refine V.iload_n (j := 3) rfl dX8_homeFor_9 ?_
    refine V.aload_n (j := 0) rfl dX8_homeFor_10 ?_
    refine V.getr (q := m_registers) dX8_homeFor_11 fX8_25 rfl rfl ?_
    refine V.iload_n (j := 2) rfl dX8_homeFor_14 ?_
    refine V.lda (v := nI R) dX8_homeFor_15 rfl (by omega) (by decide) hR ?_
    refine V.icmp_geN (tgt := 112) dX8_homeFor_16 (by decide) (by omega) (by omega) (fun c1 => ?_) (fun c1 => ?_)
    · refine V.fewer [0, 1, 2] rfl ?_
      exact hk hi1
    · exact absurd c1 (by omega)
  | succ m ih =>
    intro k hi0 hi1 hk
    refine V.iload_n (j := 3) rfl dX8_homeFor_9 ?_
    refine V.aload_n (j := 0) rfl dX8_homeFor_10 ?_
    refine V.getr (q := m_registers) dX8_homeFor_11 fX8_25 rfl rfl ?_
    refine V.iload_n (j := 2) rfl dX8_homeFor_14 ?_
    refine V.lda (v := nI R) dX8_homeFor_15 rfl (by omega) (by decide) hR ?_
    refine V.icmp_geN (tgt := 112) dX8_homeFor_16 (by decide) (by omega) (by omega) (fun c2 => ?_) (fun c2 => ?_)
    · exact absurd c2 (by omega)
    · refine V.iconst (v := nI 0) (by decide) dX8_homeFor_19 ?_
      refine V.istore (ls' := [(0, .ref mM), (1, .int (nI v)), (2, .int (nI cc)), (3, .int (nI k)), (4, .int (nI 0))]) dX8_homeFor_20 (by decide) rfl ?_
      refine V.iconst (v := nI 0) (by decide) dX8_homeFor_22 ?_
      refine V.istore (ls' := [(0, .ref mM), (1, .int (nI v)), (2, .int (nI cc)), (3, .int (nI k)), (4, .int (nI 0)), (5, .int (nI 0))]) dX8_homeFor_23 (by decide) rfl ?_
      refine V.lse (ls' := [(0, .ref mM), (1, .int (nI v)), (2, .int (nI cc)), (3, .int (nI k)), (4, .int (bI (∃ t, t < 0 ∧ mz_jt ns (A m_ops) (A m_first) (A m_second) (A m_classes) (A m_homes) v cc k t))), (5, .int (nI 0))]) (by rw [← bI_0 (c := ∃ t, t < 0 ∧ _) (fun z => by obtain ⟨t, h1, h2⟩ := z; omega)]) ?_
      refine ml_homeFor1 I A nv hn hnv ns hs hns v cc k hv nv 0 (by omega) ?_
      refine V.iload (j := 4) rfl dX8_homeFor_90 ?_
      refine V.if_eq (tgt := 106) dX8_homeFor_92 (by decide) (fun c3 => ?_) (fun c3 => ?_)
      · refine V.iincN (ls' := [(0, .ref mM), (1, .int (nI v)), (2, .int (nI cc)), (3, .int (nI (k + 1))), (4, .int (bI (∃ t, t < nv ∧ mz_jt ns (A m_ops) (A m_first) (A m_second) (A m_classes) (A m_homes) v cc k t)))]) dX8_homeFor_106 (j := 3) rfl (by decide) rfl ?_
        refine V.goto (tgt := 9) dX8_homeFor_109 (by decide) ?_
        refine V.fewer [0, 1, 2, 3] rfl ?_
        exact ih (k + 1) (by omega) (lt_s hi1 (fun y => bI_z c3 y.1)) hk
      · refine V.aload_n (j := 0) rfl dX8_homeFor_95 ?_
        refine V.iload_n (j := 1) rfl dX8_homeFor_96 ?_
        refine V.iload_n (j := 3) rfl dX8_homeFor_97 ?_
        refine V.cV (As := [.int (nI v), .int (nI k)]) (st := []) dX8_homeFor_98 sX8_115 iX8_isFree lX8_isFree rfl rfl (md_isFree I A nv hn hnv v hv _) ⟨by decide, by decide⟩ (Nat.le_of_ble_eq_true rfl) rfl (fun r I' A' hq => ?_)
        obtain ⟨rfl, rfl, rfl⟩ := hq
        by_cases b4 : mz_free nv (A m_way v) (A m_homes) (nI k)
        · refine V.st (st' := [.int (nI 1)]) (by rw [bI_t b4]; rfl) ?_
          refine V.if_eq (tgt := 106) dX8_homeFor_101 (by decide) (fun z => absurd z (by decide)) (fun _ => ?_)
          refine V.iload_n (j := 3) rfl dX8_homeFor_104 ?_
          refine V.ri dX8_homeFor_105 rfl ?_
          exact hret k (by omega) ⟨bI_nz c3, b4⟩ hi1
        · refine V.st (st' := [.int (nI 0)]) (by rw [bI_f b4]; rfl) ?_
          refine V.if_eq (tgt := 106) dX8_homeFor_101 (by decide) (fun _ => ?_) (fun z => absurd z (by decide))
          refine V.iincN (ls' := [(0, .ref mM), (1, .int (nI v)), (2, .int (nI cc)), (3, .int (nI (k + 1))), (4, .int (bI (∃ t, t < nv ∧ mz_jt ns (A m_ops) (A m_first) (A m_second) (A m_classes) (A m_homes) v cc k t)))]) dX8_homeFor_106 (j := 3) rfl (by decide) rfl ?_
          refine V.goto (tgt := 9) dX8_homeFor_109 (by decide) ?_
          refine V.fewer [0, 1, 2, 3] rfl ?_
          exact ih (k + 1) (by omega) (lt_s hi1 (fun y => b4 y.2)) hk
set_option maxRecDepth 100000 in
set_option maxHeartbeats 4000000 in
theorem ml_homeFor3 {G : am_G} {Q : Option Value → (Nat → Nat → Int32) → (Nat → Nat → Int32) → Prop} (I A : Nat → Nat → Int32) (nv : Nat) (hn : I mM 0 = nI nv) (hnv : nv ≤ 24) (v cc R : Nat) (hv : v < nv) (hc : A m_classes v = nI cc) (hcc : cc < 2) (hR : A m_registers cc = nI R) (hR8 : R ≤ 8) (hret : ∀ k, k < R → mz_free nv (A m_way v) (A m_homes) (nI k) → mz_no (fun k1 => mz_free nv (A m_way v) (A m_homes) (nI k1)) k → Q (some (.int (nI k))) I A) : ∀ (m : Nat) (k : Nat), k + m = R → mz_no (fun k1 => mz_free nv (A m_way v) (A m_homes) (nI k1)) k → (mz_no (fun k1 => mz_free nv (A m_way v) (A m_homes) (nI k1)) R → V G MX8_homeFor (am_R 1 24 0 0) (am_Fin G 0 0 (Pm Q)) 0 0 141 [(0, .ref mM), (1, .int (nI v)), (2, .int (nI cc))] [] (hp I A)) → V G MX8_homeFor (am_R 1 24 0 0) (am_Fin G 0 0 (Pm Q)) 0 0 114 [(0, .ref mM), (1, .int (nI v)), (2, .int (nI cc)), (3, .int (nI k))] [] (hp I A) := by
  intro m
  induction m with
  | zero =>
    intro k hi0 hi1 hk
    obtain rfl : R = k := by omega
    refine V.iload_n (j := 3) rfl dX8_homeFor_114 ?_
    refine V.aload_n (j := 0) rfl dX8_homeFor_115 ?_
    refine V.getr (q := m_registers) dX8_homeFor_116 fX8_25 rfl rfl ?_
    refine V.iload_n (j := 2) rfl dX8_homeFor_119 ?_
    refine V.lda (v := nI R) dX8_homeFor_120 rfl (by omega) (by decide) hR ?_
    refine V.icmp_geN (tgt := 141) dX8_homeFor_121 (by decide) (by omega) (by omega) (fun c1 => ?_) (fun c1 => ?_)
    · refine V.fewer [0, 1, 2] rfl ?_
      exact hk hi1
    · exact absurd c1 (by omega)
  | succ m ih =>
    intro k hi0 hi1 hk
    refine V.iload_n (j := 3) rfl dX8_homeFor_114 ?_
    refine V.aload_n (j := 0) rfl dX8_homeFor_115 ?_
    refine V.getr (q := m_registers) dX8_homeFor_116 fX8_25 rfl rfl ?_
    refine V.iload_n (j := 2) rfl dX8_homeFor_119 ?_
    refine V.lda (v := nI R) dX8_homeFor_120 rfl (by omega) (by decide) hR ?_
    refine V.icmp_geN (tgt := 141) dX8_homeFor_121 (by decide) (by omega) (by omega) (fun c2 => ?_) (fun c2 => ?_)
    · exact absurd c2 (by omega)
    · refine V.aload_n (j := 0) rfl dX8_homeFor_124 ?_
      refine V.iload_n (j := 1) rfl dX8_homeFor_125 ?_
      refine V.iload_n (j := 3) rfl dX8_homeFor_126 ?_
      refine V.cV (As := [.int (nI v), .int (nI k)]) (st := []) dX8_homeFor_127 sX8_115 iX8_isFree lX8_isFree rfl rfl (md_isFree I A nv hn hnv v hv _) ⟨by decide, by decide⟩ (Nat.le_of_ble_eq_true rfl) rfl (fun r I' A' hq => ?_)
      obtain ⟨rfl, rfl, rfl⟩ := hq
      by_cases b3 : mz_free nv (A m_way v) (A m_homes) (nI k)
      · refine V.st (st' := [.int (nI 1)]) (by rw [bI_t b3]; rfl) ?_
        refine V.if_eq (tgt := 135) dX8_homeFor_130 (by decide) (fun z => absurd z (by decide)) (fun _ => ?_)
        refine V.iload_n (j := 3) rfl dX8_homeFor_133 ?_
        refine V.ri dX8_homeFor_134 rfl ?_
        exact hret k (by omega) b3 hi1
      · refine V.st (st' := [.int (nI 0)]) (by rw [bI_f b3]; rfl) ?_
        refine V.if_eq (tgt := 135) dX8_homeFor_130 (by decide) (fun _ => ?_) (fun z => absurd z (by decide))
        refine V.iincN (ls' := [(0, .ref mM), (1, .int (nI v)), (2, .int (nI cc)), (3, .int (nI (k + 1)))]) dX8_homeFor_135 (j := 3) rfl (by decide) rfl ?_
        refine V.goto (tgt := 114) dX8_homeFor_138 (by decide) ?_
        exact ih (k + 1) (by omega) (lt_s hi1 b3) hk
set_option maxRecDepth 100000 in
set_option maxHeartbeats 4000000 in
theorem ml_homeFor4 {G : am_G} {Fn : Array Value → State → List Frame → State → Prop} (I A : Nat → Nat → Int32) (nv : Nat) (hn : I mM 0 = nI nv) (hnv : nv ≤ 24) (v cc : Nat) (hv : v < nv) (kf : Nat) (hkf : mz_free nv (A m_way v) (A m_homes) (nI kf)) (hmin : ∀ k, 100 ≤ k → k < kf → ¬ mz_free nv (A m_way v) (A m_homes) (nI k)) : ∀ (m k : Nat), 100 ≤ k → k + m = kf → V G MX8_homeFor (am_R 1 24 0 0) Fn 0 0 159 [(0, .ref mM), (1, .int (nI v)), (2, .int (nI cc)), (3, .int (nI kf))] [] (hp I A) → V G MX8_homeFor (am_R 1 24 0 0) Fn 0 0 144 [(0, .ref mM), (1, .int (nI v)), (2, .int (nI cc)), (3, .int (nI k))] [] (hp I A) := by
  intro m
  induction m with
  | zero =>
    intro k h100 hk0 hk
    obtain rfl : kf = k := by omega
    refine V.aload_n (j := 0) rfl dX8_homeFor_144 ?_
    refine V.iload_n (j := 1) rfl dX8_homeFor_145 ?_
    refine V.iload_n (j := 3) rfl dX8_homeFor_146 ?_
    refine V.cV (As := [.int (nI v), .int (nI kf)]) (st := []) dX8_homeFor_147 sX8_115 iX8_isFree lX8_isFree rfl rfl (md_isFree _ _ nv hn hnv v hv _) ⟨by decide, by decide⟩ (Nat.le_of_ble_eq_true rfl) rfl (fun r I' A' hq => ?_)
    obtain ⟨rfl, rfl, rfl⟩ := hq
    refine V.st (st' := [.int (nI 1)]) (by rw [bI_t hkf]; rfl) ?_
    refine V.if_ne (tgt := 159) dX8_homeFor_150 (by decide) (fun _ => ?_) (fun z => absurd z (by decide))
    exact hk
  | succ m ih =>
    intro k h100 hk0 hk
    refine V.aload_n (j := 0) rfl dX8_homeFor_144 ?_
    refine V.iload_n (j := 1) rfl dX8_homeFor_145 ?_
    refine V.iload_n (j := 3) rfl dX8_homeFor_146 ?_
    refine V.cV (As := [.int (nI v), .int (nI k)]) (st := []) dX8_homeFor_147 sX8_115 iX8_isFree lX8_isFree rfl rfl (md_isFree _ _ nv hn hnv v hv _) ⟨by decide, by decide⟩ (Nat.le_of_ble_eq_true rfl) rfl (fun r I' A' hq => ?_)
    obtain ⟨rfl, rfl, rfl⟩ := hq
    refine V.st (st' := [.int (nI 0)]) (by rw [bI_f (hmin k h100 (by omega))]; rfl) ?_
    refine V.if_ne (tgt := 159) dX8_homeFor_150 (by decide) (fun z => absurd (by decide) z) (fun _ => ?_)
    refine V.iincN (ls' := [(0, .ref mM), (1, .int (nI v)), (2, .int (nI cc)), (3, .int (nI (k + 1)))]) dX8_homeFor_153 (j := 3) rfl (by decide) rfl ?_
    refine V.goto (tgt := 144) dX8_homeFor_156 (by decide) ?_
    exact ih (k + 1) (by omega) (by omega) hk
set_option maxRecDepth 100000 in
set_option maxHeartbeats 4000000 in
theorem md_homeFor {G : am_G} (I A : Nat → Nat → Int32) (nv : Nat) (hn : I mM 0 = nI nv) (hnv : nv ≤ 24) (ns : Nat) (hs : I mM 2 = nI ns) (hns : ns ≤ 60) (v cc R : Nat) (hv : v < nv) (hc : A m_classes v = nI cc) (hcc : cc < 2) (hR : A m_registers cc = nI R) (hR8 : R ≤ 8) (hT : ∃ k, 100 ≤ k ∧ mz_free nv (A m_way v) (A m_homes) (nI k)) : Cm G MX8_homeFor 1 24 [.ref mM, .int (nI v)] I A (fun r I' A' => ∃ x, r = some (.int (nI x)) ∧ mz_home R (fun k => mz_J nv ns (A m_ops) (A m_first) (A m_second) (A m_classes) (A m_homes) v cc k) (fun k => mz_free nv (A m_way v) (A m_homes) (nI k)) x ∧ I = I' ∧ A = A') := by
  refine Cm.of (by decide) (Nat.le_of_ble_eq_true rfl) rfl ?_
  show V G MX8_homeFor (am_R 1 24 0 0) _ 0 0 0 [(0, .ref mM), (1, .int (nI v))] [] (hp I A)
  obtain ⟨kf, hkf, hmin⟩ := pk_least _ hT
  refine V.aload_n (j := 0) rfl dX8_homeFor_0 ?_
  refine V.getr (q := m_classes) dX8_homeFor_1 fX8_7 rfl rfl ?_
  refine V.iload_n (j := 1) rfl dX8_homeFor_4 ?_
  refine V.lda (v := nI cc) dX8_homeFor_5 rfl (by omega) (by decide) hc ?_
  refine V.istore_n (ls' := [(0, .ref mM), (1, .int (nI v)), (2, .int (nI cc))]) dX8_homeFor_6 (by decide) rfl ?_
  refine V.iconst (v := nI 0) (by decide) dX8_homeFor_7 ?_
  refine V.istore_n (ls' := [(0, .ref mM), (1, .int (nI v)), (2, .int (nI cc)), (3, .int (nI 0))]) dX8_homeFor_8 (by decide) rfl ?_
  refine ml_homeFor2 I A nv hn hnv ns hs hns v cc R hv hc hcc hR hR8 (fun k hk h1 h2 => ⟨k, rfl, Or.inl ⟨hk, h1, h2⟩, rfl, rfl⟩) R 0 (by omega) (fun _ h => absurd h (Nat.not_lt_zero _)) (fun hno => ?_)
  refine V.iconst (v := nI 0) (by decide) dX8_homeFor_112 ?_
  refine V.istore_n (ls' := [(0, .ref mM), (1, .int (nI v)), (2, .int (nI cc)), (3, .int (nI 0))]) dX8_homeFor_113 (by decide) rfl ?_
  refine ml_homeFor3 I A nv hn hnv v cc R hv hc hcc hR hR8 (fun k hk h1 h2 => ⟨k, rfl, Or.inr ⟨hno, Or.inl ⟨hk, h1, h2⟩⟩, rfl, rfl⟩) R 0 (by omega) (fun _ h => absurd h (Nat.not_lt_zero _)) (fun hnf => ?_)
  refine V.bipush (v := nI 100) (by decide) dX8_homeFor_141 ?_
  refine V.istore_n (ls' := [(0, .ref mM), (1, .int (nI v)), (2, .int (nI cc)), (3, .int (nI 100))]) dX8_homeFor_143 (by decide) rfl ?_
  refine ml_homeFor4 I A nv hn hnv v cc hv kf hkf.2 (fun k h1 h2 h3 => hmin k h2 ⟨h1, h3⟩) (kf - 100) 100 (Nat.le_refl _) (by have := hkf.1; omega) ?_
  refine V.iload_n (j := 3) rfl dX8_homeFor_159 ?_
  refine V.ri dX8_homeFor_160 rfl ?_
  exact ⟨kf, rfl, Or.inr ⟨hno, Or.inr ⟨hnf, hkf.1, hkf.2, fun k h1 h2 h3 => hmin k h2 ⟨h1, h3⟩⟩⟩, rfl, rfl⟩
