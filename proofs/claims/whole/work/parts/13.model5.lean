theorem bI_1 {c : Prop} (h : c) : nI 1 = bI c := (bI_t h).symm
theorem bI_0 {c : Prop} (h : ¬ c) : nI 0 = bI c := (bI_f h).symm
theorem bI_z {c : Prop} (h : bI c = 0) : ¬ c := fun q => by rw [bI_t q] at h; exact absurd h (by decide)
theorem bI_nz {c : Prop} (h : ¬ bI c = 0) : c := Classical.byContradiction fun q => h (bI_f q)
theorem ex_no {p : Nat → Prop} {i : Nat} (h : ¬ ∃ t, t < i ∧ p t) (h2 : ¬ p i) : ¬ ∃ t, t < i + 1 ∧ p t := by
  intro z
  obtain ⟨t, h3, h4⟩ := z
  by_cases h5 : t = i
  · subst h5; exact h2 h4
  · exact h ⟨t, by omega, h4⟩
theorem bI_c {c d : Prop} (h : c ↔ d) : bI c = bI d := by rw [propext h]
/-- a home is free for a value: no value in its way has it -/
def mz_free (nv : Nat) (w : Int32) (hm : Nat → Int32) (k : Int32) : Prop := ∀ u, u < nv → ((w >>> (nI u &&& 31)) &&& nI 1) = 0 ∨ ¬ hm u = k
/-- a step 1 joins two values -/
def mz_jn (op fa fb : Nat → Int32) (v u : Int32) (t : Nat) : Prop := op t = nI 1 ∧ ((fa t = v ∧ fb t = u) ∨ (fa t = u ∧ fb t = v))
def mz_joined (ns : Nat) (op fa fb : Nat → Int32) (v u : Int32) : Prop := ∃ t, t < ns ∧ mz_jn op fa fb v u t
set_option maxRecDepth 100000 in
set_option maxHeartbeats 4000000 in
theorem ml_isFree {G : am_G} {Fn : Array Value → State → List Frame → State → Prop} (I A : Nat → Nat → Int32) (nv : Nat) (hn : I mM 0 = nI nv) (hnv : nv ≤ 24) (v : Nat) (hv : v < nv) (k : Int32) : ∀ (m : Nat) (i : Nat), i + m = nv → V G MX8_isFree (am_R 0 0 0 0) Fn 0 0 55 [(0, .ref mM), (1, .int (nI v)), (2, .int k), (3, .int (bI (∀ t, t < nv → ((A m_way v >>> (nI t &&& 31)) &&& nI 1) = 0 ∨ ¬ A m_homes t = k)))] [] (hp I A) → V G MX8_isFree (am_R 0 0 0 0) Fn 0 0 5 [(0, .ref mM), (1, .int (nI v)), (2, .int k), (3, .int (bI (∀ t, t < i → ((A m_way v >>> (nI t &&& 31)) &&& nI 1) = 0 ∨ ¬ A m_homes t = k))), (4, .int (nI i))] [] (hp I A) := by
  intro m
  induction m with
  | zero =>
    intro i hi0 hk
    obtain rfl : nv = i := by omega
    refine V.iload (j := 4) rfl dX8_isFree_5 ?_
    refine V.aload_n (j := 0) rfl dX8_isFree_7 ?_
    refine V.geti (v := nI nv) dX8_isFree_8 fX8_79 rfl rfl hn ?_
    refine V.icmp_geN (tgt := 55) dX8_isFree_11 (by decide) (by omega) (by omega) (fun c1 => ?_) (fun c1 => ?_)
    · refine V.fewer [0, 1, 2, 3] rfl ?_
      exact hk
    · exact absurd c1 (by omega)
  | succ m ih =>
    intro i hi0 hk
    refine V.iload (j := 4) rfl dX8_isFree_5 ?_
    refine V.aload_n (j := 0) rfl dX8_isFree_7 ?_
    refine V.geti (v := nI nv) dX8_isFree_8 fX8_79 rfl rfl hn ?_
    refine V.icmp_geN (tgt := 55) dX8_isFree_11 (by decide) (by omega) (by omega) (fun c2 => ?_) (fun c2 => ?_)
    · exact absurd c2 (by omega)
    · refine V.iload_n (j := 3) rfl dX8_isFree_14 ?_
      have K3 : V G MX8_isFree (am_R 0 0 0 0) Fn 0 0 48 [(0, .ref mM), (1, .int (nI v)), (2, .int k), (3, .int (bI (∀ t, t < i → ((A m_way v >>> (nI t &&& 31)) &&& nI 1) = 0 ∨ ¬ A m_homes t = k))), (4, .int (nI i))] [.int (bI (∀ t, t < i + 1 → ((A m_way v >>> (nI t &&& 31)) &&& nI 1) = 0 ∨ ¬ A m_homes t = k))] (hp I A) := by
        refine V.istore_n (ls' := [(0, .ref mM), (1, .int (nI v)), (2, .int k), (3, .int (bI (∀ t, t < i + 1 → ((A m_way v >>> (nI t &&& 31)) &&& nI 1) = 0 ∨ ¬ A m_homes t = k))), (4, .int (nI i))]) dX8_isFree_48 (by decide) rfl ?_
        refine V.iincN (ls' := [(0, .ref mM), (1, .int (nI v)), (2, .int k), (3, .int (bI (∀ t, t < i + 1 → ((A m_way v >>> (nI t &&& 31)) &&& nI 1) = 0 ∨ ¬ A m_homes t = k))), (4, .int (nI (i + 1)))]) dX8_isFree_49 (j := 4) rfl (by decide) rfl ?_
        refine V.goto (tgt := 5) dX8_isFree_52 (by decide) ?_
        exact ih (i + 1) (by omega) hk
      refine V.if_eq (tgt := 47) dX8_isFree_15 (by decide) (fun c4 => ?_) (fun c4 => ?_)
      · refine V.iconst (v := nI 0) (by decide) dX8_isFree_47 ?_
        exact V.st (congrArg (fun x => [Value.int x]) (bI_0 (fun z => bI_z c4 (fun t ht => z t (by omega))))) K3
      · refine V.aload_n (j := 0) rfl dX8_isFree_18 ?_
        refine V.getr (q := m_way) dX8_isFree_19 fX8_37 rfl rfl ?_
        refine V.iload_n (j := 1) rfl dX8_isFree_22 ?_
        refine V.lda (v := A m_way v) dX8_isFree_23 rfl (by omega) (by decide) rfl ?_
        refine V.iload (j := 4) rfl dX8_isFree_24 ?_
        refine V.ishr dX8_isFree_26 ?_
        refine V.iconst (v := nI 1) (by decide) dX8_isFree_27 ?_
        refine V.iand dX8_isFree_28 ?_
        refine V.if_eq (tgt := 43) dX8_isFree_29 (by decide) (fun c5 => ?_) (fun c5 => ?_)
        · refine V.iconst (v := nI 1) (by decide) dX8_isFree_43 ?_
          refine V.goto (tgt := 48) dX8_isFree_44 (by decide) ?_
          exact V.st (congrArg (fun x => [Value.int x]) (bI_1 (lt_s (bI_nz c4) (Or.inl c5)))) K3
        · refine V.aload_n (j := 0) rfl dX8_isFree_32 ?_
          refine V.getr (q := m_homes) dX8_isFree_33 fX8_46 rfl rfl ?_
          refine V.iload (j := 4) rfl dX8_isFree_36 ?_
          refine V.lda (v := A m_homes i) dX8_isFree_38 rfl (by omega) (by decide) rfl ?_
          refine V.iload_n (j := 2) rfl dX8_isFree_39 ?_
          refine V.icmp_eq (tgt := 47) dX8_isFree_40 (by decide) (fun c6 => ?_) (fun c6 => ?_)
          · refine V.iconst (v := nI 0) (by decide) dX8_isFree_47 ?_
            exact V.st (congrArg (fun x => [Value.int x]) (bI_0 (fun z => (z i (by omega)).elim c5 (fun y => y c6)))) K3
          · refine V.iconst (v := nI 1) (by decide) dX8_isFree_43 ?_
            refine V.goto (tgt := 48) dX8_isFree_44 (by decide) ?_
            exact V.st (congrArg (fun x => [Value.int x]) (bI_1 (lt_s (bI_nz c4) (Or.inr c6)))) K3
set_option maxRecDepth 100000 in
set_option maxHeartbeats 4000000 in
theorem md_isFree {G : am_G} (I A : Nat → Nat → Int32) (nv : Nat) (hn : I mM 0 = nI nv) (hnv : nv ≤ 24) (v : Nat) (hv : v < nv) (k : Int32) : Cm G MX8_isFree 0 0 [.ref mM, .int (nI v), .int k] I A (fun r I' A' => r = some (.int (bI (mz_free nv (A m_way v) (A m_homes) k))) ∧ I = I' ∧ A = A') := by
  refine Cm.of (by decide) (Nat.le_of_ble_eq_true rfl) rfl ?_
  show V G MX8_isFree (am_R 0 0 0 0) _ 0 0 0 [(0, .ref mM), (1, .int (nI v)), (2, .int k)] [] (hp I A)
  refine V.iconst (v := nI 1) (by decide) dX8_isFree_0 ?_
  refine V.istore_n (ls' := [(0, .ref mM), (1, .int (nI v)), (2, .int k), (3, .int (nI 1))]) dX8_isFree_1 (by decide) rfl ?_
  refine V.iconst (v := nI 0) (by decide) dX8_isFree_2 ?_
  refine V.istore (ls' := [(0, .ref mM), (1, .int (nI v)), (2, .int k), (3, .int (nI 1)), (4, .int (nI 0))]) dX8_isFree_3 (by decide) rfl ?_
  refine V.lse (ls' := [(0, .ref mM), (1, .int (nI v)), (2, .int k), (3, .int (bI (∀ t, t < 0 → ((A m_way v >>> (nI t &&& 31)) &&& nI 1) = 0 ∨ ¬ A m_homes t = k))), (4, .int (nI 0))]) (by rw [← bI_1 (c := ∀ t, t < 0 → _) (fun t ht => absurd ht (Nat.not_lt_zero t))]) ?_
  refine ml_isFree I A nv hn hnv v hv k nv 0 (by omega) ?_
  refine V.iload_n (j := 3) rfl dX8_isFree_55 ?_
  refine V.rz dX8_isFree_56 rfl (bI_bz _) ?_
  exact ⟨rfl, rfl, rfl⟩
set_option maxRecDepth 100000 in
set_option maxHeartbeats 4000000 in
theorem ml_isJoined {G : am_G} {Fn : Array Value → State → List Frame → State → Prop} (I A : Nat → Nat → Int32) (ns : Nat) (hs : I mM 2 = nI ns) (hns : ns ≤ 60) (v u : Nat) : ∀ (m : Nat) (i : Nat), i + m = ns → V G MX8_isJoined (am_R 0 0 0 0) Fn 0 0 85 [(0, .ref mM), (1, .int (nI v)), (2, .int (nI u)), (3, .int (bI (∃ t, t < ns ∧ mz_jn (A m_ops) (A m_first) (A m_second) (nI v) (nI u) t)))] [] (hp I A) → V G MX8_isJoined (am_R 0 0 0 0) Fn 0 0 5 [(0, .ref mM), (1, .int (nI v)), (2, .int (nI u)), (3, .int (bI (∃ t, t < i ∧ mz_jn (A m_ops) (A m_first) (A m_second) (nI v) (nI u) t))), (4, .int (nI i))] [] (hp I A) := by
  intro m
  induction m with
  | zero =>
    intro i hi0 hk
    obtain rfl : ns = i := by omega
    refine V.iload (j := 4) rfl dX8_isJoined_5 ?_
    refine V.aload_n (j := 0) rfl dX8_isJoined_7 ?_
    refine V.geti (v := nI ns) dX8_isJoined_8 fX8_95 rfl rfl hs ?_
    refine V.icmp_geN (tgt := 85) dX8_isJoined_11 (by decide) (by omega) (by omega) (fun c1 => ?_) (fun c1 => ?_)
    · refine V.fewer [0, 1, 2, 3] rfl ?_
      exact hk
    · exact absurd c1 (by omega)
  | succ m ih =>
    intro i hi0 hk
    refine V.iload (j := 4) rfl dX8_isJoined_5 ?_
    refine V.aload_n (j := 0) rfl dX8_isJoined_7 ?_
    refine V.geti (v := nI ns) dX8_isJoined_8 fX8_95 rfl rfl hs ?_
    refine V.icmp_geN (tgt := 85) dX8_isJoined_11 (by decide) (by omega) (by omega) (fun c2 => ?_) (fun c2 => ?_)
    · exact absurd c2 (by omega)
    · refine V.iload_n (j := 3) rfl dX8_isJoined_14 ?_
      have K3 : V G MX8_isJoined (am_R 0 0 0 0) Fn 0 0 78 [(0, .ref mM), (1, .int (nI v)), (2, .int (nI u)), (3, .int (bI (∃ t, t < i ∧ mz_jn (A m_ops) (A m_first) (A m_second) (nI v) (nI u) t))), (4, .int (nI i))] [.int (bI (∃ t, t < i + 1 ∧ mz_jn (A m_ops) (A m_first) (A m_second) (nI v) (nI u) t))] (hp I A) := by
        refine V.istore_n (ls' := [(0, .ref mM), (1, .int (nI v)), (2, .int (nI u)), (3, .int (bI (∃ t, t < i + 1 ∧ mz_jn (A m_ops) (A m_first) (A m_second) (nI v) (nI u) t))), (4, .int (nI i))]) dX8_isJoined_78 (by decide) rfl ?_
        refine V.iincN (ls' := [(0, .ref mM), (1, .int (nI v)), (2, .int (nI u)), (3, .int (bI (∃ t, t < i + 1 ∧ mz_jn (A m_ops) (A m_first) (A m_second) (nI v) (nI u) t))), (4, .int (nI (i + 1)))]) dX8_isJoined_79 (j := 4) rfl (by decide) rfl ?_
        refine V.goto (tgt := 5) dX8_isJoined_82 (by decide) ?_
        exact ih (i + 1) (by omega) hk
      refine V.if_ne (tgt := 73) dX8_isJoined_15 (by decide) (fun c4 => ?_) (fun c4 => ?_)
      · refine V.iconst (v := nI 1) (by decide) dX8_isJoined_73 ?_
        refine V.goto (tgt := 78) dX8_isJoined_74 (by decide) ?_
        exact V.st (congrArg (fun x => [Value.int x]) (bI_1 (by obtain ⟨t, h1, h2⟩ := bI_nz c4; exact ⟨t, by omega, h2⟩))) K3
      · refine V.aload_n (j := 0) rfl dX8_isJoined_18 ?_
        refine V.getr (q := m_ops) dX8_isJoined_19 fX8_13 rfl rfl ?_
        refine V.iload (j := 4) rfl dX8_isJoined_22 ?_
        refine V.lda (v := A m_ops i) dX8_isJoined_24 rfl (by omega) (by decide) rfl ?_
        refine V.iconst (v := nI 1) (by decide) dX8_isJoined_25 ?_
        refine V.icmp_ne (tgt := 77) dX8_isJoined_26 (by decide) (fun c5 => ?_) (fun c5 => ?_)
        · refine V.iconst (v := nI 0) (by decide) dX8_isJoined_77 ?_
          exact V.st (congrArg (fun x => [Value.int x]) (bI_0 (ex_no (bI_z c4) (fun y => c5 y.1)))) K3
        · refine V.aload_n (j := 0) rfl dX8_isJoined_29 ?_
          refine V.getr (q := m_first) dX8_isJoined_30 fX8_16 rfl rfl ?_
          refine V.iload (j := 4) rfl dX8_isJoined_33 ?_
          refine V.lda (v := A m_first i) dX8_isJoined_35 rfl (by omega) (by decide) rfl ?_
          refine V.iload_n (j := 1) rfl dX8_isJoined_36 ?_
          refine V.icmp_ne (tgt := 51) dX8_isJoined_37 (by decide) (fun c6 => ?_) (fun c6 => ?_)
          · refine V.aload_n (j := 0) rfl dX8_isJoined_51 ?_
            refine V.getr (q := m_first) dX8_isJoined_52 fX8_16 rfl rfl ?_
            refine V.iload (j := 4) rfl dX8_isJoined_55 ?_
            refine V.lda (v := A m_first i) dX8_isJoined_57 rfl (by omega) (by decide) rfl ?_
            refine V.iload_n (j := 2) rfl dX8_isJoined_58 ?_
            refine V.icmp_ne (tgt := 77) dX8_isJoined_59 (by decide) (fun c7 => ?_) (fun c7 => ?_)
            · refine V.iconst (v := nI 0) (by decide) dX8_isJoined_77 ?_
              exact V.st (congrArg (fun x => [Value.int x]) (bI_0 (ex_no (bI_z c4) (fun y => y.2.elim (fun y => c6 y.1) (fun y => c7 y.1))))) K3
            · refine V.aload_n (j := 0) rfl dX8_isJoined_62 ?_
              refine V.getr (q := m_second) dX8_isJoined_63 fX8_19 rfl rfl ?_
              refine V.iload (j := 4) rfl dX8_isJoined_66 ?_
              refine V.lda (v := A m_second i) dX8_isJoined_68 rfl (by omega) (by decide) rfl ?_
              refine V.iload_n (j := 1) rfl dX8_isJoined_69 ?_
              refine V.icmp_ne (tgt := 77) dX8_isJoined_70 (by decide) (fun c8 => ?_) (fun c8 => ?_)
              · refine V.iconst (v := nI 0) (by decide) dX8_isJoined_77 ?_
                exact V.st (congrArg (fun x => [Value.int x]) (bI_0 (ex_no (bI_z c4) (fun y => y.2.elim (fun y => c6 y.1) (fun y => c8 y.2))))) K3
              · refine V.iconst (v := nI 1) (by decide) dX8_isJoined_73 ?_
                refine V.goto (tgt := 78) dX8_isJoined_74 (by decide) ?_
                exact V.st (congrArg (fun x => [Value.int x]) (bI_1 ⟨i, by omega, ⟨c5, Or.inr ⟨c7, c8⟩⟩⟩)) K3
          · refine V.aload_n (j := 0) rfl dX8_isJoined_40 ?_
            refine V.getr (q := m_second) dX8_isJoined_41 fX8_19 rfl rfl ?_
            refine V.iload (j := 4) rfl dX8_isJoined_44 ?_
            refine V.lda (v := A m_second i) dX8_isJoined_46 rfl (by omega) (by decide) rfl ?_
            refine V.iload_n (j := 2) rfl dX8_isJoined_47 ?_
            refine V.icmp_eq (tgt := 73) dX8_isJoined_48 (by decide) (fun c9 => ?_) (fun c9 => ?_)
            · refine V.iconst (v := nI 1) (by decide) dX8_isJoined_73 ?_
              refine V.goto (tgt := 78) dX8_isJoined_74 (by decide) ?_
              exact V.st (congrArg (fun x => [Value.int x]) (bI_1 ⟨i, by omega, ⟨c5, Or.inl ⟨c6, c9⟩⟩⟩)) K3
            · refine V.aload_n (j := 0) rfl dX8_isJoined_51 ?_
              refine V.getr (q := m_first) dX8_isJoined_52 fX8_16 rfl rfl ?_
              refine V.iload (j := 4) rfl dX8_isJoined_55 ?_
              refine V.lda (v := A m_first i) dX8_isJoined_57 rfl (by omega) (by decide) rfl ?_
              refine V.iload_n (j := 2) rfl dX8_isJoined_58 ?_
              refine V.icmp_ne (tgt := 77) dX8_isJoined_59 (by decide) (fun c10 => ?_) (fun c10 => ?_)
              · refine V.iconst (v := nI 0) (by decide) dX8_isJoined_77 ?_
                exact V.st (congrArg (fun x => [Value.int x]) (bI_0 (ex_no (bI_z c4) (fun y => y.2.elim (fun y => c9 y.2) (fun y => c10 y.1))))) K3
              · refine V.aload_n (j := 0) rfl dX8_isJoined_62 ?_
                refine V.getr (q := m_second) dX8_isJoined_63 fX8_19 rfl rfl ?_
                refine V.iload (j := 4) rfl dX8_isJoined_66 ?_
                refine V.lda (v := A m_second i) dX8_isJoined_68 rfl (by omega) (by decide) rfl ?_
                refine V.iload_n (j := 1) rfl dX8_isJoined_69 ?_
                refine V.icmp_ne (tgt := 77) dX8_isJoined_70 (by decide) (fun c11 => ?_) (fun c11 => ?_)
                · refine V.iconst (v := nI 0) (by decide) dX8_isJoined_77 ?_
                  exact V.st (congrArg (fun x => [Value.int x]) (bI_0 (ex_no (bI_z c4) (fun y => y.2.elim (fun y => c9 y.2) (fun y => c11 y.2))))) K3
                · refine V.iconst (v := nI 1) (by decide) dX8_isJoined_73 ?_
                  refine V.goto (tgt := 78) dX8_isJoined_74 (by decide) ?_
                  exact V.st (congrArg (fun x => [Value.int x]) (bI_1 ⟨i, by omega, ⟨c5, Or.inr ⟨c10, c11⟩⟩⟩)) K3
set_option maxRecDepth 100000 in
set_option maxHeartbeats 4000000 in
theorem md_isJoined {G : am_G} (I A : Nat → Nat → Int32) (ns : Nat) (hs : I mM 2 = nI ns) (hns : ns ≤ 60) (v u : Nat) : Cm G MX8_isJoined 0 0 [.ref mM, .int (nI v), .int (nI u)] I A (fun r I' A' => r = some (.int (bI (mz_joined ns (A m_ops) (A m_first) (A m_second) (nI v) (nI u)))) ∧ I = I' ∧ A = A') := by
  refine Cm.of (by decide) (Nat.le_of_ble_eq_true rfl) rfl ?_
  show V G MX8_isJoined (am_R 0 0 0 0) _ 0 0 0 [(0, .ref mM), (1, .int (nI v)), (2, .int (nI u))] [] (hp I A)
  refine V.iconst (v := nI 0) (by decide) dX8_isJoined_0 ?_
  refine V.istore_n (ls' := [(0, .ref mM), (1, .int (nI v)), (2, .int (nI u)), (3, .int (nI 0))]) dX8_isJoined_1 (by decide) rfl ?_
  refine V.iconst (v := nI 0) (by decide) dX8_isJoined_2 ?_
  refine V.istore (ls' := [(0, .ref mM), (1, .int (nI v)), (2, .int (nI u)), (3, .int (nI 0)), (4, .int (nI 0))]) dX8_isJoined_3 (by decide) rfl ?_
  refine V.lse (ls' := [(0, .ref mM), (1, .int (nI v)), (2, .int (nI u)), (3, .int (bI (∃ t, t < 0 ∧ mz_jn (A m_ops) (A m_first) (A m_second) (nI v) (nI u) t))), (4, .int (nI 0))]) (by rw [← bI_0 (c := ∃ t, t < 0 ∧ _) (fun z => by obtain ⟨t, h1, h2⟩ := z; omega)]) ?_
  refine ml_isJoined I A ns hs hns v u ns 0 (by omega) ?_
  refine V.iload_n (j := 3) rfl dX8_isJoined_85 ?_
  refine V.rz dX8_isJoined_86 rfl (bI_bz _) ?_
  exact ⟨rfl, rfl, rfl⟩
