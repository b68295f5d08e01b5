theorem mz_FA_5 {A : Nat → Nat → Int32} {g f : Nat → Int32} {F1 F2 : mz_FS} : mz_FA (upA (mz_FA A g F1) m_firstItem f) g F2 = upA (mz_FA A g F2) m_firstItem f := by
  funext b
  by_cases h1 : b = m_items
  · subst h1; rfl
  · by_cases h2 : b = m_code
    · subst h2; rfl
    · by_cases h3 : b = m_into
      · subst h3; rfl
      · by_cases h4 : b = m_fetches
        · subst h4; rfl
        · by_cases h5 : b = m_firstItem
          · subst h5; rfl
          · simp [mz_FA, upA, h1, h2, h3, h4, h5]
theorem mz_mk_le {op fa fb fc cl hm fe it c : Nat → Int32} {s n : Nat} : (mz_mk op fa fb fc cl hm s fe it c n).2 ≤ n + 4 := by
  by_cases h : mz_ndl op fa fb cl hm s
  · rw [mz_mk_t h]; exact Nat.le_add_right _ _
  · rw [mz_mk_f h]
    have h1 := (mz_f2_le (op := op) (fa := fa) (fb := fb) (fc := fc) (cl := cl) (hm := hm) (s := s) (F := (0, fe, it, c, n))).2
    dsimp only at h1
    unfold mz_mkN mz_kp
    split
    · dsimp only; omega
    · split
      · dsimp only; omega
      · dsimp only; omega
/-- the steps' items, one step after another: the code, how many items, where each step begins -/
noncomputable def mz_cds (op fa fb fc cl hm : Nat → Int32) : Nat → Nat → (Nat → Int32) → (Nat → Int32) → (Nat → Int32) → Nat → (Nat → Int32) → (Nat → Int32) → Nat → (Nat → Int32) → Prop
  | 0, _, _, _, c, n, f, c', n', f' => c' = c ∧ n' = n ∧ f' = f
  | m + 1, s, fe, it, c, n, f, c', n', f' => ∃ fe' it', mz_cds op fa fb fc cl hm m (s + 1) fe' it' (mz_mk op fa fb fc cl hm s fe it c n).1 (mz_mk op fa fb fc cl hm s fe it c n).2 (upd f s (nI n)) c' n' f'
set_option maxRecDepth 100000 in
set_option maxHeartbeats 4000000 in
theorem ml_make1 {G : am_G} {Fn : Array Value → State → List Frame → State → Prop} (I A : Nat → Nat → Int32) (nv ns : Nat) (hs : I mM 2 = nI ns) (hns : ns ≤ 60) (hnv : nv ≤ 24) (hsw : ∀ s, s < ns → mz_sw nv (A m_ops s) (A m_first s) (A m_second s) (A m_third s)) (g : Nat → Int32) : ∀ (m : Nat) (s : Nat) (z : Int32) (fe : Nat → Int32) (it : Nat → Int32) (c : Nat → Int32) (n : Nat) (f : Nat → Int32), s + m = ns → n ≤ 4 * s → (∀ z' fe' it' c' n' f', mz_cds (A m_ops) (A m_first) (A m_second) (A m_third) (A m_classes) (A m_homes) m s fe it c n f c' n' f' → n' ≤ 4 * ns → V G MX8_makeCode (am_R 4 95 0 0) Fn 0 0 44 [(0, .ref mM)] [] (hp (upI I mM 25 z') (upA (mz_FA A g (0, fe', it', c', n')) m_firstItem f'))) → V G MX8_makeCode (am_R 4 95 0 0) Fn 0 0 13 [(0, .ref mM), (1, .int (nI s))] [] (hp (upI I mM 25 (z)) (upA (upA (upA (upA (upA A m_fetches (fe)) m_into (it)) m_code (c)) m_items (upd g 0 (nI n))) m_firstItem (f))) := by
  intro m
  induction m with
  | zero =>
    intro s z fe it c n f hi0 hi1 hk
    refine V.iload_n (j := 1) rfl dX8_makeCode_13 ?_
    refine V.aload_n (j := 0) rfl dX8_makeCode_14 ?_
    refine V.geti (v := nI ns) dX8_makeCode_15 fX8_95 rfl rfl hs ?_
    refine V.icmp_geN (tgt := 44) dX8_makeCode_18 (by decide) (by omega) (by omega) (fun c1 => ?_) (fun c1 => ?_)
    · refine V.fewer [0] rfl ?_
      exact hk z fe it c n f ⟨rfl, rfl, rfl⟩ (by omega)
    · exact absurd c1 (by omega)
  | succ m ih =>
    intro s z fe it c n f hi0 hi1 hk
    refine V.iload_n (j := 1) rfl dX8_makeCode_13 ?_
    refine V.aload_n (j := 0) rfl dX8_makeCode_14 ?_
    refine V.geti (v := nI ns) dX8_makeCode_15 fX8_95 rfl rfl hs ?_
    refine V.icmp_geN (tgt := 44) dX8_makeCode_18 (by decide) (by omega) (by omega) (fun c2 => ?_) (fun c2 => ?_)
    · exact absurd c2 (by omega)
    · refine V.aload_n (j := 0) rfl dX8_makeCode_21 ?_
      refine V.getr (q := m_firstItem) dX8_makeCode_22 fX8_55 rfl rfl ?_
      refine V.iload_n (j := 1) rfl dX8_makeCode_25 ?_
      refine V.aload_n (j := 0) rfl dX8_makeCode_26 ?_
      refine V.getr (q := m_items) dX8_makeCode_27 fX8_52 rfl rfl ?_
      refine V.iconst (v := nI 0) (by decide) dX8_makeCode_30 ?_
      refine V.lda (v := (upd g 0 (nI n)) 0) dX8_makeCode_31 rfl (by decide) (by decide) rfl ?_
      refine V.st (st' := [.int (nI n), .int (nI s), .ref m_firstItem]) rfl ?_
      refine V.sta (g := upd f s (nI n)) dX8_makeCode_32 rfl (by omega) (by decide) rfl ?_
      refine V.hpe (A' := (upA (upA (upA (upA (upA A m_fetches (fe)) m_into (it)) m_code (c)) m_items (upd g 0 (nI n))) m_firstItem (upd f s (nI n)))) rfl upA_u ?_
      refine V.aload_n (j := 0) rfl dX8_makeCode_33 ?_
      refine V.iload_n (j := 1) rfl dX8_makeCode_34 ?_
      refine V.cV (As := [.int (nI s)]) (st := []) dX8_makeCode_35 sX8_150 iX8_makeStep lX8_makeStep rfl rfl (md_makeStep (upI I mM 25 (z)) (upA (upA (upA (upA (upA A m_fetches (fe)) m_into (it)) m_code (c)) m_items (upd g 0 (nI n))) m_firstItem (upd f s (nI n))) nv hnv s (by omega) (hsw s (by omega)) g n rfl (by omega)) ⟨by decide, by decide⟩ (Nat.le_of_ble_eq_true rfl) rfl (fun r I' A' hq => ?_)
      obtain ⟨rfl, z', fe', it', rfl, rfl⟩ := hq
      refine V.st (st' := []) rfl ?_
      refine V.hpe (I' := (upI I mM 25 (z'))) (A' := (upA (upA (upA (upA (upA A m_fetches (fe')) m_into (it')) m_code ((mz_mk (A m_ops) (A m_first) (A m_second) (A m_third) (A m_classes) (A m_homes) s fe it c n).1)) m_items (upd g 0 (nI (mz_mk (A m_ops) (A m_first) (A m_second) (A m_third) (A m_classes) (A m_homes) s fe it c n).2))) m_firstItem (upd f s (nI n)))) upI_u (mz_FA_5 (A := A) (g := g) (f := upd f s (nI n)) (F1 := (0, fe, it, c, n)) (F2 := (0, fe', it', (mz_mk (A m_ops) (A m_first) (A m_second) (A m_third) (A m_classes) (A m_homes) s fe it c n).1, (mz_mk (A m_ops) (A m_first) (A m_second) (A m_third) (A m_classes) (A m_homes) s fe it c n).2))) ?_
      refine V.iincN (ls' := [(0, .ref mM), (1, .int (nI (s + 1)))]) dX8_makeCode_38 (j := 1) rfl (by decide) rfl ?_
      refine V.goto (tgt := 13) dX8_makeCode_41 (by decide) ?_
      have hle := mz_mk_le (op := A m_ops) (fa := A m_first) (fb := A m_second) (fc := A m_third) (cl := A m_classes) (hm := A m_homes) (fe := fe) (it := it) (c := c) (s := s) (n := n)
      exact ih (s + 1) _ _ _ _ _ _ (by omega) (by omega) (fun z2 fe2 it2 c2 n2 f2 q => hk z2 fe2 it2 c2 n2 f2 ⟨_, _, q⟩)
abbrev mz_of0 (c : Nat → Int32) (k : Nat) : Nat := if c (4 * k) = nI 7 then 3 else 1
/-- an item that leads to a step leads to its first item -/
def mz_rt (ns n : Nat) (f c : Nat → Int32) (k : Nat) : Nat → Int32 := if c (4 * k) = nI 7 ∨ c (4 * k) = nI 8 then upd c (4 * k + mz_of0 c k) (if nI ns ≤ c (4 * k + mz_of0 c k) then nI n else f (c (4 * k + mz_of0 c k)).toNatClampNeg) else c
def mz_rts (ns n : Nat) (f : Nat → Int32) : Nat → Nat → (Nat → Int32) → Nat → Int32
  | 0, _, c => c
  | m + 1, k, c => mz_rts ns n f m (k + 1) (mz_rt ns n f c k)
def mz_tok (c : Nat → Int32) (k : Nat) : Prop := c (4 * k) = nI 7 ∨ c (4 * k) = nI 8 → ∃ x, x ≤ 60 ∧ c (4 * k + mz_of0 c k) = nI x
theorem mz_tok_rt {ns n i k : Nat} {f c : Nat → Int32} (h : mz_tok c k) (hik : i < k) : mz_tok (mz_rt ns n f c i) k := by
  have ho : mz_of0 c i ≤ 3 := by unfold mz_of0; split <;> omega
  have key : ∀ j, 4 * k ≤ j → mz_rt ns n f c i j = c j := by
    intro j hj
    unfold mz_rt
    split
    · simp [upd, show ¬ j = 4 * i + mz_of0 c i by omega]
    · rfl
  have e : mz_of0 (mz_rt ns n f c i) k = mz_of0 c k := by
    unfold mz_of0
    rw [key (4 * k) (Nat.le_refl _)]
  unfold mz_tok
  rw [key (4 * k) (Nat.le_refl _), e, key (4 * k + mz_of0 c k) (Nat.le_add_right _ _)]
  exact h
set_option maxRecDepth 100000 in
set_option maxHeartbeats 4000000 in
theorem ml_make2 {G : am_G} {Fn : Array Value → State → List Frame → State → Prop} (I A : Nat → Nat → Int32) (ns : Nat) (hs : I mM 2 = nI ns) (hns : ns ≤ 60) (n : Nat) (hn : A m_items 0 = nI n) (hn4 : n < 390) : ∀ (m : Nat) (k : Nat) (c : Nat → Int32), k + m = n → (∀ j, k ≤ j → j < n → mz_tok c j) → V G MX8_makeCode (am_R 4 95 0 0) Fn 0 0 150 [(0, .ref mM)] [] (hp I (upA A m_code (mz_rts ns n (A m_firstItem) m k c))) → V G MX8_makeCode (am_R 4 95 0 0) Fn 0 0 46 [(0, .ref mM), (1, .int (nI k))] [] (hp I (upA A m_code (c))) := by
  intro m
  induction m with
  | zero =>
    intro k c hi0 hi1 hk
    refine V.iload_n (j := 1) rfl dX8_makeCode_46 ?_
    refine V.aload_n (j := 0) rfl dX8_makeCode_47 ?_
    refine V.getr (q := m_items) dX8_makeCode_48 fX8_52 rfl rfl ?_
    refine V.iconst (v := nI 0) (by decide) dX8_makeCode_51 ?_
    refine V.lda (v := nI n) dX8_makeCode_52 rfl (by decide) (by decide) hn ?_
    refine V.icmp_geN (tgt := 150) dX8_makeCode_53 (by decide) (by omega) (by omega) (fun c1 => ?_) (fun c1 => ?_)
    · refine V.fewer [0] rfl ?_
      exact hk
    · exact absurd c1 (by omega)
  | succ m ih =>
    intro k c hi0 hi1 hk
    refine V.iload_n (j := 1) rfl dX8_makeCode_46 ?_
    refine V.aload_n (j := 0) rfl dX8_makeCode_47 ?_
    refine V.getr (q := m_items) dX8_makeCode_48 fX8_52 rfl rfl ?_
    refine V.iconst (v := nI 0) (by decide) dX8_makeCode_51 ?_
    refine V.lda (v := nI n) dX8_makeCode_52 rfl (by decide) (by decide) hn ?_
    refine V.icmp_geN (tgt := 150) dX8_makeCode_53 (by decide) (by omega) (by omega) (fun c2 => ?_) (fun c2 => ?_)
    · exact absurd c2 (by omega)
    · refine V.iconst (v := nI 4) (by decide) dX8_makeCode_56 ?_
      refine V.iload_n (j := 1) rfl dX8_makeCode_57 ?_
      refine V.imulN dX8_makeCode_58 ?_
      refine V.aload_n (j := 0) rfl dX8_makeCode_59 ?_
      refine V.getr (q := m_code) dX8_makeCode_60 fX8_49 rfl rfl ?_
      refine V.iconst (v := nI 4) (by decide) dX8_makeCode_63 ?_
      refine V.iload_n (j := 1) rfl dX8_makeCode_64 ?_
      refine V.imulN dX8_makeCode_65 ?_
      refine V.lda (v := c (4 * k)) dX8_makeCode_66 rfl (by omega) (by decide) rfl ?_
      refine V.bipush (v := nI 7) (by decide) dX8_makeCode_67 ?_
      have K3 : V G MX8_makeCode (am_R 4 95 0 0) Fn 0 0 77 [(0, .ref mM), (1, .int (nI k))] [.int (nI (mz_of0 c k)), .int (nI (4 * k))] (hp I (upA A m_code (c))) := by
        have hoff : mz_of0 c k ≤ 3 := by unfold mz_of0; split <;> omega
        refine V.iaddN dX8_makeCode_77 ?_
        refine V.istore_n (ls' := [(0, .ref mM), (1, .int (nI k)), (2, .int (nI ((4 * k) + (mz_of0 c k))))]) dX8_makeCode_78 (by decide) rfl ?_
        have K4 : V G MX8_makeCode (am_R 4 95 0 0) Fn 0 0 144 [(0, .ref mM), (1, .int (nI k)), (2, .int (nI ((4 * k) + (mz_of0 c k))))] [] (hp I (upA A m_code (mz_rt ns n (A m_firstItem) c k))) := by
          refine V.iincN (ls' := [(0, .ref mM), (1, .int (nI (k + 1))), (2, .int (nI ((4 * k) + (mz_of0 c k))))]) dX8_makeCode_144 (j := 1) rfl (by decide) rfl ?_
          refine V.goto (tgt := 46) dX8_makeCode_147 (by decide) ?_
          refine V.fewer [0, 1] rfl ?_
          exact ih (k + 1) _ (by omega) (fun j h1 h2 => mz_tok_rt (hi1 j (by omega) h2) (by omega)) hk
        refine V.aload_n (j := 0) rfl dX8_makeCode_79 ?_
        refine V.getr (q := m_code) dX8_makeCode_80 fX8_49 rfl rfl ?_
        refine V.iconst (v := nI 4) (by decide) dX8_makeCode_83 ?_
        refine V.iload_n (j := 1) rfl dX8_makeCode_84 ?_
        refine V.imulN dX8_makeCode_85 ?_
        refine V.lda (v := c (4 * k)) dX8_makeCode_86 rfl (by omega) (by decide) rfl ?_
        refine V.bipush (v := nI 7) (by decide) dX8_makeCode_87 ?_
        refine V.icmp_eq (tgt := 105) dX8_makeCode_89 (by decide) (fun c5 => ?_) (fun c5 => ?_)
        · obtain ⟨x, hx, ex⟩ := hi1 k (Nat.le_refl _) (by omega) (Or.inl c5)
          refine V.aload_n (j := 0) rfl dX8_makeCode_105 ?_
          refine V.getr (q := m_code) dX8_makeCode_106 fX8_49 rfl rfl ?_
          refine V.iload_n (j := 2) rfl dX8_makeCode_109 ?_
          refine V.aload_n (j := 0) rfl dX8_makeCode_110 ?_
          refine V.getr (q := m_code) dX8_makeCode_111 fX8_49 rfl rfl ?_
          refine V.iload_n (j := 2) rfl dX8_makeCode_114 ?_
          refine V.lda (v := c ((4 * k) + (mz_of0 c k))) dX8_makeCode_115 rfl (by omega) (by decide) rfl ?_
          refine V.aload_n (j := 0) rfl dX8_makeCode_116 ?_
          refine V.geti (v := nI ns) dX8_makeCode_117 fX8_95 rfl rfl hs ?_
          have K6 : V G MX8_makeCode (am_R 4 95 0 0) Fn 0 0 143 [(0, .ref mM), (1, .int (nI k)), (2, .int (nI ((4 * k) + (mz_of0 c k))))] [.int (if nI ns ≤ c (4 * k + mz_of0 c k) then nI n else (A m_firstItem) (c (4 * k + mz_of0 c k)).toNatClampNeg), .int (nI ((4 * k) + (mz_of0 c k))), .ref m_code] (hp I (upA A m_code (c))) := by
            refine V.sta (g := upd c ((4 * k) + (mz_of0 c k)) (if nI ns ≤ c (4 * k + mz_of0 c k) then nI n else (A m_firstItem) (c (4 * k + mz_of0 c k)).toNatClampNeg)) dX8_makeCode_143 rfl (by omega) (by decide) rfl ?_
            refine V.hpe (A' := (upA A m_code (upd c ((4 * k) + (mz_of0 c k)) (if nI ns ≤ c (4 * k + mz_of0 c k) then nI n else (A m_firstItem) (c (4 * k + mz_of0 c k)).toNatClampNeg)))) rfl upA_u ?_
            exact V.hpe rfl (congrArg (upA A m_code) (show _ = mz_rt ns n (A m_firstItem) c k from (if_pos (Or.inl c5)).symm)) K4
          refine V.icmp_ge (tgt := 137) dX8_makeCode_120 (by decide) (fun c7 => ?_) (fun c7 => ?_)
          · refine V.aload_n (j := 0) rfl dX8_makeCode_137 ?_
            refine V.getr (q := m_items) dX8_makeCode_138 fX8_52 rfl rfl ?_
            refine V.iconst (v := nI 0) (by decide) dX8_makeCode_141 ?_
            refine V.lda (v := nI n) dX8_makeCode_142 rfl (by decide) (by decide) hn ?_
            exact V.st (by rw [if_pos c7]) K6
          · refine V.aload_n (j := 0) rfl dX8_makeCode_123 ?_
            refine V.getr (q := m_firstItem) dX8_makeCode_124 fX8_55 rfl rfl ?_
            refine V.aload_n (j := 0) rfl dX8_makeCode_127 ?_
            refine V.getr (q := m_code) dX8_makeCode_128 fX8_49 rfl rfl ?_
            refine V.iload_n (j := 2) rfl dX8_makeCode_131 ?_
            refine V.lda (v := c ((4 * k) + (mz_of0 c k))) dX8_makeCode_132 rfl (by omega) (by decide) rfl ?_
            refine V.st (st' := [.int (nI x), .ref m_firstItem, .int (nI ((4 * k) + (mz_of0 c k))), .ref m_code]) (by rw [ex]) ?_
            refine V.lda (v := A m_firstItem x) dX8_makeCode_133 rfl (by omega) (by decide) rfl ?_
            refine V.st (st' := [.int ((A m_firstItem) (c (4 * k + mz_of0 c k)).toNatClampNeg), .int (nI ((4 * k) + (mz_of0 c k))), .ref m_code]) (by rw [ex, nI_clamp (by omega)]) ?_
            refine V.goto (tgt := 143) dX8_makeCode_134 (by decide) ?_
            exact V.st (by rw [if_neg c7]) K6
        · refine V.aload_n (j := 0) rfl dX8_makeCode_92 ?_
          refine V.getr (q := m_code) dX8_makeCode_93 fX8_49 rfl rfl ?_
          refine V.iconst (v := nI 4) (by decide) dX8_makeCode_96 ?_
          refine V.iload_n (j := 1) rfl dX8_makeCode_97 ?_
          refine V.imulN dX8_makeCode_98 ?_
          refine V.lda (v := c (4 * k)) dX8_makeCode_99 rfl (by omega) (by decide) rfl ?_
          refine V.bipush (v := nI 8) (by decide) dX8_makeCode_100 ?_
          refine V.icmp_ne (tgt := 144) dX8_makeCode_102 (by decide) (fun c8 => ?_) (fun c8 => ?_)
          · exact V.hpe rfl (congrArg (upA A m_code) (show _ = mz_rt ns n (A m_firstItem) c k from (if_neg (fun z => z.elim c5 c8)).symm)) K4
          · obtain ⟨x, hx, ex⟩ := hi1 k (Nat.le_refl _) (by omega) (Or.inr c8)
            refine V.aload_n (j := 0) rfl dX8_makeCode_105 ?_
            refine V.getr (q := m_code) dX8_makeCode_106 fX8_49 rfl rfl ?_
            refine V.iload_n (j := 2) rfl dX8_makeCode_109 ?_
            refine V.aload_n (j := 0) rfl dX8_makeCode_110 ?_
            refine V.getr (q := m_code) dX8_makeCode_111 fX8_49 rfl rfl ?_
            refine V.iload_n (j := 2) rfl dX8_makeCode_114 ?_
            refine V.lda (v := c ((4 * k) + (mz_of0 c k))) dX8_makeCode_115 rfl (by omega) (by decide) rfl ?_
            refine V.aload_n (j := 0) rfl dX8_makeCode_116 ?_
            refine V.geti (v := nI ns) dX8_makeCode_117 fX8_95 rfl rfl hs ?_
            have K9 : V G MX8_makeCode (am_R 4 95 0 0) Fn 0 0 143 [(0, .ref mM), (1, .int (nI k)), (2, .int (nI ((4 * k) + (mz_of0 c k))))] [.int (if nI ns ≤ c (4 * k + mz_of0 c k) then nI n else (A m_firstItem) (c (4 * k + mz_of0 c k)).toNatClampNeg), .int (nI ((4 * k) + (mz_of0 c k))), .ref m_code] (hp I (upA A m_code (c))) := by
              refine V.sta (g := upd c ((4 * k) + (mz_of0 c k)) (if nI ns ≤ c (4 * k + mz_of0 c k) then nI n else (A m_firstItem) (c (4 * k + mz_of0 c k)).toNatClampNeg)) dX8_makeCode_143 rfl (by omega) (by decide) rfl ?_
              refine V.hpe (A' := (upA A m_code (upd c ((4 * k) + (mz_of0 c k)) (if nI ns ≤ c (4 * k + mz_of0 c k) then nI n else (A m_firstItem) (c (4 * k + mz_of0 c k)).toNatClampNeg)))) rfl upA_u ?_
              exact V.hpe rfl (congrArg (upA A m_code) (show _ = mz_rt ns n (A m_firstItem) c k from (if_pos (Or.inr c8)).symm)) K4
            refine V.icmp_ge (tgt := 137) dX8_makeCode_120 (by decide) (fun c10 => ?_) (fun c10 => ?_)
            · refine V.aload_n (j := 0) rfl dX8_makeCode_137 ?_
              refine V.getr (q := m_items) dX8_makeCode_138 fX8_52 rfl rfl ?_
              refine V.iconst (v := nI 0) (by decide) dX8_makeCode_141 ?_
              refine V.lda (v := nI n) dX8_makeCode_142 rfl (by decide) (by decide) hn ?_
              exact V.st (by rw [if_pos c10]) K9
            · refine V.aload_n (j := 0) rfl dX8_makeCode_123 ?_
              refine V.getr (q := m_firstItem) dX8_makeCode_124 fX8_55 rfl rfl ?_
              refine V.aload_n (j := 0) rfl dX8_makeCode_127 ?_
              refine V.getr (q := m_code) dX8_makeCode_128 fX8_49 rfl rfl ?_
              refine V.iload_n (j := 2) rfl dX8_makeCode_131 ?_
              refine V.lda (v := c ((4 * k) + (mz_of0 c k))) dX8_makeCode_132 rfl (by omega) (by decide) rfl ?_
              refine V.st (st' := [.int (nI x), .ref m_firstItem, .int (nI ((4 * k) + (mz_of0 c k))), .ref m_code]) (by rw [ex]) ?_
              refine V.lda (v := A m_firstItem x) dX8_makeCode_133 rfl (by omega) (by decide) rfl ?_
              refine V.st (st' := [.int ((A m_firstItem) (c (4 * k + mz_of0 c k)).toNatClampNeg), .int (nI ((4 * k) + (mz_of0 c k))), .ref m_code]) (by rw [ex, nI_clamp (by omega)]) ?_
              refine V.goto (tgt := 143) dX8_makeCode_134 (by decide) ?_
              exact V.st (by rw [if_neg c10]) K9
      refine V.icmp_ne (tgt := 76) dX8_makeCode_69 (by decide) (fun c11 => ?_) (fun c11 => ?_)
      · refine V.iconst (v := nI 1) (by decide) dX8_makeCode_76 ?_
        exact V.st (by rw [show mz_of0 c k = 1 from if_neg c11]) K3
      · refine V.iconst (v := nI 3) (by decide) dX8_makeCode_72 ?_
        refine V.goto (tgt := 77) dX8_makeCode_73 (by decide) ?_
        exact V.st (by rw [show mz_of0 c k = 3 from if_pos c11]) K3
