theorem nI_nm1 {n : Nat} (h : n < 2 ^ 31) : ¬ nI n = (-1) := fun q => by
  have h1 := nI_toInt h
  rw [q] at h1
  have h2 : ((-1 : Int32)).toInt = -1 := by decide
  omega
/-- two values meet: each gets the other's bit -/
noncomputable def mz_wU (c : Prop) (v u : Nat) (w : Nat → Int32) : Nat → Int32 := @ite _ c (Classical.propDecidable c) (upd (upd w v (w v ||| nI 1 <<< (nI u &&& 31))) u ((upd w v (w v ||| nI 1 <<< (nI u &&& 31))) u ||| nI 1 <<< (nI v &&& 31))) w
theorem mz_wU_t {c : Prop} {v u : Nat} {w : Nat → Int32} (h : c) : (upd (upd w v (w v ||| nI 1 <<< (nI u &&& 31))) u ((upd w v (w v ||| nI 1 <<< (nI u &&& 31))) u ||| nI 1 <<< (nI v &&& 31))) = mz_wU c v u w := (if_pos h).symm
theorem mz_wU_f {c : Prop} {v u : Nat} {w : Nat → Int32} (h : ¬ c) : w = mz_wU c v u w := (if_neg h).symm
/-- value u is in v's way by step s -/
def mz_cC (op fb cl bh : Nat → Int32) (s v u : Nat) : Prop := ¬ u = v ∧ cl u = cl v ∧ ((bh s >>> (nI u &&& 31)) &&& nI 1) = nI 1 ∧ ¬ (op s = nI 1 ∧ nI u = fb s)
noncomputable def mz_wL (op fb cl bh : Nat → Int32) (s v : Nat) : Nat → Nat → (Nat → Int32) → Nat → Int32
  | 0, _, w => w
  | m + 1, u, w => mz_wL op fb cl bh s v m (u + 1) (mz_wU (mz_cC op fb cl bh s v u) v u w)
/-- one more at the place that a value tells, if there is one -/
def mz_inc (g : Nat → Int32) (v : Int32) : Nat → Int32 := if v = (-1) then g else upd g v.toNatClampNeg (g v.toNatClampNeg + nI 1)
theorem mz_inc_m {g : Nat → Int32} : mz_inc g (-1) = g := if_pos rfl
theorem mz_inc_n {g : Nat → Int32} {b : Nat} (h : b < 2 ^ 31) : mz_inc g (nI b) = upd g b (g b + nI 1) := by
  unfold mz_inc
  rw [if_neg (nI_nm1 h), nI_clamp h]
noncomputable def mz_mW (nv : Nat) (op fa fb cl bh : Nat → Int32) (s : Nat) (w : Nat → Int32) : Nat → Int32 := if mz_anew op fa s = (-1) then w else mz_wL op fb cl bh s (mz_anew op fa s).toNatClampNeg nv 0 w
def mz_mG (op fa fb fc : Nat → Int32) (s : Nat) (g : Nat → Int32) : Nat → Int32 := mz_inc (mz_inc (mz_inc g (mz_anew op fa s)) (mz_tak0 op fa fb s)) (mz_tak1 op fb fc s)
noncomputable def mz_meetW (nv : Nat) (op fa fb cl bh : Nat → Int32) : Nat → Nat → (Nat → Int32) → Nat → Int32
  | 0, _, w => w
  | m + 1, s, w => mz_meetW nv op fa fb cl bh m (s + 1) (mz_mW nv op fa fb cl bh s w)
def mz_meetG (op fa fb fc : Nat → Int32) : Nat → Nat → (Nat → Int32) → Nat → Int32
  | 0, _, g => g
  | m + 1, s, g => mz_meetG op fa fb fc m (s + 1) (mz_mG op fa fb fc s g)
set_option maxRecDepth 100000 in
set_option maxHeartbeats 4000000 in
theorem ml_meet1 {G : am_G} {Fn : Array Value → State → List Frame → State → Prop} (I A : Nat → Nat → Int32) (nv : Nat) (hn : I mM 0 = nI nv) (hnv : nv ≤ 24) : ∀ (m : Nat) (i : Nat) (f : Nat → Int32) (g : Nat → Int32), i + m = nv → V G MX8_meet (am_R 1 23 0 0) Fn 0 0 30 [(0, .ref mM), (1, .int (nI nv))] [] (hp I (upA (upA A m_way (mz_fill m i f)) m_weights (mz_fill m i g))) → V G MX8_meet (am_R 1 23 0 0) Fn 0 0 2 [(0, .ref mM), (1, .int (nI i))] [] (hp I (upA (upA A m_way (f)) m_weights (g))) := by
  intro m
  induction m with
  | zero =>
    intro i f g hi0 hk
    obtain rfl : nv = i := by omega
    refine V.iload_n (j := 1) rfl dX8_meet_2 ?_
    refine V.aload_n (j := 0) rfl dX8_meet_3 ?_
    refine V.geti (v := nI nv) dX8_meet_4 fX8_79 rfl rfl hn ?_
    refine V.icmp_geN (tgt := 30) dX8_meet_7 (by decide) (by omega) (by omega) (fun c1 => ?_) (fun c1 => ?_)
    · exact hk
    · exact absurd c1 (by omega)
  | succ m ih =>
    intro i f g hi0 hk
    refine V.iload_n (j := 1) rfl dX8_meet_2 ?_
    refine V.aload_n (j := 0) rfl dX8_meet_3 ?_
    refine V.geti (v := nI nv) dX8_meet_4 fX8_79 rfl rfl hn ?_
    refine V.icmp_geN (tgt := 30) dX8_meet_7 (by decide) (by omega) (by omega) (fun c2 => ?_) (fun c2 => ?_)
    · exact absurd c2 (by omega)
    · refine V.aload_n (j := 0) rfl dX8_meet_10 ?_
      refine V.getr (q := m_way) dX8_meet_11 fX8_37 rfl rfl ?_
      refine V.iload_n (j := 1) rfl dX8_meet_14 ?_
      refine V.iconst (v := nI 0) (by decide) dX8_meet_15 ?_
      refine V.sta (g := upd f i (nI 0)) dX8_meet_16 rfl (by omega) (by decide) rfl ?_
      refine V.hpe (A' := (upA (upA A m_way (upd f i (nI 0))) m_weights (g))) rfl (upA_r2 (by decide)) ?_
      refine V.aload_n (j := 0) rfl dX8_meet_17 ?_
      refine V.getr (q := m_weights) dX8_meet_18 fX8_40 rfl rfl ?_
      refine V.iload_n (j := 1) rfl dX8_meet_21 ?_
      refine V.iconst (v := nI 0) (by decide) dX8_meet_22 ?_
      refine V.sta (g := upd g i (nI 0)) dX8_meet_23 rfl (by omega) (by decide) rfl ?_
      refine V.hpe (A' := (upA (upA A m_way (upd f i (nI 0))) m_weights (upd g i (nI 0)))) rfl upA_u ?_
      refine V.iincN (ls' := [(0, .ref mM), (1, .int (nI (i + 1)))]) dX8_meet_24 (j := 1) rfl (by decide) rfl ?_
      refine V.goto (tgt := 2) dX8_meet_27 (by decide) ?_
      exact ih (i + 1) _ _ (by omega) hk
set_option maxRecDepth 100000 in
set_option maxHeartbeats 4000000 in
theorem ml_meet2 {G : am_G} {Fn : Array Value → State → List Frame → State → Prop} (I A : Nat → Nat → Int32) (nv : Nat) (hn : I mM 0 = nI nv) (hnv : nv ≤ 24) (s : Nat) (hss : s < 60) (a : Nat) (ha : a < nv) (g : Nat → Int32) : ∀ (m : Nat) (i : Nat) (f : Nat → Int32), i + m = nv → V G MX8_meet (am_R 1 23 0 0) Fn 0 0 157 [(0, .ref mM), (1, .int (nI s)), (2, .int (nI a))] [] (hp I (upA (upA A m_way (mz_wL (A m_ops) (A m_second) (A m_classes) (A m_behind) s a m i f)) m_weights g)) → V G MX8_meet (am_R 1 23 0 0) Fn 0 0 48 [(0, .ref mM), (1, .int (nI s)), (2, .int (nI a)), (3, .int (nI i))] [] (hp I (upA (upA A m_way (f)) m_weights (g))) := by
  intro m
  induction m with
  | zero =>
    intro i f hi0 hk
    obtain rfl : nv = i := by omega
    refine V.iload_n (j := 3) rfl dX8_meet_48 ?_
    refine V.aload_n (j := 0) rfl dX8_meet_49 ?_
    refine V.geti (v := nI nv) dX8_meet_50 fX8_79 rfl rfl hn ?_
    refine V.icmp_geN (tgt := 157) dX8_meet_53 (by decide) (by omega) (by omega) (fun c1 => ?_) (fun c1 => ?_)
    · refine V.fewer [0, 1, 2] rfl ?_
      exact hk
    · exact absurd c1 (by omega)
  | succ m ih =>
    intro i f hi0 hk
    refine V.iload_n (j := 3) rfl dX8_meet_48 ?_
    refine V.aload_n (j := 0) rfl dX8_meet_49 ?_
    refine V.geti (v := nI nv) dX8_meet_50 fX8_79 rfl rfl hn ?_
    refine V.icmp_geN (tgt := 157) dX8_meet_53 (by decide) (by omega) (by omega) (fun c2 => ?_) (fun c2 => ?_)
    · exact absurd c2 (by omega)
    · refine V.iload_n (j := 2) rfl dX8_meet_56 ?_
      refine V.iconst (v := (-1)) (by decide) dX8_meet_57 ?_
      refine V.icmp_eq (tgt := 157) dX8_meet_58 (by decide) (fun z => absurd z (nI_nm1 (by omega))) (fun _ => ?_)
      refine V.aload_n (j := 0) rfl dX8_meet_61 ?_
      refine V.getr (q := m_ops) dX8_meet_62 fX8_13 rfl rfl ?_
      refine V.iload_n (j := 1) rfl dX8_meet_65 ?_
      refine V.lda (v := A m_ops s) dX8_meet_66 rfl (by omega) (by decide) rfl ?_
      refine V.iconst (v := nI 1) (by decide) dX8_meet_67 ?_
      have K4 : V G MX8_meet (am_R 1 23 0 0) Fn 0 0 86 [(0, .ref mM), (1, .int (nI s)), (2, .int (nI a)), (3, .int (nI i))] [.int (bI (A m_ops s = nI 1 ∧ nI i = A m_second s))] (hp I (upA (upA A m_way (f)) m_weights (g))) := by
        refine V.istore (ls' := [(0, .ref mM), (1, .int (nI s)), (2, .int (nI a)), (3, .int (nI i)), (4, .int (bI (A m_ops s = nI 1 ∧ nI i = A m_second s)))]) dX8_meet_86 (by decide) rfl ?_
        have K5 : V G MX8_meet (am_R 1 23 0 0) Fn 0 0 151 [(0, .ref mM), (1, .int (nI s)), (2, .int (nI a)), (3, .int (nI i)), (4, .int (bI (A m_ops s = nI 1 ∧ nI i = A m_second s)))] [] (hp I (upA (upA A m_way (mz_wU (mz_cC (A m_ops) (A m_second) (A m_classes) (A m_behind) s a i) a i f)) m_weights (g))) := by
          refine V.iincN (ls' := [(0, .ref mM), (1, .int (nI s)), (2, .int (nI a)), (3, .int (nI (i + 1))), (4, .int (bI (A m_ops s = nI 1 ∧ nI i = A m_second s)))]) dX8_meet_151 (j := 3) rfl (by decide) rfl ?_
          refine V.goto (tgt := 48) dX8_meet_154 (by decide) ?_
          refine V.fewer [0, 1, 2, 3] rfl ?_
          exact ih (i + 1) _ (by omega) hk
        refine V.iload_n (j := 3) rfl dX8_meet_88 ?_
        refine V.iload_n (j := 2) rfl dX8_meet_89 ?_
        refine V.icmp_eqN (tgt := 151) dX8_meet_90 (by decide) (by omega) (by omega) (fun c6 => ?_) (fun c6 => ?_)
        · exact V.hpe rfl (congrArg (fun x => upA (upA A m_way x) m_weights g) (mz_wU_f (fun z => z.1 c6))) K5
        · refine V.aload_n (j := 0) rfl dX8_meet_93 ?_
          refine V.getr (q := m_classes) dX8_meet_94 fX8_7 rfl rfl ?_
          refine V.iload_n (j := 3) rfl dX8_meet_97 ?_
          refine V.lda (v := A m_classes i) dX8_meet_98 rfl (by omega) (by decide) rfl ?_
          refine V.aload_n (j := 0) rfl dX8_meet_99 ?_
          refine V.getr (q := m_classes) dX8_meet_100 fX8_7 rfl rfl ?_
          refine V.iload_n (j := 2) rfl dX8_meet_103 ?_
          refine V.lda (v := A m_classes a) dX8_meet_104 rfl (by omega) (by decide) rfl ?_
          refine V.icmp_ne (tgt := 151) dX8_meet_105 (by decide) (fun c7 => ?_) (fun c7 => ?_)
          · exact V.hpe rfl (congrArg (fun x => upA (upA A m_way x) m_weights g) (mz_wU_f (fun z => c7 z.2.1))) K5
          · refine V.aload_n (j := 0) rfl dX8_meet_108 ?_
            refine V.getr (q := m_behind) dX8_meet_109 fX8_34 rfl rfl ?_
            refine V.iload_n (j := 1) rfl dX8_meet_112 ?_
            refine V.lda (v := A m_behind s) dX8_meet_113 rfl (by omega) (by decide) rfl ?_
            refine V.iload_n (j := 3) rfl dX8_meet_114 ?_
            refine V.ishr dX8_meet_115 ?_
            refine V.iconst (v := nI 1) (by decide) dX8_meet_116 ?_
            refine V.iand dX8_meet_117 ?_
            refine V.iconst (v := nI 1) (by decide) dX8_meet_118 ?_
            refine V.icmp_ne (tgt := 151) dX8_meet_119 (by decide) (fun c8 => ?_) (fun c8 => ?_)
            · exact V.hpe rfl (congrArg (fun x => upA (upA A m_way x) m_weights g) (mz_wU_f (fun z => c8 z.2.2.1))) K5
            · refine V.iload (j := 4) rfl dX8_meet_122 ?_
              refine V.if_ne (tgt := 151) dX8_meet_124 (by decide) (fun c9 => ?_) (fun c9 => ?_)
              · exact V.hpe rfl (congrArg (fun x => upA (upA A m_way x) m_weights g) (mz_wU_f (fun z => z.2.2.2 (bI_nz c9)))) K5
              · refine V.aload_n (j := 0) rfl dX8_meet_127 ?_
                refine V.getr (q := m_way) dX8_meet_128 fX8_37 rfl rfl ?_
                refine V.iload_n (j := 2) rfl dX8_meet_131 ?_
                refine V.dup2 rfl rfl dX8_meet_132 ?_
                refine V.lda (v := f a) dX8_meet_133 rfl (by omega) (by decide) rfl ?_
                refine V.iconst (v := nI 1) (by decide) dX8_meet_134 ?_
                refine V.iload_n (j := 3) rfl dX8_meet_135 ?_
                refine V.ishl dX8_meet_136 ?_
                refine V.ior dX8_meet_137 ?_
                refine V.sta (g := upd f a ((f a) ||| ((nI 1) <<< ((nI i) &&& 31)))) dX8_meet_138 rfl (by omega) (by decide) rfl ?_
                refine V.hpe (A' := (upA (upA A m_way (upd f a ((f a) ||| ((nI 1) <<< ((nI i) &&& 31))))) m_weights (g))) rfl (upA_r2 (by decide)) ?_
                refine V.aload_n (j := 0) rfl dX8_meet_139 ?_
                refine V.getr (q := m_way) dX8_meet_140 fX8_37 rfl rfl ?_
                refine V.iload_n (j := 3) rfl dX8_meet_143 ?_
                refine V.dup2 rfl rfl dX8_meet_144 ?_
                refine V.lda (v := (upd f a ((f a) ||| ((nI 1) <<< ((nI i) &&& 31)))) i) dX8_meet_145 rfl (by omega) (by decide) rfl ?_
                refine V.iconst (v := nI 1) (by decide) dX8_meet_146 ?_
                refine V.iload_n (j := 2) rfl dX8_meet_147 ?_
                refine V.ishl dX8_meet_148 ?_
                refine V.ior dX8_meet_149 ?_
                refine V.sta (g := upd (upd f a ((f a) ||| ((nI 1) <<< ((nI i) &&& 31)))) i (((upd f a ((f a) ||| ((nI 1) <<< ((nI i) &&& 31)))) i) ||| ((nI 1) <<< ((nI a) &&& 31)))) dX8_meet_150 rfl (by omega) (by decide) rfl ?_
                refine V.hpe (A' := (upA (upA A m_way (upd (upd f a ((f a) ||| ((nI 1) <<< ((nI i) &&& 31)))) i (((upd f a ((f a) ||| ((nI 1) <<< ((nI i) &&& 31)))) i) ||| ((nI 1) <<< ((nI a) &&& 31))))) m_weights (g))) rfl (upA_r2 (by decide)) ?_
                exact V.hpe rfl (congrArg (fun x => upA (upA A m_way x) m_weights g) (mz_wU_t ⟨c6, c7, c8, bI_z c9⟩)) K5
      refine V.icmp_ne (tgt := 85) dX8_meet_68 (by decide) (fun c10 => ?_) (fun c10 => ?_)
      · refine V.iconst (v := nI 0) (by decide) dX8_meet_85 ?_
        exact V.st (congrArg (fun x => [Value.int x]) (bI_0 (fun z => c10 z.1))) K4
      · refine V.iload_n (j := 3) rfl dX8_meet_71 ?_
        refine V.aload_n (j := 0) rfl dX8_meet_72 ?_
        refine V.getr (q := m_second) dX8_meet_73 fX8_19 rfl rfl ?_
        refine V.iload_n (j := 1) rfl dX8_meet_76 ?_
        refine V.lda (v := A m_second s) dX8_meet_77 rfl (by omega) (by decide) rfl ?_
        refine V.icmp_ne (tgt := 85) dX8_meet_78 (by decide) (fun c11 => ?_) (fun c11 => ?_)
        · refine V.iconst (v := nI 0) (by decide) dX8_meet_85 ?_
          exact V.st (congrArg (fun x => [Value.int x]) (bI_0 (fun z => c11 z.2))) K4
        · refine V.iconst (v := nI 1) (by decide) dX8_meet_81 ?_
          refine V.goto (tgt := 86) dX8_meet_82 (by decide) ?_
          exact V.st (congrArg (fun x => [Value.int x]) (bI_1 ⟨c10, c11⟩)) K4
theorem mz_mW_m {nv : Nat} {op fa fb cl bh : Nat → Int32} {s : Nat} {w : Nat → Int32} (h : mz_anew op fa s = (-1)) : w = mz_mW nv op fa fb cl bh s w := by unfold mz_mW; rw [if_pos h]
theorem mz_mW_n {nv : Nat} {op fa fb cl bh : Nat → Int32} {s a : Nat} {w : Nat → Int32} (h : mz_anew op fa s = nI a) (ha : a < 2 ^ 31) : mz_wL op fb cl bh s a nv 0 w = mz_mW nv op fa fb cl bh s w := by
  unfold mz_mW
  rw [if_neg (by rw [h]; exact nI_nm1 ha), h, nI_clamp ha]
set_option maxRecDepth 100000 in
set_option maxHeartbeats 4000000 in
theorem ml_meet3 {G : am_G} {Fn : Array Value → State → List Frame → State → Prop} (I A : Nat → Nat → Int32) (nv : Nat) (hn : I mM 0 = nI nv) (hnv : nv ≤ 24) (ns : Nat) (hs : I mM 2 = nI ns) (hns : ns ≤ 60) (hA : ∀ s, s < ns → mz_anew (A m_ops) (A m_first) s = (-1) ∨ ∃ a, a < nv ∧ mz_anew (A m_ops) (A m_first) s = nI a) (h0 : ∀ s, s < ns → mz_tak0 (A m_ops) (A m_first) (A m_second) s = (-1) ∨ ∃ a, a < nv ∧ mz_tak0 (A m_ops) (A m_first) (A m_second) s = nI a) (h1 : ∀ s, s < ns → mz_tak1 (A m_ops) (A m_second) (A m_third) s = (-1) ∨ ∃ a, a < nv ∧ mz_tak1 (A m_ops) (A m_second) (A m_third) s = nI a) : ∀ (m : Nat) (s : Nat) (f : Nat → Int32) (g : Nat → Int32), s + m = ns → V G MX8_meet (am_R 1 23 0 0) Fn 0 0 216 [(0, .ref mM)] [] (hp I (upA (upA A m_way (mz_meetW nv (A m_ops) (A m_first) (A m_second) (A m_classes) (A m_behind) m s f)) m_weights (mz_meetG (A m_ops) (A m_first) (A m_second) (A m_third) m s g))) → V G MX8_meet (am_R 1 23 0 0) Fn 0 0 32 [(0, .ref mM), (1, .int (nI s))] [] (hp I (upA (upA A m_way (f)) m_weights (g))) := by
  intro m
  induction m with
  | zero =>
    intro s f g hi0 hk
    obtain rfl : ns = s := by omega
    refine V.iload_n (j := 1) rfl dX8_meet_32 ?_
    refine V.aload_n (j := 0) rfl dX8_meet_33 ?_
    refine V.geti (v := nI ns) dX8_meet_34 fX8_95 rfl rfl hs ?_
    refine V.icmp_geN (tgt := 216) dX8_meet_37 (by decide) (by omega) (by omega) (fun c1 => ?_) (fun c1 => ?_)
    · refine V.fewer [0] rfl ?_
      exact hk
    · exact absurd c1 (by omega)
  | succ m ih =>
    intro s f g hi0 hk
    refine V.iload_n (j := 1) rfl dX8_meet_32 ?_
    refine V.aload_n (j := 0) rfl dX8_meet_33 ?_
    refine V.geti (v := nI ns) dX8_meet_34 fX8_95 rfl rfl hs ?_
    refine V.icmp_geN (tgt := 216) dX8_meet_37 (by decide) (by omega) (by omega) (fun c2 => ?_) (fun c2 => ?_)
    · exact absurd c2 (by omega)
    · refine V.aload_n (j := 0) rfl dX8_meet_40 ?_
      refine V.iload_n (j := 1) rfl dX8_meet_41 ?_
      refine V.cV (As := [.int (nI s)]) (st := []) dX8_meet_42 sX8_106 iX8_anew lX8_anew rfl rfl (md_anew I (upA (upA A m_way (f)) m_weights (g)) s (by omega)) ⟨by decide, by decide⟩ (Nat.le_of_ble_eq_true rfl) rfl (fun r I' A' hq => ?_)
      obtain ⟨rfl, rfl, rfl⟩ := hq
      refine V.st (st' := [.int (mz_anew (A m_ops) (A m_first) s)]) rfl ?_
      refine V.istore_n (ls' := [(0, .ref mM), (1, .int (nI s)), (2, .int (mz_anew (A m_ops) (A m_first) s))]) dX8_meet_45 (by decide) rfl ?_
      rcases hA s (by omega) with e1 | ⟨a, ha, e1⟩
      · refine V.lse (ls' := [(0, .ref mM), (1, .int (nI s)), (2, .int ((-1)))]) (by rw [e1]) ?_
        refine V.iconst (v := nI 0) (by decide) dX8_meet_46 ?_
        refine V.istore_n (ls' := [(0, .ref mM), (1, .int (nI s)), (2, .int ((-1))), (3, .int (nI 0))]) dX8_meet_47 (by decide) rfl ?_
        have K3 : V G MX8_meet (am_R 1 23 0 0) Fn 0 0 157 [(0, .ref mM), (1, .int (nI s)), (2, .int ((-1)))] [] (hp I (upA (upA A m_way (f)) m_weights (g))) := by
          refine V.iload_n (j := 2) rfl dX8_meet_157 ?_
          refine V.iconst (v := (-1)) (by decide) dX8_meet_158 ?_
          refine V.icmp_eq (tgt := 172) dX8_meet_159 (by decide) (fun _ => ?_) (fun z => absurd rfl z)
          refine V.iconst (v := nI 0) (by decide) dX8_meet_172 ?_
          refine V.istore_n (ls' := [(0, .ref mM), (1, .int (nI s)), (2, .int ((-1))), (3, .int (nI 0))]) dX8_meet_173 (by decide) rfl ?_
          refine V.iload_n (j := 3) rfl dX8_meet_174 ?_
          refine V.iconst (v := nI 2) (by decide) dX8_meet_175 ?_
          refine V.icmp_ge (tgt := 210) dX8_meet_176 (by decide) (fun z => absurd z (by decide)) (fun _ => ?_)
          refine V.aload_n (j := 0) rfl dX8_meet_179 ?_
          refine V.iload_n (j := 1) rfl dX8_meet_180 ?_
          refine V.iload_n (j := 3) rfl dX8_meet_181 ?_
          refine V.cV (As := [.int (nI s), .int (nI 0)]) (st := []) dX8_meet_182 sX8_98 iX8_taken lX8_taken rfl rfl (md_taken0 I (upA (upA A m_way (f)) m_weights (g)) s (by omega)) ⟨by decide, by decide⟩ (Nat.le_of_ble_eq_true rfl) rfl (fun r I' A' hq => ?_)
          obtain ⟨rfl, rfl, rfl⟩ := hq
          refine V.st (st' := [.int (mz_tak0 (A m_ops) (A m_first) (A m_second) s)]) rfl ?_
          refine V.istore (ls' := [(0, .ref mM), (1, .int (nI s)), (2, .int ((-1))), (3, .int (nI 0)), (4, .int (mz_tak0 (A m_ops) (A m_first) (A m_second) s))]) dX8_meet_185 (by decide) rfl ?_
          rcases h0 s (by omega) with e2 | ⟨b, hb, e2⟩
          · refine V.lse (ls' := [(0, .ref mM), (1, .int (nI s)), (2, .int ((-1))), (3, .int (nI 0)), (4, .int ((-1)))]) (by rw [e2]) ?_
            refine V.iload (j := 4) rfl dX8_meet_187 ?_
            refine V.iconst (v := (-1)) (by decide) dX8_meet_189 ?_
            refine V.icmp_eq (tgt := 204) dX8_meet_190 (by decide) (fun _ => ?_) (fun z => absurd rfl z)
            refine V.iincN (ls' := [(0, .ref mM), (1, .int (nI s)), (2, .int ((-1))), (3, .int (nI 1)), (4, .int ((-1)))]) dX8_meet_204 (j := 3) rfl (by decide) rfl ?_
            refine V.goto (tgt := 174) dX8_meet_207 (by decide) ?_
            refine V.iload_n (j := 3) rfl dX8_meet_174 ?_
            refine V.iconst (v := nI 2) (by decide) dX8_meet_175 ?_
            refine V.icmp_ge (tgt := 210) dX8_meet_176 (by decide) (fun z => absurd z (by decide)) (fun _ => ?_)
            refine V.aload_n (j := 0) rfl dX8_meet_179 ?_
            refine V.iload_n (j := 1) rfl dX8_meet_180 ?_
            refine V.iload_n (j := 3) rfl dX8_meet_181 ?_
            refine V.cV (As := [.int (nI s), .int (nI 1)]) (st := []) dX8_meet_182 sX8_98 iX8_taken lX8_taken rfl rfl (md_taken1 I (upA (upA A m_way (f)) m_weights (g)) s (by omega)) ⟨by decide, by decide⟩ (Nat.le_of_ble_eq_true rfl) rfl (fun r I' A' hq => ?_)
            obtain ⟨rfl, rfl, rfl⟩ := hq
            refine V.st (st' := [.int (mz_tak1 (A m_ops) (A m_second) (A m_third) s)]) rfl ?_
            refine V.istore (ls' := [(0, .ref mM), (1, .int (nI s)), (2, .int ((-1))), (3, .int (nI 1)), (4, .int (mz_tak1 (A m_ops) (A m_second) (A m_third) s))]) dX8_meet_185 (by decide) rfl ?_
            rcases h1 s (by omega) with e3 | ⟨c, hc, e3⟩
            · refine V.lse (ls' := [(0, .ref mM), (1, .int (nI s)), (2, .int ((-1))), (3, .int (nI 1)), (4, .int ((-1)))]) (by rw [e3]) ?_
              refine V.iload (j := 4) rfl dX8_meet_187 ?_
              refine V.iconst (v := (-1)) (by decide) dX8_meet_189 ?_
              refine V.icmp_eq (tgt := 204) dX8_meet_190 (by decide) (fun _ => ?_) (fun z => absurd rfl z)
              refine V.iincN (ls' := [(0, .ref mM), (1, .int (nI s)), (2, .int ((-1))), (3, .int (nI 2)), (4, .int ((-1)))]) dX8_meet_204 (j := 3) rfl (by decide) rfl ?_
              refine V.goto (tgt := 174) dX8_meet_207 (by decide) ?_
              refine V.iload_n (j := 3) rfl dX8_meet_174 ?_
              refine V.iconst (v := nI 2) (by decide) dX8_meet_175 ?_
              refine V.icmp_ge (tgt := 210) dX8_meet_176 (by decide) (fun _ => ?_) (fun z => absurd z (by decide))
              refine V.iincN (ls' := [(0, .ref mM), (1, .int (nI (s + 1))), (2, .int ((-1))), (3, .int (nI 2)), (4, .int ((-1)))]) dX8_meet_210 (j := 1) rfl (by decide) rfl ?_
              refine V.goto (tgt := 32) dX8_meet_213 (by decide) ?_
              refine V.fewer [0, 1] rfl ?_
              refine V.hpe (A' := (upA (upA A m_way (mz_mW nv (A m_ops) (A m_first) (A m_second) (A m_classes) (A m_behind) s f)) m_weights (mz_mG (A m_ops) (A m_first) (A m_second) (A m_third) s g))) rfl (congr (congrArg (fun x y => upA (upA A m_way x) m_weights y) (mz_mW_m e1)) (by unfold mz_mG; rw [e1, e2, e3]; simp only [mz_inc_m])) ?_
              exact ih (s + 1) _ _ (by omega) hk
            · refine V.lse (ls' := [(0, .ref mM), (1, .int (nI s)), (2, .int ((-1))), (3, .int (nI 1)), (4, .int (nI c))]) (by rw [e3]) ?_
              refine V.iload (j := 4) rfl dX8_meet_187 ?_
              refine V.iconst (v := (-1)) (by decide) dX8_meet_189 ?_
              refine V.icmp_eq (tgt := 204) dX8_meet_190 (by decide) (fun z => absurd z (nI_nm1 (by omega))) (fun _ => ?_)
              refine V.aload_n (j := 0) rfl dX8_meet_193 ?_
              refine V.getr (q := m_weights) dX8_meet_194 fX8_40 rfl rfl ?_
              refine V.iload (j := 4) rfl dX8_meet_197 ?_
              refine V.dup2 rfl rfl dX8_meet_199 ?_
              refine V.lda (v := g c) dX8_meet_200 rfl (by omega) (by decide) rfl ?_
              refine V.iconst (v := nI 1) (by decide) dX8_meet_201 ?_
              refine V.iadd dX8_meet_202 ?_
              refine V.sta (g := upd g c ((g c) + (nI 1))) dX8_meet_203 rfl (by omega) (by decide) rfl ?_
              refine V.hpe (A' := (upA (upA A m_way (f)) m_weights (upd g c ((g c) + (nI 1))))) rfl upA_u ?_
              refine V.iincN (ls' := [(0, .ref mM), (1, .int (nI s)), (2, .int ((-1))), (3, .int (nI 2)), (4, .int (nI c))]) dX8_meet_204 (j := 3) rfl (by decide) rfl ?_
              refine V.goto (tgt := 174) dX8_meet_207 (by decide) ?_
              refine V.iload_n (j := 3) rfl dX8_meet_174 ?_
              refine V.iconst (v := nI 2) (by decide) dX8_meet_175 ?_
              refine V.icmp_ge (tgt := 210) dX8_meet_176 (by decide) (fun _ => ?_) (fun z => absurd z (by decide))
              refine V.iincN (ls' := [(0, .ref mM), (1, .int (nI (s + 1))), (2, .int ((-1))), (3, .int (nI 2)), (4, .int (nI c))]) dX8_meet_210 (j := 1) rfl (by decide) rfl ?_
              refine V.goto (tgt := 32) dX8_meet_213 (by decide) ?_
              refine V.fewer [0, 1] rfl ?_
              refine V.hpe (A' := (upA (upA A m_way (mz_mW nv (A m_ops) (A m_first) (A m_second) (A m_classes) (A m_behind) s f)) m_weights (mz_mG (A m_ops) (A m_first) (A m_second) (A m_third) s g))) rfl (congr (congrArg (fun x y => upA (upA A m_way x) m_weights y) (mz_mW_m e1)) (by unfold mz_mG; rw [e1, e2, e3]; simp only [mz_inc_m, mz_inc_n (show c < 2 ^ 31 by omega)])) ?_
              exact ih (s + 1) _ _ (by omega) hk
          · refine V.lse (ls' := [(0, .ref mM), (1, .int (nI s)), (2, .int ((-1))), (3, .int (nI 0)), (4, .int (nI b))]) (by rw [e2]) ?_
            refine V.iload (j := 4) rfl dX8_meet_187 ?_
            refine V.iconst (v := (-1)) (by decide) dX8_meet_189 ?_
            refine V.icmp_eq (tgt := 204) dX8_meet_190 (by decide) (fun z => absurd z (nI_nm1 (by omega))) (fun _ => ?_)
            refine V.aload_n (j := 0) rfl dX8_meet_193 ?_
            refine V.getr (q := m_weights) dX8_meet_194 fX8_40 rfl rfl ?_
            refine V.iload (j := 4) rfl dX8_meet_197 ?_
            refine V.dup2 rfl rfl dX8_meet_199 ?_
            refine V.lda (v := g b) dX8_meet_200 rfl (by omega) (by decide) rfl ?_
            refine V.iconst (v := nI 1) (by decide) dX8_meet_201 ?_
            refine V.iadd dX8_meet_202 ?_
            refine V.sta (g := upd g b ((g b) + (nI 1))) dX8_meet_203 rfl (by omega) (by decide) rfl ?_
            refine V.hpe (A' := (upA (upA A m_way (f)) m_weights (upd g b ((g b) + (nI 1))))) rfl upA_u ?_
            refine V.iincN (ls' := [(0, .ref mM), (1, .int (nI s)), (2, .int ((-1))), (3, .int (nI 1)), (4, .int (nI b))]) dX8_meet_204 (j := 3) rfl (by decide) rfl ?_
            refine V.goto (tgt := 174) dX8_meet_207 (by decide) ?_
            refine V.iload_n (j := 3) rfl dX8_meet_174 ?_
            refine V.iconst (v := nI 2) (by decide) dX8_meet_175 ?_
            refine V.icmp_ge (tgt := 210) dX8_meet_176 (by decide) (fun z => absurd z (by decide)) (fun _ => ?_)
            refine V.aload_n (j := 0) rfl dX8_meet_179 ?_
            refine V.iload_n (j := 1) rfl dX8_meet_180 ?_
            refine V.iload_n (j := 3) rfl dX8_meet_181 ?_
            refine V.cV (As := [.int (nI s), .int (nI 1)]) (st := []) dX8_meet_182 sX8_98 iX8_taken lX8_taken rfl rfl (md_taken1 I (upA (upA A m_way (f)) m_weights (upd g b ((g b) + (nI 1)))) s (by omega)) ⟨by decide, by decide⟩ (Nat.le_of_ble_eq_true rfl) rfl (fun r I' A' hq => ?_)
            obtain ⟨rfl, rfl, rfl⟩ := hq
            refine V.st (st' := [.int (mz_tak1 (A m_ops) (A m_second) (A m_third) s)]) rfl ?_
            refine V.istore (ls' := [(0, .ref mM), (1, .int (nI s)), (2, .int ((-1))), (3, .int (nI 1)), (4, .int (mz_tak1 (A m_ops) (A m_second) (A m_third) s))]) dX8_meet_185 (by decide) rfl ?_
            rcases h1 s (by omega) with e3 | ⟨c, hc, e3⟩
            · refine V.lse (ls' := [(0, .ref mM), (1, .int (nI s)), (2, .int ((-1))), (3, .int (nI 1)), (4, .int ((-1)))]) (by rw [e3]) ?_
              refine V.iload (j := 4) rfl dX8_meet_187 ?_
              refine V.iconst (v := (-1)) (by decide) dX8_meet_189 ?_
              refine V.icmp_eq (tgt := 204) dX8_meet_190 (by decide) (fun _ => ?_) (fun z => absurd rfl z)
              refine V.iincN (ls' := [(0, .ref mM), (1, .int (nI s)), (2, .int ((-1))), (3, .int (nI 2)), (4, .int ((-1)))]) dX8_meet_204 (j := 3) rfl (by decide) rfl ?_
              refine V.goto (tgt := 174) dX8_meet_207 (by decide) ?_
              refine V.iload_n (j := 3) rfl dX8_meet_174 ?_
              refine V.iconst (v := nI 2) (by decide) dX8_meet_175 ?_
              refine V.icmp_ge (tgt := 210) dX8_meet_176 (by decide) (fun _ => ?_) (fun z => absurd z (by decide))
              refine V.iincN (ls' := [(0, .ref mM), (1, .int (nI (s + 1))), (2, .int ((-1))), (3, .int (nI 2)), (4, .int ((-1)))]) dX8_meet_210 (j := 1) rfl (by decide) rfl ?_
              refine V.goto (tgt := 32) dX8_meet_213 (by decide) ?_
              refine V.fewer [0, 1] rfl ?_
              refine V.hpe (A' := (upA (upA A m_way (mz_mW nv (A m_ops) (A m_first) (A m_second) (A m_classes) (A m_behind) s f)) m_weights (mz_mG (A m_ops) (A m_first) (A m_second) (A m_third) s g))) rfl (congr (congrArg (fun x y => upA (upA A m_way x) m_weights y) (mz_mW_m e1)) (by unfold mz_mG; rw [e1, e2, e3]; simp only [mz_inc_m, mz_inc_n (show b < 2 ^ 31 by omega)])) ?_
              exact ih (s + 1) _ _ (by omega) hk
            · refine V.lse (ls' := [(0, .ref mM), (1, .int (nI s)), (2, .int ((-1))), (3, .int (nI 1)), (4, .int (nI c))]) (by rw [e3]) ?_
              refine V.iload (j := 4) rfl dX8_meet_187 ?_
              refine V.iconst (v := (-1)) (by decide) dX8_meet_189 ?_
              refine V.icmp_eq (tgt := 204) dX8_meet_190 (by decide) (fun z => absurd z (nI_nm1 (by omega))) (fun _ => ?_)
              refine V.aload_n (j := 0) rfl dX8_meet_193 ?_
              refine V.getr (q := m_weights) dX8_meet_194 fX8_40 rfl rfl ?_
              refine V.iload (j := 4) rfl dX8_meet_197 ?_
              refine V.dup2 rfl rfl dX8_meet_199 ?_
              refine V.lda (v := (upd g b ((g b) + (nI 1))) c) dX8_meet_200 rfl (by omega) (by decide) rfl ?_
              refine V.iconst (v := nI 1) (by decide) dX8_meet_201 ?_
              refine V.iadd dX8_meet_202 ?_
              refine V.sta (g := upd (upd g b ((g b) + (nI 1))) c (((upd g b ((g b) + (nI 1))) c) + (nI 1))) dX8_meet_203 rfl (by omega) (by decide) rfl ?_
              refine V.hpe (A' := (upA (upA A m_way (f)) m_weights (upd (upd g b ((g b) + (nI 1))) c (((upd g b ((g b) + (nI 1))) c) + (nI 1))))) rfl upA_u ?_
              refine V.iincN (ls' := [(0, .ref mM), (1, .int (nI s)), (2, .int ((-1))), (3, .int (nI 2)), (4, .int (nI c))]) dX8_meet_204 (j := 3) rfl (by decide) rfl ?_
              refine V.goto (tgt := 174) dX8_meet_207 (by decide) ?_
              refine V.iload_n (j := 3) rfl dX8_meet_174 ?_
              refine V.iconst (v := nI 2) (by decide) dX8_meet_175 ?_
              refine V.icmp_ge (tgt := 210) dX8_meet_176 (by decide) (fun _ => ?_) (fun z => absurd z (by decide))
              refine V.iincN (ls' := [(0, .ref mM), (1, .int (nI (s + 1))), (2, .int ((-1))), (3, .int (nI 2)), (4, .int (nI c))]) dX8_meet_210 (j := 1) rfl (by decide) rfl ?_
              refine V.goto (tgt := 32) dX8_meet_213 (by decide) ?_
              refine V.fewer [0, 1] rfl ?_
              refine V.hpe (A' := (upA (upA A m_way (mz_mW nv (A m_ops) (A m_first) (A m_second) (A m_classes) (A m_behind) s f)) m_weights (mz_mG (A m_ops) (A m_first) (A m_second) (A m_third) s g))) rfl (congr (congrArg (fun x y => upA (upA A m_way x) m_weights y) (mz_mW_m e1)) (by unfold mz_mG; rw [e1, e2, e3]; simp only [mz_inc_m, mz_inc_n (show b < 2 ^ 31 by omega), mz_inc_n (show c < 2 ^ 31 by omega)])) ?_
              exact ih (s + 1) _ _ (by omega) hk
        refine V.iload_n (j := 3) rfl dX8_meet_48 ?_
        refine V.aload_n (j := 0) rfl dX8_meet_49 ?_
        refine V.geti (v := nI nv) dX8_meet_50 fX8_79 rfl rfl hn ?_
        refine V.icmp_geN (tgt := 157) dX8_meet_53 (by decide) (by omega) (by omega) (fun c18 => ?_) (fun c18 => ?_)
        · refine V.fewer [0, 1, 2] rfl ?_
          exact K3
        · refine V.iload_n (j := 2) rfl dX8_meet_56 ?_
          refine V.iconst (v := (-1)) (by decide) dX8_meet_57 ?_
          refine V.icmp_eq (tgt := 157) dX8_meet_58 (by decide) (fun _ => ?_) (fun z => absurd rfl z)
          refine V.fewer [0, 1, 2] rfl ?_
          exact K3
      · refine V.lse (ls' := [(0, .ref mM), (1, .int (nI s)), (2, .int (nI a))]) (by rw [e1]) ?_
        refine V.iconst (v := nI 0) (by decide) dX8_meet_46 ?_
        refine V.istore_n (ls' := [(0, .ref mM), (1, .int (nI s)), (2, .int (nI a)), (3, .int (nI 0))]) dX8_meet_47 (by decide) rfl ?_
        refine ml_meet2 I A nv hn hnv s (by omega) a ha g nv 0 f (by omega) ?_
        refine V.iload_n (j := 2) rfl dX8_meet_157 ?_
        refine V.iconst (v := (-1)) (by decide) dX8_meet_158 ?_
        refine V.icmp_eq (tgt := 172) dX8_meet_159 (by decide) (fun z => absurd z (nI_nm1 (by omega))) (fun _ => ?_)
        refine V.aload_n (j := 0) rfl dX8_meet_162 ?_
        refine V.getr (q := m_weights) dX8_meet_163 fX8_40 rfl rfl ?_
        refine V.iload_n (j := 2) rfl dX8_meet_166 ?_
        refine V.dup2 rfl rfl dX8_meet_167 ?_
        refine V.lda (v := g a) dX8_meet_168 rfl (by omega) (by decide) rfl ?_
        refine V.iconst (v := nI 1) (by decide) dX8_meet_169 ?_
        refine V.iadd dX8_meet_170 ?_
        refine V.sta (g := upd g a ((g a) + (nI 1))) dX8_meet_171 rfl (by omega) (by decide) rfl ?_
        refine V.hpe (A' := (upA (upA A m_way (mz_wL (A m_ops) (A m_second) (A m_classes) (A m_behind) s a nv 0 f)) m_weights (upd g a ((g a) + (nI 1))))) rfl upA_u ?_
        refine V.iconst (v := nI 0) (by decide) dX8_meet_172 ?_
        refine V.istore_n (ls' := [(0, .ref mM), (1, .int (nI s)), (2, .int (nI a)), (3, .int (nI 0))]) dX8_meet_173 (by decide) rfl ?_
        refine V.iload_n (j := 3) rfl dX8_meet_174 ?_
        refine V.iconst (v := nI 2) (by decide) dX8_meet_175 ?_
        refine V.icmp_ge (tgt := 210) dX8_meet_176 (by decide) (fun z => absurd z (by decide)) (fun _ => ?_)
        refine V.aload_n (j := 0) rfl dX8_meet_179 ?_
        refine V.iload_n (j := 1) rfl dX8_meet_180 ?_
        refine V.iload_n (j := 3) rfl dX8_meet_181 ?_
        refine V.cV (As := [.int (nI s), .int (nI 0)]) (st := []) dX8_meet_182 sX8_98 iX8_taken lX8_taken rfl rfl (md_taken0 I (upA (upA A m_way (mz_wL (A m_ops) (A m_second) (A m_classes) (A m_behind) s a nv 0 f)) m_weights (upd g a ((g a) + (nI 1)))) s (by omega)) ⟨by decide, by decide⟩ (Nat.le_of_ble_eq_true rfl) rfl (fun r I' A' hq => ?_)
        obtain ⟨rfl, rfl, rfl⟩ := hq
        refine V.st (st' := [.int (mz_tak0 (A m_ops) (A m_first) (A m_second) s)]) rfl ?_
        refine V.istore (ls' := [(0, .ref mM), (1, .int (nI s)), (2, .int (nI a)), (3, .int (nI 0)), (4, .int (mz_tak0 (A m_ops) (A m_first) (A m_second) s))]) dX8_meet_185 (by decide) rfl ?_
        rcases h0 s (by omega) with e2 | ⟨b, hb, e2⟩
        · refine V.lse (ls' := [(0, .ref mM), (1, .int (nI s)), (2, .int (nI a)), (3, .int (nI 0)), (4, .int ((-1)))]) (by rw [e2]) ?_
          refine V.iload (j := 4) rfl dX8_meet_187 ?_
          refine V.iconst (v := (-1)) (by decide) dX8_meet_189 ?_
          refine V.icmp_eq (tgt := 204) dX8_meet_190 (by decide) (fun _ => ?_) (fun z => absurd rfl z)
          refine V.iincN (ls' := [(0, .ref mM), (1, .int (nI s)), (2, .int (nI a)), (3, .int (nI 1)), (4, .int ((-1)))]) dX8_meet_204 (j := 3) rfl (by decide) rfl ?_
          refine V.goto (tgt := 174) dX8_meet_207 (by decide) ?_
          refine V.iload_n (j := 3) rfl dX8_meet_174 ?_
          refine V.iconst (v := nI 2) (by decide) dX8_meet_175 ?_
          refine V.icmp_ge (tgt := 210) dX8_meet_176 (by decide) (fun z => absurd z (by decide)) (fun _ => ?_)
          refine V.aload_n (j := 0) rfl dX8_meet_179 ?_
          refine V.iload_n (j := 1) rfl dX8_meet_180 ?_
          refine V.iload_n (j := 3) rfl dX8_meet_181 ?_
          refine V.cV (As := [.int (nI s), .int (nI 1)]) (st := []) dX8_meet_182 sX8_98 iX8_taken lX8_taken rfl rfl (md_taken1 I (upA (upA A m_way (mz_wL (A m_ops) (A m_second) (A m_classes) (A m_behind) s a nv 0 f)) m_weights (upd g a ((g a) + (nI 1)))) s (by omega)) ⟨by decide, by decide⟩ (Nat.le_of_ble_eq_true rfl) rfl (fun r I' A' hq => ?_)
          obtain ⟨rfl, rfl, rfl⟩ := hq
          refine V.st (st' := [.int (mz_tak1 (A m_ops) (A m_second) (A m_third) s)]) rfl ?_
          refine V.istore (ls' := [(0, .ref mM), (1, .int (nI s)), (2, .int (nI a)), (3, .int (nI 1)), (4, .int (mz_tak1 (A m_ops) (A m_second) (A m_third) s))]) dX8_meet_185 (by decide) rfl ?_
          rcases h1 s (by omega) with e3 | ⟨c, hc, e3⟩
          · refine V.lse (ls' := [(0, .ref mM), (1, .int (nI s)), (2, .int (nI a)), (3, .int (nI 1)), (4, .int ((-1)))]) (by rw [e3]) ?_
            refine V.iload (j := 4) rfl dX8_meet_187 ?_
            refine V.iconst (v := (-1)) (by decide) dX8_meet_189 ?_
            refine V.icmp_eq (tgt := 204) dX8_meet_190 (by decide) (fun _ => ?_) (fun z => absurd rfl z)
            refine V.iincN (ls' := [(0, .ref mM), (1, .int (nI s)), (2, .int (nI a)), (3, .int (nI 2)), (4, .int ((-1)))]) dX8_meet_204 (j := 3) rfl (by decide) rfl ?_
            refine V.goto (tgt := 174) dX8_meet_207 (by decide) ?_
            refine V.iload_n (j := 3) rfl dX8_meet_174 ?_
            refine V.iconst (v := nI 2) (by decide) dX8_meet_175 ?_
            refine V.icmp_ge (tgt := 210) dX8_meet_176 (by decide) (fun _ => ?_) (fun z => absurd z (by decide))
            refine V.iincN (ls' := [(0, .ref mM), (1, .int (nI (s + 1))), (2, .int (nI a)), (3, .int (nI 2)), (4, .int ((-1)))]) dX8_meet_210 (j := 1) rfl (by decide) rfl ?_
            refine V.goto (tgt := 32) dX8_meet_213 (by decide) ?_
            refine V.fewer [0, 1] rfl ?_
            refine V.hpe (A' := (upA (upA A m_way (mz_mW nv (A m_ops) (A m_first) (A m_second) (A m_classes) (A m_behind) s f)) m_weights (mz_mG (A m_ops) (A m_first) (A m_second) (A m_third) s g))) rfl (congr (congrArg (fun x y => upA (upA A m_way x) m_weights y) (mz_mW_n e1 (by omega))) (by unfold mz_mG; rw [e1, e2, e3]; simp only [mz_inc_m, mz_inc_n (show a < 2 ^ 31 by omega)])) ?_
            exact ih (s + 1) _ _ (by omega) hk
          · refine V.lse (ls' := [(0, .ref mM), (1, .int (nI s)), (2, .int (nI a)), (3, .int (nI 1)), (4, .int (nI c))]) (by rw [e3]) ?_
            refine V.iload (j := 4) rfl dX8_meet_187 ?_
            refine V.iconst (v := (-1)) (by decide) dX8_meet_189 ?_
            refine V.icmp_eq (tgt := 204) dX8_meet_190 (by decide) (fun z => absurd z (nI_nm1 (by omega))) (fun _ => ?_)
            refine V.aload_n (j := 0) rfl dX8_meet_193 ?_
            refine V.getr (q := m_weights) dX8_meet_194 fX8_40 rfl rfl ?_
            refine V.iload (j := 4) rfl dX8_meet_197 ?_
            refine V.dup2 rfl rfl dX8_meet_199 ?_
            refine V.lda (v := (upd g a ((g a) + (nI 1))) c) dX8_meet_200 rfl (by omega) (by decide) rfl ?_
            refine V.iconst (v := nI 1) (by decide) dX8_meet_201 ?_
            refine V.iadd dX8_meet_202 ?_
            refine V.sta (g := upd (upd g a ((g a) + (nI 1))) c (((upd g a ((g a) + (nI 1))) c) + (nI 1))) dX8_meet_203 rfl (by omega) (by decide) rfl ?_
            refine V.hpe (A' := (upA (upA A m_way (mz_wL (A m_ops) (A m_second) (A m_classes) (A m_behind) s a nv 0 f)) m_weights (upd (upd g a ((g a) + (nI 1))) c (((upd g a ((g a) + (nI 1))) c) + (nI 1))))) rfl upA_u ?_
            refine V.iincN (ls' := [(0, .ref mM), (1, .int (nI s)), (2, .int (nI a)), (3, .int (nI 2)), (4, .int (nI c))]) dX8_meet_204 (j := 3) rfl (by decide) rfl ?_
            refine V.goto (tgt := 174) dX8_meet_207 (by decide) ?_
            refine V.iload_n (j := 3) rfl dX8_meet_174 ?_
            refine V.iconst (v := nI 2) (by decide) dX8_meet_175 ?_
            refine V.icmp_ge (tgt := 210) dX8_meet_176 (by decide) (fun _ => ?_) (fun z => absurd z (by decide))
            refine V.iincN (ls' := [(0, .ref mM), (1, .int (nI (s + 1))), (2, .int (nI a)), (3, .int (nI 2)), (4, .int (nI c))]) dX8_meet_210 (j := 1) rfl (by decide) rfl ?_
            refine V.goto (tgt := 32) dX8_meet_213 (by decide) ?_
            refine V.fewer [0, 1] rfl ?_
            refine V.hpe (A' := (upA (upA A m_way (mz_mW nv (A m_ops) (A m_first) (A m_second) (A m_classes) (A m_behind) s f)) m_weights (mz_mG (A m_ops) (A m_first) (A m_second) (A m_third) s g))) rfl (congr (congrArg (fun x y => upA (upA A m_way x) m_weights y) (mz_mW_n e1 (by omega))) (by unfold mz_mG; rw [e1, e2, e3]; simp only [mz_inc_m, mz_inc_n (show a < 2 ^ 31 by omega), mz_inc_n (show c < 2 ^ 31 by omega)])) ?_
            exact ih (s + 1) _ _ (by omega) hk
        · refine V.lse (ls' := [(0, .ref mM), (1, .int (nI s)), (2, .int (nI a)), (3, .int (nI 0)), (4, .int (nI b))]) (by rw [e2]) ?_
          refine V.iload (j := 4) rfl dX8_meet_187 ?_
          refine V.iconst (v := (-1)) (by decide) dX8_meet_189 ?_
          refine V.icmp_eq (tgt := 204) dX8_meet_190 (by decide) (fun z => absurd z (nI_nm1 (by omega))) (fun _ => ?_)
          refine V.aload_n (j := 0) rfl dX8_meet_193 ?_
          refine V.getr (q := m_weights) dX8_meet_194 fX8_40 rfl rfl ?_
          refine V.iload (j := 4) rfl dX8_meet_197 ?_
          refine V.dup2 rfl rfl dX8_meet_199 ?_
          refine V.lda (v := (upd g a ((g a) + (nI 1))) b) dX8_meet_200 rfl (by omega) (by decide) rfl ?_
          refine V.iconst (v := nI 1) (by decide) dX8_meet_201 ?_
          refine V.iadd dX8_meet_202 ?_
          refine V.sta (g := upd (upd g a ((g a) + (nI 1))) b (((upd g a ((g a) + (nI 1))) b) + (nI 1))) dX8_meet_203 rfl (by omega) (by decide) rfl ?_
          refine V.hpe (A' := (upA (upA A m_way (mz_wL (A m_ops) (A m_second) (A m_classes) (A m_behind) s a nv 0 f)) m_weights (upd (upd g a ((g a) + (nI 1))) b (((upd g a ((g a) + (nI 1))) b) + (nI 1))))) rfl upA_u ?_
          refine V.iincN (ls' := [(0, .ref mM), (1, .int (nI s)), (2, .int (nI a)), (3, .int (nI 1)), (4, .int (nI b))]) dX8_meet_204 (j := 3) rfl (by decide) rfl ?_
          refine V.goto (tgt := 174) dX8_meet_207 (by decide) ?_
          refine V.iload_n (j := 3) rfl dX8_meet_174 ?_
          refine V.iconst (v := nI 2) (by decide) dX8_meet_175 ?_
          refine V.icmp_ge (tgt := 210) dX8_meet_176 (by decide) (fun z => absurd z (by decide)) (fun _ => ?_)
          refine V.aload_n (j := 0) rfl dX8_meet_179 ?_
          refine V.iload_n (j := 1) rfl dX8_meet_180 ?_
          refine V.iload_n (j := 3) rfl dX8_meet_181 ?_
          refine V.cV (As := [.int (nI s), .int (nI 1)]) (st := []) dX8_meet_182 sX8_98 iX8_taken lX8_taken rfl rfl (md_taken1 I (upA (upA A m_way (mz_wL (A m_ops) (A m_second) (A m_classes) (A m_behind) s a nv 0 f)) m_weights (upd (upd g a ((g a) + (nI 1))) b (((upd g a ((g a) + (nI 1))) b) + (nI 1)))) s (by omega)) ⟨by decide, by decide⟩ (Nat.le_of_ble_eq_true rfl) rfl (fun r I' A' hq => ?_)
          obtain ⟨rfl, rfl, rfl⟩ := hq
          refine V.st (st' := [.int (mz_tak1 (A m_ops) (A m_second) (A m_third) s)]) rfl ?_
          refine V.istore (ls' := [(0, .ref mM), (1, .int (nI s)), (2, .int (nI a)), (3, .int (nI 1)), (4, .int (mz_tak1 (A m_ops) (A m_second) (A m_third) s))]) dX8_meet_185 (by decide) rfl ?_
          rcases h1 s (by omega) with e3 | ⟨c, hc, e3⟩
          · refine V.lse (ls' := [(0, .ref mM), (1, .int (nI s)), (2, .int (nI a)), (3, .int (nI 1)), (4, .int ((-1)))]) (by rw [e3]) ?_
            refine V.iload (j := 4) rfl dX8_meet_187 ?_
            refine V.iconst (v := (-1)) (by decide) dX8_meet_189 ?_
            refine V.icmp_eq (tgt := 204) dX8_meet_190 (by decide) (fun _ => ?_) (fun z => absurd rfl z)
            refine V.iincN (ls' := [(0, .ref mM), (1, .int (nI s)), (2, .int (nI a)), (3, .int (nI 2)), (4, .int ((-1)))]) dX8_meet_204 (j := 3) rfl (by decide) rfl ?_
            refine V.goto (tgt := 174) dX8_meet_207 (by decide) ?_
            refine V.iload_n (j := 3) rfl dX8_meet_174 ?_
            refine V.iconst (v := nI 2) (by decide) dX8_meet_175 ?_
            refine V.icmp_ge (tgt := 210) dX8_meet_176 (by decide) (fun _ => ?_) (fun z => absurd z (by decide))
            refine V.iincN (ls' := [(0, .ref mM), (1, .int (nI (s + 1))), (2, .int (nI a)), (3, .int (nI 2)), (4, .int ((-1)))]) dX8_meet_210 (j := 1) rfl (by decide) rfl ?_
            refine V.goto (tgt := 32) dX8_meet_213 (by decide) ?_
            refine V.fewer [0, 1] rfl ?_
            refine V.hpe (A' := (upA (upA A m_way (mz_mW nv (A m_ops) (A m_first) (A m_second) (A m_classes) (A m_behind) s f)) m_weights (mz_mG (A m_ops) (A m_first) (A m_second) (A m_third) s g))) rfl (congr (congrArg (fun x y => upA (upA A m_way x) m_weights y) (mz_mW_n e1 (by omega))) (by unfold mz_mG; rw [e1, e2, e3]; simp only [mz_inc_m, mz_inc_n (show a < 2 ^ 31 by omega), mz_inc_n (show b < 2 ^ 31 by omega)])) ?_
            exact ih (s + 1) _ _ (by omega) hk
          · refine V.lse (ls' := [(0, .ref mM), (1, .int (nI s)), (2, .int (nI a)), (3, .int (nI 1)), (4, .int (nI c))]) (by rw [e3]) ?_
            refine V.iload (j := 4) rfl dX8_meet_187 ?_
            refine V.iconst (v := (-1)) (by decide) dX8_meet_189 ?_
            refine V.icmp_eq (tgt := 204) dX8_meet_190 (by decide) (fun z => absurd z (nI_nm1 (by omega))) (fun _ => ?_)
            refine V.aload_n (j := 0) rfl dX8_meet_193 ?_
            refine V.getr (q := m_weights) dX8_meet_194 fX8_40 rfl rfl ?_
            refine V.iload (j := 4) rfl dX8_meet_197 ?_
            refine V.dup2 rfl rfl dX8_meet_199 ?_
            refine V.lda (v := (upd (upd g a ((g a) + (nI 1))) b (((upd g a ((g a) + (nI 1))) b) + (nI 1))) c) dX8_meet_200 rfl (by omega) (by decide) rfl ?_
            refine V.iconst (v := nI 1) (by decide) dX8_meet_201 ?_
            refine V.iadd dX8_meet_202 ?_
            refine V.sta (g := upd (upd (upd g a ((g a) + (nI 1))) b (((upd g a ((g a) + (nI 1))) b) + (nI 1))) c (((upd (upd g a ((g a) + (nI 1))) b (((upd g a ((g a) + (nI 1))) b) + (nI 1))) c) + (nI 1))) dX8_meet_203 rfl (by omega) (by decide) rfl ?_
            refine V.hpe (A' := (upA (upA A m_way (mz_wL (A m_ops) (A m_second) (A m_classes) (A m_behind) s a nv 0 f)) m_weights (upd (upd (upd g a ((g a) + (nI 1))) b (((upd g a ((g a) + (nI 1))) b) + (nI 1))) c (((upd (upd g a ((g a) + (nI 1))) b (((upd g a ((g a) + (nI 1))) b) + (nI 1))) c) + (nI 1))))) rfl upA_u ?_
            refine V.iincN (ls' := [(0, .ref mM), (1, .int (nI s)), (2, .int (nI a)), (3, .int (nI 2)), (4, .int (nI c))]) dX8_meet_204 (j := 3) rfl (by decide) rfl ?_
            refine V.goto (tgt := 174) dX8_meet_207 (by decide) ?_
            refine V.iload_n (j := 3) rfl dX8_meet_174 ?_
            refine V.iconst (v := nI 2) (by decide) dX8_meet_175 ?_
            refine V.icmp_ge (tgt := 210) dX8_meet_176 (by decide) (fun _ => ?_) (fun z => absurd z (by decide))
            refine V.iincN (ls' := [(0, .ref mM), (1, .int (nI (s + 1))), (2, .int (nI a)), (3, .int (nI 2)), (4, .int (nI c))]) dX8_meet_210 (j := 1) rfl (by decide) rfl ?_
            refine V.goto (tgt := 32) dX8_meet_213 (by decide) ?_
            refine V.fewer [0, 1] rfl ?_
            refine V.hpe (A' := (upA (upA A m_way (mz_mW nv (A m_ops) (A m_first) (A m_second) (A m_classes) (A m_behind) s f)) m_weights (mz_mG (A m_ops) (A m_first) (A m_second) (A m_third) s g))) rfl (congr (congrArg (fun x y => upA (upA A m_way x) m_weights y) (mz_mW_n e1 (by omega))) (by unfold mz_mG; rw [e1, e2, e3]; simp only [mz_inc_m, mz_inc_n (show a < 2 ^ 31 by omega), mz_inc_n (show b < 2 ^ 31 by omega), mz_inc_n (show c < 2 ^ 31 by omega)])) ?_
            exact ih (s + 1) _ _ (by omega) hk
set_option maxRecDepth 100000 in
set_option maxHeartbeats 4000000 in
theorem md_meet {G : am_G} (I A : Nat → Nat → Int32) (nv : Nat) (hn : I mM 0 = nI nv) (hnv : nv ≤ 24) (ns : Nat) (hs : I mM 2 = nI ns) (hns : ns ≤ 60) (hA : ∀ s, s < ns → mz_anew (A m_ops) (A m_first) s = (-1) ∨ ∃ a, a < nv ∧ mz_anew (A m_ops) (A m_first) s = nI a) (h0 : ∀ s, s < ns → mz_tak0 (A m_ops) (A m_first) (A m_second) s = (-1) ∨ ∃ a, a < nv ∧ mz_tak0 (A m_ops) (A m_first) (A m_second) s = nI a) (h1 : ∀ s, s < ns → mz_tak1 (A m_ops) (A m_second) (A m_third) s = (-1) ∨ ∃ a, a < nv ∧ mz_tak1 (A m_ops) (A m_second) (A m_third) s = nI a) : Cm G MX8_meet 1 23 [.ref mM] I A (fun r I' A' => r = none ∧ I = I' ∧ upA (upA A m_way (mz_meetW nv (A m_ops) (A m_first) (A m_second) (A m_classes) (A m_behind) ns 0 (mz_fill nv 0 (A m_way)))) m_weights (mz_meetG (A m_ops) (A m_first) (A m_second) (A m_third) ns 0 (mz_fill nv 0 (A m_weights))) = A') := by
  refine Cm.of (by decide) (Nat.le_of_ble_eq_true rfl) rfl ?_
  show V G MX8_meet (am_R 1 23 0 0) _ 0 0 0 [(0, .ref mM)] [] (hp I A)
  refine V.iconst (v := nI 0) (by decide) dX8_meet_0 ?_
  refine V.istore_n (ls' := [(0, .ref mM), (1, .int (nI 0))]) dX8_meet_1 (by decide) rfl ?_
  refine V.hpe (A' := (upA (upA A m_way (A m_way)) m_weights (A m_weights))) rfl (by rw [upA_i, upA_i]) ?_
  refine ml_meet1 I A nv hn hnv nv 0 _ _ (by omega) ?_
  refine V.iconst (v := nI 0) (by decide) dX8_meet_30 ?_
  refine V.istore_n (ls' := [(0, .ref mM), (1, .int (nI 0))]) dX8_meet_31 (by decide) rfl ?_
  refine ml_meet3 I A nv hn hnv ns hs hns hA h0 h1 ns 0 _ _ (by omega) ?_
  refine V.rv dX8_meet_216 rfl ?_
  exact ⟨rfl, rfl, rfl⟩
