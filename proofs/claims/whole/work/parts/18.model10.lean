theorem mz_FA_FA {A : Nat → Nat → Int32} {g : Nat → Int32} {F1 F2 : mz_FS} : mz_FA (mz_FA A g F1) g F2 = mz_FA A g F2 := by
  funext b
  by_cases h1 : b = m_items
  · subst h1; simp [mz_FA, upA]
  · by_cases h2 : b = m_code
    · subst h2; simp [mz_FA, upA]
    · by_cases h3 : b = m_into
      · subst h3; simp [mz_FA, upA]
      · by_cases h4 : b = m_fetches
        · subst h4; simp [mz_FA, upA]
        · simp [mz_FA, upA, h1, h2, h3, h4]
/-- a value that a step takes is fetched, if it has a slot -/
def mz_f1 (cl hm : Nat → Int32) (v : Int32) (F : mz_FS) : mz_FS := if v = (-1) then F else if hm v.toNatClampNeg < nI 100 then F else mz_ft cl hm v.toNatClampNeg F
theorem mz_f1_m {cl hm : Nat → Int32} {F : mz_FS} : mz_f1 cl hm (-1) F = F := if_pos rfl
theorem mz_f1_r {cl hm : Nat → Int32} {F : mz_FS} {v : Nat} (hv : v < 2 ^ 31) (h : hm v < nI 100) : mz_f1 cl hm (nI v) F = F := by
  unfold mz_f1
  rw [if_neg (nI_nm1 hv), nI_clamp hv, if_pos h]
theorem mz_f1_s {cl hm : Nat → Int32} {F : mz_FS} {v : Nat} (hv : v < 2 ^ 31) (h : ¬ hm v < nI 100) : mz_f1 cl hm (nI v) F = mz_ft cl hm v F := by
  unfold mz_f1
  rw [if_neg (nI_nm1 hv), nI_clamp hv, if_neg h]
/-- what a step's fetches leave -/
def mz_f2 (op fa fb fc cl hm : Nat → Int32) (s : Nat) (F : mz_FS) : mz_FS := mz_f1 cl hm (mz_tak1 op fb fc s) (mz_f1 cl hm (mz_tak0 op fa fb s) F)
set_option maxRecDepth 100000 in
set_option maxHeartbeats 4000000 in
theorem ml_step1 {G : am_G} {Fn : Array Value → State → List Frame → State → Prop} (I A : Nat → Nat → Int32) (nv : Nat) (hnv : nv ≤ 24) (s : Nat) (hs : s < 60) (o xa xb xc : Int32) (h0 : mz_tak0 (A m_ops) (A m_first) (A m_second) s = (-1) ∨ ∃ a, a < nv ∧ mz_tak0 (A m_ops) (A m_first) (A m_second) s = nI a) (h1 : mz_tak1 (A m_ops) (A m_second) (A m_third) s = (-1) ∨ ∃ a, a < nv ∧ mz_tak1 (A m_ops) (A m_second) (A m_third) s = nI a) (g : Nat → Int32) (n : Nat) (hg : A m_items = upd g 0 (nI n)) (hn : n < 390) (hk : V G MX8_makeStep (am_R 2 48 0 0) Fn 0 0 121 [(0, .ref mM), (1, .int (nI s)), (2, .int o), (3, .int xa), (4, .int xb), (5, .int xc)] [] (hp (upI I mM 25 (nI (mz_f2 (A m_ops) (A m_first) (A m_second) (A m_third) (A m_classes) (A m_homes) s (0, A m_fetches, A m_into, A m_code, n)).1)) (mz_FA A g (mz_f2 (A m_ops) (A m_first) (A m_second) (A m_third) (A m_classes) (A m_homes) s (0, A m_fetches, A m_into, A m_code, n))))) : V G MX8_makeStep (am_R 2 48 0 0) Fn 0 0 68 [(0, .ref mM), (1, .int (nI s)), (2, .int o), (3, .int xa), (4, .int xb), (5, .int xc)] [] (hp I A) := by
  refine V.aload_n (j := 0) rfl dX8_makeStep_68 ?_
  refine V.iconst (v := nI 0) (by decide) dX8_makeStep_69 ?_
  refine V.puti dX8_makeStep_70 pX8_127 rfl rfl ?_
  refine V.iconst (v := nI 0) (by decide) dX8_makeStep_73 ?_
  refine V.istore (ls' := [(0, .ref mM), (1, .int (nI s)), (2, .int o), (3, .int xa), (4, .int xb), (5, .int xc), (6, .int (nI 0))]) dX8_makeStep_74 (by decide) rfl ?_
  refine V.iload (j := 6) rfl dX8_makeStep_76 ?_
  refine V.iconst (v := nI 2) (by decide) dX8_makeStep_78 ?_
  refine V.icmp_ge (tgt := 121) dX8_makeStep_79 (by decide) (fun z => absurd z (by decide)) (fun _ => ?_)
  refine V.aload_n (j := 0) rfl dX8_makeStep_82 ?_
  refine V.iload_n (j := 1) rfl dX8_makeStep_83 ?_
  refine V.iload (j := 6) rfl dX8_makeStep_84 ?_
  refine V.cV (As := [.int (nI s), .int (nI 0)]) (st := []) dX8_makeStep_86 sX8_98 iX8_taken lX8_taken rfl rfl (md_taken0 (upI I mM 25 (nI 0)) A s (by omega)) ⟨by decide, by decide⟩ (Nat.le_of_ble_eq_true rfl) rfl (fun r I' A' hq => ?_)
  obtain ⟨rfl, rfl, rfl⟩ := hq
  refine V.st (st' := [.int (mz_tak0 (A m_ops) (A m_first) (A m_second) s)]) rfl ?_
  refine V.istore (ls' := [(0, .ref mM), (1, .int (nI s)), (2, .int o), (3, .int xa), (4, .int xb), (5, .int xc), (6, .int (nI 0)), (7, .int (mz_tak0 (A m_ops) (A m_first) (A m_second) s))]) dX8_makeStep_89 (by decide) rfl ?_
  rcases h0 with e0 | ⟨b, hb, e0⟩
  · refine V.lse (ls' := [(0, .ref mM), (1, .int (nI s)), (2, .int o), (3, .int xa), (4, .int xb), (5, .int xc), (6, .int (nI 0)), (7, .int ((-1)))]) (by rw [e0]) ?_
    refine V.iload (j := 7) rfl dX8_makeStep_91 ?_
    refine V.iconst (v := (-1)) (by decide) dX8_makeStep_93 ?_
    refine V.icmp_eq (tgt := 115) dX8_makeStep_94 (by decide) (fun _ => ?_) (fun z => absurd rfl z)
    refine V.iincN (ls' := [(0, .ref mM), (1, .int (nI s)), (2, .int o), (3, .int xa), (4, .int xb), (5, .int xc), (6, .int (nI 1)), (7, .int ((-1)))]) dX8_makeStep_115 (j := 6) rfl (by decide) rfl ?_
    refine V.goto (tgt := 76) dX8_makeStep_118 (by decide) ?_
    refine V.iload (j := 6) rfl dX8_makeStep_76 ?_
    refine V.iconst (v := nI 2) (by decide) dX8_makeStep_78 ?_
    refine V.icmp_ge (tgt := 121) dX8_makeStep_79 (by decide) (fun z => absurd z (by decide)) (fun _ => ?_)
    refine V.aload_n (j := 0) rfl dX8_makeStep_82 ?_
    refine V.iload_n (j := 1) rfl dX8_makeStep_83 ?_
    refine V.iload (j := 6) rfl dX8_makeStep_84 ?_
    refine V.cV (As := [.int (nI s), .int (nI 1)]) (st := []) dX8_makeStep_86 sX8_98 iX8_taken lX8_taken rfl rfl (md_taken1 (upI I mM 25 (nI 0)) A s (by omega)) ⟨by decide, by decide⟩ (Nat.le_of_ble_eq_true rfl) rfl (fun r I' A' hq => ?_)
    obtain ⟨rfl, rfl, rfl⟩ := hq
    refine V.st (st' := [.int (mz_tak1 (A m_ops) (A m_second) (A m_third) s)]) rfl ?_
    refine V.istore (ls' := [(0, .ref mM), (1, .int (nI s)), (2, .int o), (3, .int xa), (4, .int xb), (5, .int xc), (6, .int (nI 1)), (7, .int (mz_tak1 (A m_ops) (A m_second) (A m_third) s))]) dX8_makeStep_89 (by decide) rfl ?_
    rcases h1 with e1 | ⟨c, hc, e1⟩
    · refine V.lse (ls' := [(0, .ref mM), (1, .int (nI s)), (2, .int o), (3, .int xa), (4, .int xb), (5, .int xc), (6, .int (nI 1)), (7, .int ((-1)))]) (by rw [e1]) ?_
      refine V.iload (j := 7) rfl dX8_makeStep_91 ?_
      refine V.iconst (v := (-1)) (by decide) dX8_makeStep_93 ?_
      refine V.icmp_eq (tgt := 115) dX8_makeStep_94 (by decide) (fun _ => ?_) (fun z => absurd rfl z)
      refine V.iincN (ls' := [(0, .ref mM), (1, .int (nI s)), (2, .int o), (3, .int xa), (4, .int xb), (5, .int xc), (6, .int (nI 2)), (7, .int ((-1)))]) dX8_makeStep_115 (j := 6) rfl (by decide) rfl ?_
      refine V.goto (tgt := 76) dX8_makeStep_118 (by decide) ?_
      refine V.iload (j := 6) rfl dX8_makeStep_76 ?_
      refine V.iconst (v := nI 2) (by decide) dX8_makeStep_78 ?_
      refine V.icmp_ge (tgt := 121) dX8_makeStep_79 (by decide) (fun _ => ?_) (fun z => absurd z (by decide))
      refine V.fewer [0, 1, 2, 3, 4, 5] rfl ?_
      have hk2 := hk
      unfold mz_f2 at hk2
      rw [e0, mz_f1_m, e1, mz_f1_m, mz_FA_i hg] at hk2
      exact hk2
    · refine V.lse (ls' := [(0, .ref mM), (1, .int (nI s)), (2, .int o), (3, .int xa), (4, .int xb), (5, .int xc), (6, .int (nI 1)), (7, .int (nI c))]) (by rw [e1]) ?_
      refine V.iload (j := 7) rfl dX8_makeStep_91 ?_
      refine V.iconst (v := (-1)) (by decide) dX8_makeStep_93 ?_
      refine V.icmp_eq (tgt := 115) dX8_makeStep_94 (by decide) (fun z => absurd z (nI_nm1 (by omega))) (fun _ => ?_)
      refine V.aload_n (j := 0) rfl dX8_makeStep_97 ?_
      refine V.getr (q := m_homes) dX8_makeStep_98 fX8_46 rfl rfl ?_
      refine V.iload (j := 7) rfl dX8_makeStep_101 ?_
      refine V.lda (v := A m_homes c) dX8_makeStep_103 rfl (by omega) (by decide) rfl ?_
      refine V.bipush (v := nI 100) (by decide) dX8_makeStep_104 ?_
      refine V.icmp_lt (tgt := 115) dX8_makeStep_106 (by decide) (fun c7 => ?_) (fun c7 => ?_)
      · refine V.iincN (ls' := [(0, .ref mM), (1, .int (nI s)), (2, .int o), (3, .int xa), (4, .int xb), (5, .int xc), (6, .int (nI 2)), (7, .int (nI c))]) dX8_makeStep_115 (j := 6) rfl (by decide) rfl ?_
        refine V.goto (tgt := 76) dX8_makeStep_118 (by decide) ?_
        refine V.iload (j := 6) rfl dX8_makeStep_76 ?_
        refine V.iconst (v := nI 2) (by decide) dX8_makeStep_78 ?_
        refine V.icmp_ge (tgt := 121) dX8_makeStep_79 (by decide) (fun _ => ?_) (fun z => absurd z (by decide))
        refine V.fewer [0, 1, 2, 3, 4, 5] rfl ?_
        have hk2 := hk
        unfold mz_f2 at hk2
        rw [e0, mz_f1_m, e1, mz_f1_r (show c < 2 ^ 31 by omega) c7, mz_FA_i hg] at hk2
        exact hk2
      · refine V.aload_n (j := 0) rfl dX8_makeStep_109 ?_
        refine V.iload (j := 7) rfl dX8_makeStep_110 ?_
        refine V.cV (As := [.int (nI c)]) (st := []) dX8_makeStep_112 sX8_137 iX8_fetch lX8_fetch rfl rfl (md_fetch0 (upI I mM 25 (nI 0)) A rfl g n hg (by omega) c (by omega)) ⟨by decide, by decide⟩ (Nat.le_of_ble_eq_true rfl) rfl (fun r I' A' hq => ?_)
        obtain ⟨rfl, rfl, rfl⟩ := hq
        refine V.st (st' := []) rfl ?_
        refine V.hpe (I' := (upI I mM 25 (nI 1))) (A' := (upA (upA (upA (upA A m_fetches (upd (A m_fetches) 0 (nI c))) m_into (upd (A m_into) 0 (mz_reg (A m_classes c) (nI 8)))) m_code (mz_lay (A m_code) n (nI 11) (mz_reg (A m_classes c) (nI 8)) (A m_homes c - nI 100) (nI 0))) m_items (upd g 0 (nI (n + 1))))) (by rw [mz_ft0, upI_u]) (by rw [mz_ft0]; rfl) ?_
        refine V.iincN (ls' := [(0, .ref mM), (1, .int (nI s)), (2, .int o), (3, .int xa), (4, .int xb), (5, .int xc), (6, .int (nI 2)), (7, .int (nI c))]) dX8_makeStep_115 (j := 6) rfl (by decide) rfl ?_
        refine V.goto (tgt := 76) dX8_makeStep_118 (by decide) ?_
        refine V.iload (j := 6) rfl dX8_makeStep_76 ?_
        refine V.iconst (v := nI 2) (by decide) dX8_makeStep_78 ?_
        refine V.icmp_ge (tgt := 121) dX8_makeStep_79 (by decide) (fun _ => ?_) (fun z => absurd z (by decide))
        refine V.fewer [0, 1, 2, 3, 4, 5] rfl ?_
        have hk2 := hk
        unfold mz_f2 at hk2
        rw [e0, mz_f1_m, e1, mz_f1_s (show c < 2 ^ 31 by omega) c7, mz_ft0] at hk2
        exact hk2
  · refine V.lse (ls' := [(0, .ref mM), (1, .int (nI s)), (2, .int o), (3, .int xa), (4, .int xb), (5, .int xc), (6, .int (nI 0)), (7, .int (nI b))]) (by rw [e0]) ?_
    refine V.iload (j := 7) rfl dX8_makeStep_91 ?_
    refine V.iconst (v := (-1)) (by decide) dX8_makeStep_93 ?_
    refine V.icmp_eq (tgt := 115) dX8_makeStep_94 (by decide) (fun z => absurd z (nI_nm1 (by omega))) (fun _ => ?_)
    refine V.aload_n (j := 0) rfl dX8_makeStep_97 ?_
    refine V.getr (q := m_homes) dX8_makeStep_98 fX8_46 rfl rfl ?_
    refine V.iload (j := 7) rfl dX8_makeStep_101 ?_
    refine V.lda (v := A m_homes b) dX8_makeStep_103 rfl (by omega) (by decide) rfl ?_
    refine V.bipush (v := nI 100) (by decide) dX8_makeStep_104 ?_
    refine V.icmp_lt (tgt := 115) dX8_makeStep_106 (by decide) (fun c11 => ?_) (fun c11 => ?_)
    · refine V.iincN (ls' := [(0, .ref mM), (1, .int (nI s)), (2, .int o), (3, .int xa), (4, .int xb), (5, .int xc), (6, .int (nI 1)), (7, .int (nI b))]) dX8_makeStep_115 (j := 6) rfl (by decide) rfl ?_
      refine V.goto (tgt := 76) dX8_makeStep_118 (by decide) ?_
      refine V.iload (j := 6) rfl dX8_makeStep_76 ?_
      refine V.iconst (v := nI 2) (by decide) dX8_makeStep_78 ?_
      refine V.icmp_ge (tgt := 121) dX8_makeStep_79 (by decide) (fun z => absurd z (by decide)) (fun _ => ?_)
      refine V.aload_n (j := 0) rfl dX8_makeStep_82 ?_
      refine V.iload_n (j := 1) rfl dX8_makeStep_83 ?_
      refine V.iload (j := 6) rfl dX8_makeStep_84 ?_
      refine V.cV (As := [.int (nI s), .int (nI 1)]) (st := []) dX8_makeStep_86 sX8_98 iX8_taken lX8_taken rfl rfl (md_taken1 (upI I mM 25 (nI 0)) A s (by omega)) ⟨by decide, by decide⟩ (Nat.le_of_ble_eq_true rfl) rfl (fun r I' A' hq => ?_)
      obtain ⟨rfl, rfl, rfl⟩ := hq
      refine V.st (st' := [.int (mz_tak1 (A m_ops) (A m_second) (A m_third) s)]) rfl ?_
      refine V.istore (ls' := [(0, .ref mM), (1, .int (nI s)), (2, .int o), (3, .int xa), (4, .int xb), (5, .int xc), (6, .int (nI 1)), (7, .int (mz_tak1 (A m_ops) (A m_second) (A m_third) s))]) dX8_makeStep_89 (by decide) rfl ?_
      rcases h1 with e1 | ⟨c, hc, e1⟩
      · refine V.lse (ls' := [(0, .ref mM), (1, .int (nI s)), (2, .int o), (3, .int xa), (4, .int xb), (5, .int xc), (6, .int (nI 1)), (7, .int ((-1)))]) (by rw [e1]) ?_
        refine V.iload (j := 7) rfl dX8_makeStep_91 ?_
        refine V.iconst (v := (-1)) (by decide) dX8_makeStep_93 ?_
        refine V.icmp_eq (tgt := 115) dX8_makeStep_94 (by decide) (fun _ => ?_) (fun z => absurd rfl z)
        refine V.iincN (ls' := [(0, .ref mM), (1, .int (nI s)), (2, .int o), (3, .int xa), (4, .int xb), (5, .int xc), (6, .int (nI 2)), (7, .int ((-1)))]) dX8_makeStep_115 (j := 6) rfl (by decide) rfl ?_
        refine V.goto (tgt := 76) dX8_makeStep_118 (by decide) ?_
        refine V.iload (j := 6) rfl dX8_makeStep_76 ?_
        refine V.iconst (v := nI 2) (by decide) dX8_makeStep_78 ?_
        refine V.icmp_ge (tgt := 121) dX8_makeStep_79 (by decide) (fun _ => ?_) (fun z => absurd z (by decide))
        refine V.fewer [0, 1, 2, 3, 4, 5] rfl ?_
        have hk2 := hk
        unfold mz_f2 at hk2
        rw [e0, mz_f1_r (show b < 2 ^ 31 by omega) c11, e1, mz_f1_m, mz_FA_i hg] at hk2
        exact hk2
      · refine V.lse (ls' := [(0, .ref mM), (1, .int (nI s)), (2, .int o), (3, .int xa), (4, .int xb), (5, .int xc), (6, .int (nI 1)), (7, .int (nI c))]) (by rw [e1]) ?_
        refine V.iload (j := 7) rfl dX8_makeStep_91 ?_
        refine V.iconst (v := (-1)) (by decide) dX8_makeStep_93 ?_
        refine V.icmp_eq (tgt := 115) dX8_makeStep_94 (by decide) (fun z => absurd z (nI_nm1 (by omega))) (fun _ => ?_)
        refine V.aload_n (j := 0) rfl dX8_makeStep_97 ?_
        refine V.getr (q := m_homes) dX8_makeStep_98 fX8_46 rfl rfl ?_
        refine V.iload (j := 7) rfl dX8_makeStep_101 ?_
        refine V.lda (v := A m_homes c) dX8_makeStep_103 rfl (by omega) (by decide) rfl ?_
        refine V.bipush (v := nI 100) (by decide) dX8_makeStep_104 ?_
        refine V.icmp_lt (tgt := 115) dX8_makeStep_106 (by decide) (fun c16 => ?_) (fun c16 => ?_)
        · refine V.iincN (ls' := [(0, .ref mM), (1, .int (nI s)), (2, .int o), (3, .int xa), (4, .int xb), (5, .int xc), (6, .int (nI 2)), (7, .int (nI c))]) dX8_makeStep_115 (j := 6) rfl (by decide) rfl ?_
          refine V.goto (tgt := 76) dX8_makeStep_118 (by decide) ?_
          refine V.iload (j := 6) rfl dX8_makeStep_76 ?_
          refine V.iconst (v := nI 2) (by decide) dX8_makeStep_78 ?_
          refine V.icmp_ge (tgt := 121) dX8_makeStep_79 (by decide) (fun _ => ?_) (fun z => absurd z (by decide))
          refine V.fewer [0, 1, 2, 3, 4, 5] rfl ?_
          have hk2 := hk
          unfold mz_f2 at hk2
          rw [e0, mz_f1_r (show b < 2 ^ 31 by omega) c11, e1, mz_f1_r (show c < 2 ^ 31 by omega) c16, mz_FA_i hg] at hk2
          exact hk2
        · refine V.aload_n (j := 0) rfl dX8_makeStep_109 ?_
          refine V.iload (j := 7) rfl dX8_makeStep_110 ?_
          refine V.cV (As := [.int (nI c)]) (st := []) dX8_makeStep_112 sX8_137 iX8_fetch lX8_fetch rfl rfl (md_fetch0 (upI I mM 25 (nI 0)) A rfl g n hg (by omega) c (by omega)) ⟨by decide, by decide⟩ (Nat.le_of_ble_eq_true rfl) rfl (fun r I' A' hq => ?_)
          obtain ⟨rfl, rfl, rfl⟩ := hq
          refine V.st (st' := []) rfl ?_
          refine V.hpe (I' := (upI I mM 25 (nI 1))) (A' := (upA (upA (upA (upA A m_fetches (upd (A m_fetches) 0 (nI c))) m_into (upd (A m_into) 0 (mz_reg (A m_classes c) (nI 8)))) m_code (mz_lay (A m_code) n (nI 11) (mz_reg (A m_classes c) (nI 8)) (A m_homes c - nI 100) (nI 0))) m_items (upd g 0 (nI (n + 1))))) (by rw [mz_ft0, upI_u]) (by rw [mz_ft0]; rfl) ?_
          refine V.iincN (ls' := [(0, .ref mM), (1, .int (nI s)), (2, .int o), (3, .int xa), (4, .int xb), (5, .int xc), (6, .int (nI 2)), (7, .int (nI c))]) dX8_makeStep_115 (j := 6) rfl (by decide) rfl ?_
          refine V.goto (tgt := 76) dX8_makeStep_118 (by decide) ?_
          refine V.iload (j := 6) rfl dX8_makeStep_76 ?_
          refine V.iconst (v := nI 2) (by decide) dX8_makeStep_78 ?_
          refine V.icmp_ge (tgt := 121) dX8_makeStep_79 (by decide) (fun _ => ?_) (fun z => absurd z (by decide))
          refine V.fewer [0, 1, 2, 3, 4, 5] rfl ?_
          have hk2 := hk
          unfold mz_f2 at hk2
          rw [e0, mz_f1_r (show b < 2 ^ 31 by omega) c11, e1, mz_f1_s (show c < 2 ^ 31 by omega) c16, mz_ft0] at hk2
          exact hk2
    · refine V.aload_n (j := 0) rfl dX8_makeStep_109 ?_
      refine V.iload (j := 7) rfl dX8_makeStep_110 ?_
      refine V.cV (As := [.int (nI b)]) (st := []) dX8_makeStep_112 sX8_137 iX8_fetch lX8_fetch rfl rfl (md_fetch0 (upI I mM 25 (nI 0)) A rfl g n hg (by omega) b (by omega)) ⟨by decide, by decide⟩ (Nat.le_of_ble_eq_true rfl) rfl (fun r I' A' hq => ?_)
      obtain ⟨rfl, rfl, rfl⟩ := hq
      refine V.st (st' := []) rfl ?_
      refine V.hpe (I' := (upI I mM 25 (nI 1))) (A' := (upA (upA (upA (upA A m_fetches (upd (A m_fetches) 0 (nI b))) m_into (upd (A m_into) 0 (mz_reg (A m_classes b) (nI 8)))) m_code (mz_lay (A m_code) n (nI 11) (mz_reg (A m_classes b) (nI 8)) (A m_homes b - nI 100) (nI 0))) m_items (upd g 0 (nI (n + 1))))) (by rw [mz_ft0, upI_u]) (by rw [mz_ft0]; rfl) ?_
      refine V.iincN (ls' := [(0, .ref mM), (1, .int (nI s)), (2, .int o), (3, .int xa), (4, .int xb), (5, .int xc), (6, .int (nI 1)), (7, .int (nI b))]) dX8_makeStep_115 (j := 6) rfl (by decide) rfl ?_
      refine V.goto (tgt := 76) dX8_makeStep_118 (by decide) ?_
      refine V.iload (j := 6) rfl dX8_makeStep_76 ?_
      refine V.iconst (v := nI 2) (by decide) dX8_makeStep_78 ?_
      refine V.icmp_ge (tgt := 121) dX8_makeStep_79 (by decide) (fun z => absurd z (by decide)) (fun _ => ?_)
      refine V.aload_n (j := 0) rfl dX8_makeStep_82 ?_
      refine V.iload_n (j := 1) rfl dX8_makeStep_83 ?_
      refine V.iload (j := 6) rfl dX8_makeStep_84 ?_
      refine V.cV (As := [.int (nI s), .int (nI 1)]) (st := []) dX8_makeStep_86 sX8_98 iX8_taken lX8_taken rfl rfl (md_taken1 (upI I mM 25 (nI 1)) (upA (upA (upA (upA A m_fetches (upd (A m_fetches) 0 (nI b))) m_into (upd (A m_into) 0 (mz_reg (A m_classes b) (nI 8)))) m_code (mz_lay (A m_code) n (nI 11) (mz_reg (A m_classes b) (nI 8)) (A m_homes b - nI 100) (nI 0))) m_items (upd g 0 (nI (n + 1)))) s (by omega)) ⟨by decide, by decide⟩ (Nat.le_of_ble_eq_true rfl) rfl (fun r I' A' hq => ?_)
      obtain ⟨rfl, rfl, rfl⟩ := hq
      refine V.st (st' := [.int (mz_tak1 (A m_ops) (A m_second) (A m_third) s)]) rfl ?_
      refine V.istore (ls' := [(0, .ref mM), (1, .int (nI s)), (2, .int o), (3, .int xa), (4, .int xb), (5, .int xc), (6, .int (nI 1)), (7, .int (mz_tak1 (A m_ops) (A m_second) (A m_third) s))]) dX8_makeStep_89 (by decide) rfl ?_
      rcases h1 with e1 | ⟨c, hc, e1⟩
      · refine V.lse (ls' := [(0, .ref mM), (1, .int (nI s)), (2, .int o), (3, .int xa), (4, .int xb), (5, .int xc), (6, .int (nI 1)), (7, .int ((-1)))]) (by rw [e1]) ?_
        refine V.iload (j := 7) rfl dX8_makeStep_91 ?_
        refine V.iconst (v := (-1)) (by decide) dX8_makeStep_93 ?_
        refine V.icmp_eq (tgt := 115) dX8_makeStep_94 (by decide) (fun _ => ?_) (fun z => absurd rfl z)
        refine V.iincN (ls' := [(0, .ref mM), (1, .int (nI s)), (2, .int o), (3, .int xa), (4, .int xb), (5, .int xc), (6, .int (nI 2)), (7, .int ((-1)))]) dX8_makeStep_115 (j := 6) rfl (by decide) rfl ?_
        refine V.goto (tgt := 76) dX8_makeStep_118 (by decide) ?_
        refine V.iload (j := 6) rfl dX8_makeStep_76 ?_
        refine V.iconst (v := nI 2) (by decide) dX8_makeStep_78 ?_
        refine V.icmp_ge (tgt := 121) dX8_makeStep_79 (by decide) (fun _ => ?_) (fun z => absurd z (by decide))
        refine V.fewer [0, 1, 2, 3, 4, 5] rfl ?_
        have hk2 := hk
        unfold mz_f2 at hk2
        rw [e0, mz_f1_s (show b < 2 ^ 31 by omega) c11, mz_ft0, e1, mz_f1_m] at hk2
        exact hk2
      · refine V.lse (ls' := [(0, .ref mM), (1, .int (nI s)), (2, .int o), (3, .int xa), (4, .int xb), (5, .int xc), (6, .int (nI 1)), (7, .int (nI c))]) (by rw [e1]) ?_
        refine V.iload (j := 7) rfl dX8_makeStep_91 ?_
        refine V.iconst (v := (-1)) (by decide) dX8_makeStep_93 ?_
        refine V.icmp_eq (tgt := 115) dX8_makeStep_94 (by decide) (fun z => absurd z (nI_nm1 (by omega))) (fun _ => ?_)
        refine V.aload_n (j := 0) rfl dX8_makeStep_97 ?_
        refine V.getr (q := m_homes) dX8_makeStep_98 fX8_46 rfl rfl ?_
        refine V.iload (j := 7) rfl dX8_makeStep_101 ?_
        refine V.lda (v := A m_homes c) dX8_makeStep_103 rfl (by omega) (by decide) rfl ?_
        refine V.bipush (v := nI 100) (by decide) dX8_makeStep_104 ?_
        refine V.icmp_lt (tgt := 115) dX8_makeStep_106 (by decide) (fun c23 => ?_) (fun c23 => ?_)
        · refine V.iincN (ls' := [(0, .ref mM), (1, .int (nI s)), (2, .int o), (3, .int xa), (4, .int xb), (5, .int xc), (6, .int (nI 2)), (7, .int (nI c))]) dX8_makeStep_115 (j := 6) rfl (by decide) rfl ?_
          refine V.goto (tgt := 76) dX8_makeStep_118 (by decide) ?_
          refine V.iload (j := 6) rfl dX8_makeStep_76 ?_
          refine V.iconst (v := nI 2) (by decide) dX8_makeStep_78 ?_
          refine V.icmp_ge (tgt := 121) dX8_makeStep_79 (by decide) (fun _ => ?_) (fun z => absurd z (by decide))
          refine V.fewer [0, 1, 2, 3, 4, 5] rfl ?_
          have hk2 := hk
          unfold mz_f2 at hk2
          rw [e0, mz_f1_s (show b < 2 ^ 31 by omega) c11, mz_ft0, e1, mz_f1_r (show c < 2 ^ 31 by omega) c23] at hk2
          exact hk2
        · refine V.aload_n (j := 0) rfl dX8_makeStep_109 ?_
          refine V.iload (j := 7) rfl dX8_makeStep_110 ?_
          refine V.cV (As := [.int (nI c)]) (st := []) dX8_makeStep_112 sX8_137 iX8_fetch lX8_fetch rfl rfl (md_fetch1 (upI I mM 25 (nI 1)) (upA (upA (upA (upA A m_fetches (upd (A m_fetches) 0 (nI b))) m_into (upd (A m_into) 0 (mz_reg (A m_classes b) (nI 8)))) m_code (mz_lay (A m_code) n (nI 11) (mz_reg (A m_classes b) (nI 8)) (A m_homes b - nI 100) (nI 0))) m_items (upd g 0 (nI (n + 1)))) rfl b (by omega) rfl g (n + 1) rfl (by omega) c (by omega)) ⟨by decide, by decide⟩ (Nat.le_of_ble_eq_true rfl) rfl (fun r I' A' hq => ?_)
          obtain ⟨rfl, rfl, rfl⟩ := hq
          refine V.st (st' := []) rfl ?_
          refine V.hpe (I' := (upI I mM 25 (nI ((mz_ft (A m_classes) (A m_homes) c (1, upd (A m_fetches) 0 (nI b), upd (A m_into) 0 (mz_reg (A m_classes b) (nI 8)), mz_lay (A m_code) n (nI 11) (mz_reg (A m_classes b) (nI 8)) (A m_homes b - nI 100) (nI 0), n + 1)).1)))) (A' := (upA (upA (upA (upA A m_fetches ((mz_ft (A m_classes) (A m_homes) c (1, upd (A m_fetches) 0 (nI b), upd (A m_into) 0 (mz_reg (A m_classes b) (nI 8)), mz_lay (A m_code) n (nI 11) (mz_reg (A m_classes b) (nI 8)) (A m_homes b - nI 100) (nI 0), n + 1)).2.1)) m_into ((mz_ft (A m_classes) (A m_homes) c (1, upd (A m_fetches) 0 (nI b), upd (A m_into) 0 (mz_reg (A m_classes b) (nI 8)), mz_lay (A m_code) n (nI 11) (mz_reg (A m_classes b) (nI 8)) (A m_homes b - nI 100) (nI 0), n + 1)).2.2.1)) m_code ((mz_ft (A m_classes) (A m_homes) c (1, upd (A m_fetches) 0 (nI b), upd (A m_into) 0 (mz_reg (A m_classes b) (nI 8)), mz_lay (A m_code) n (nI 11) (mz_reg (A m_classes b) (nI 8)) (A m_homes b - nI 100) (nI 0), n + 1)).2.2.2.1)) m_items (upd g 0 (nI (mz_ft (A m_classes) (A m_homes) c (1, upd (A m_fetches) 0 (nI b), upd (A m_into) 0 (mz_reg (A m_classes b) (nI 8)), mz_lay (A m_code) n (nI 11) (mz_reg (A m_classes b) (nI 8)) (A m_homes b - nI 100) (nI 0), n + 1)).2.2.2.2)))) upI_u (mz_FA_FA (F1 := (1, upd (A m_fetches) 0 (nI b), upd (A m_into) 0 (mz_reg (A m_classes b) (nI 8)), mz_lay (A m_code) n (nI 11) (mz_reg (A m_classes b) (nI 8)) (A m_homes b - nI 100) (nI 0), n + 1)) (F2 := mz_ft (A m_classes) (A m_homes) c (1, upd (A m_fetches) 0 (nI b), upd (A m_into) 0 (mz_reg (A m_classes b) (nI 8)), mz_lay (A m_code) n (nI 11) (mz_reg (A m_classes b) (nI 8)) (A m_homes b - nI 100) (nI 0), n + 1))) ?_
          refine V.iincN (ls' := [(0, .ref mM), (1, .int (nI s)), (2, .int o), (3, .int xa), (4, .int xb), (5, .int xc), (6, .int (nI 2)), (7, .int (nI c))]) dX8_makeStep_115 (j := 6) rfl (by decide) rfl ?_
          refine V.goto (tgt := 76) dX8_makeStep_118 (by decide) ?_
          refine V.iload (j := 6) rfl dX8_makeStep_76 ?_
          refine V.iconst (v := nI 2) (by decide) dX8_makeStep_78 ?_
          refine V.icmp_ge (tgt := 121) dX8_makeStep_79 (by decide) (fun _ => ?_) (fun z => absurd z (by decide))
          refine V.fewer [0, 1, 2, 3, 4, 5] rfl ?_
          have hk2 := hk
          unfold mz_f2 at hk2
          rw [e0, mz_f1_s (show b < 2 ^ 31 by omega) c11, mz_ft0, e1, mz_f1_s (show c < 2 ^ 31 by omega) c23] at hk2
          exact hk2
set_option maxRecDepth 100000 in
set_option maxHeartbeats 4000000 in
theorem ml_step2_0 {G : am_G} {Fn : Array Value → State → List Frame → State → Prop} (I A : Nat → Nat → Int32) (s q : Nat) (hq2 : q ≤ 2) (hq : I mM 25 = nI q) (a : Nat) (ha : a < 24) (xb : Int32) (xc : Int32) (g : Nat → Int32) (n : Nat) (hg : A m_items = upd g 0 (nI n)) (hn : n < 395) (hk : V G MX8_makeStep (am_R 2 48 0 0) Fn 0 0 313 [(0, .ref mM), (1, .int (nI s))] [] (hp I (upA (upA A m_code (mz_lay (A m_code) n (nI 0) (mz_to (A m_classes) (A m_homes) a) (xb) (nI 0))) m_items (upd g 0 (nI (n + 1)))))) : V G MX8_makeStep (am_R 2 48 0 0) Fn 0 0 121 [(0, .ref mM), (1, .int (nI s)), (2, .int (nI 0)), (3, .int (nI a)), (4, .int xb), (5, .int xc)] [] (hp I A) := by
  refine V.iload_n (j := 2) rfl dX8_makeStep_121 ?_
  refine V.tableIn (tgt := 176) dX8_makeStep_122 (by decide) (by decide) rfl (by decide) ?_
  refine V.aload_n (j := 0) rfl dX8_makeStep_176 ?_
  refine V.iload_n (j := 2) rfl dX8_makeStep_177 ?_
  refine V.aload_n (j := 0) rfl dX8_makeStep_178 ?_
  refine V.iload_n (j := 3) rfl dX8_makeStep_179 ?_
  refine V.cV (As := [.int (nI a)]) (st := [.int (nI 0), .ref mM]) dX8_makeStep_180 sX8_141 iX8_to lX8_to rfl rfl (md_to I A a (by omega)) ⟨by decide, by decide⟩ (Nat.le_of_ble_eq_true rfl) rfl (fun r I' A' hq => ?_)
  obtain ⟨rfl, rfl, rfl⟩ := hq
  refine V.st (st' := [.int (mz_to (A m_classes) (A m_homes) a), .int (nI 0), .ref mM]) rfl ?_
  refine V.iload (j := 4) rfl dX8_makeStep_183 ?_
  refine V.iconst (v := nI 0) (by decide) dX8_makeStep_185 ?_
  refine V.cV (As := [.int (nI 0), .int (mz_to (A m_classes) (A m_homes) a), .int xb, .int (nI 0)]) (st := []) dX8_makeStep_186 sX8_133 iX8_lay lX8_lay rfl rfl (md_lay I A g n hg (by omega) _ _ _ _) ⟨by decide, by decide⟩ (Nat.le_of_ble_eq_true rfl) rfl (fun r I' A' hq => ?_)
  obtain ⟨rfl, rfl, rfl⟩ := hq
  refine V.st (st' := []) rfl ?_
  refine V.goto (tgt := 313) dX8_makeStep_189 (by decide) ?_
  refine V.fewer [0, 1] rfl ?_
  exact hk
set_option maxRecDepth 100000 in
set_option maxHeartbeats 4000000 in
theorem ml_step2_1 {G : am_G} {Fn : Array Value → State → List Frame → State → Prop} (I A : Nat → Nat → Int32) (s q : Nat) (hq2 : q ≤ 2) (hq : I mM 25 = nI q) (a : Nat) (ha : a < 24) (b : Nat) (hb : b < 24) (xc : Int32) (g : Nat → Int32) (n : Nat) (hg : A m_items = upd g 0 (nI n)) (hn : n < 395) (hk : V G MX8_makeStep (am_R 2 48 0 0) Fn 0 0 313 [(0, .ref mM), (1, .int (nI s))] [] (hp I (upA (upA A m_code (mz_lay (A m_code) n (nI 1) (mz_to (A m_classes) (A m_homes) a) (mz_from (A m_classes) (A m_homes) (A m_fetches) (A m_into) q b) (nI 0))) m_items (upd g 0 (nI (n + 1)))))) : V G MX8_makeStep (am_R 2 48 0 0) Fn 0 0 121 [(0, .ref mM), (1, .int (nI s)), (2, .int (nI 1)), (3, .int (nI a)), (4, .int (nI b)), (5, .int xc)] [] (hp I A) := by
  refine V.iload_n (j := 2) rfl dX8_makeStep_121 ?_
  refine V.tableIn (tgt := 192) dX8_makeStep_122 (by decide) (by decide) rfl (by decide) ?_
  refine V.aload_n (j := 0) rfl dX8_makeStep_192 ?_
  refine V.iload_n (j := 2) rfl dX8_makeStep_193 ?_
  refine V.aload_n (j := 0) rfl dX8_makeStep_194 ?_
  refine V.iload_n (j := 3) rfl dX8_makeStep_195 ?_
  refine V.cV (As := [.int (nI a)]) (st := [.int (nI 1), .ref mM]) dX8_makeStep_196 sX8_141 iX8_to lX8_to rfl rfl (md_to I A a (by omega)) ⟨by decide, by decide⟩ (Nat.le_of_ble_eq_true rfl) rfl (fun r I' A' hq => ?_)
  obtain ⟨rfl, rfl, rfl⟩ := hq
  refine V.st (st' := [.int (mz_to (A m_classes) (A m_homes) a), .int (nI 1), .ref mM]) rfl ?_
  refine V.aload_n (j := 0) rfl dX8_makeStep_199 ?_
  refine V.iload (j := 4) rfl dX8_makeStep_200 ?_
  refine V.cV (As := [.int (nI b)]) (st := [.int (mz_to (A m_classes) (A m_homes) a), .int (nI 1), .ref mM]) dX8_makeStep_202 sX8_144 iX8_from lX8_from rfl rfl (md_from I A q hq2 hq b (by omega)) ⟨by decide, by decide⟩ (Nat.le_of_ble_eq_true rfl) rfl (fun r I' A' hq => ?_)
  obtain ⟨rfl, rfl, rfl⟩ := hq
  refine V.st (st' := [.int (mz_from (A m_classes) (A m_homes) (A m_fetches) (A m_into) q b), .int (mz_to (A m_classes) (A m_homes) a), .int (nI 1), .ref mM]) rfl ?_
  refine V.iconst (v := nI 0) (by decide) dX8_makeStep_205 ?_
  refine V.cV (As := [.int (nI 1), .int (mz_to (A m_classes) (A m_homes) a), .int (mz_from (A m_classes) (A m_homes) (A m_fetches) (A m_into) q b), .int (nI 0)]) (st := []) dX8_makeStep_206 sX8_133 iX8_lay lX8_lay rfl rfl (md_lay I A g n hg (by omega) _ _ _ _) ⟨by decide, by decide⟩ (Nat.le_of_ble_eq_true rfl) rfl (fun r I' A' hq => ?_)
  obtain ⟨rfl, rfl, rfl⟩ := hq
  refine V.st (st' := []) rfl ?_
  refine V.goto (tgt := 313) dX8_makeStep_209 (by decide) ?_
  refine V.fewer [0, 1] rfl ?_
  exact hk
set_option maxRecDepth 100000 in
set_option maxHeartbeats 4000000 in
theorem ml_step2_2 {G : am_G} {Fn : Array Value → State → List Frame → State → Prop} (I A : Nat → Nat → Int32) (s q : Nat) (hq2 : q ≤ 2) (hq : I mM 25 = nI q) (a : Nat) (ha : a < 24) (b : Nat) (hb : b < 24) (c : Nat) (hc : c < 24) (g : Nat → Int32) (n : Nat) (hg : A m_items = upd g 0 (nI n)) (hn : n < 395) (hk : V G MX8_makeStep (am_R 2 48 0 0) Fn 0 0 313 [(0, .ref mM), (1, .int (nI s))] [] (hp I (upA (upA A m_code (mz_lay (A m_code) n (nI 2) (mz_to (A m_classes) (A m_homes) a) (mz_from (A m_classes) (A m_homes) (A m_fetches) (A m_into) q b) (mz_from (A m_classes) (A m_homes) (A m_fetches) (A m_into) q c))) m_items (upd g 0 (nI (n + 1)))))) : V G MX8_makeStep (am_R 2 48 0 0) Fn 0 0 121 [(0, .ref mM), (1, .int (nI s)), (2, .int (nI 2)), (3, .int (nI a)), (4, .int (nI b)), (5, .int (nI c))] [] (hp I A) := by
  refine V.iload_n (j := 2) rfl dX8_makeStep_121 ?_
  refine V.tableIn (tgt := 212) dX8_makeStep_122 (by decide) (by decide) rfl (by decide) ?_
  refine V.aload_n (j := 0) rfl dX8_makeStep_212 ?_
  refine V.iload_n (j := 2) rfl dX8_makeStep_213 ?_
  refine V.aload_n (j := 0) rfl dX8_makeStep_214 ?_
  refine V.iload_n (j := 3) rfl dX8_makeStep_215 ?_
  refine V.cV (As := [.int (nI a)]) (st := [.int (nI 2), .ref mM]) dX8_makeStep_216 sX8_141 iX8_to lX8_to rfl rfl (md_to I A a (by omega)) ⟨by decide, by decide⟩ (Nat.le_of_ble_eq_true rfl) rfl (fun r I' A' hq => ?_)
  obtain ⟨rfl, rfl, rfl⟩ := hq
  refine V.st (st' := [.int (mz_to (A m_classes) (A m_homes) a), .int (nI 2), .ref mM]) rfl ?_
  refine V.aload_n (j := 0) rfl dX8_makeStep_219 ?_
  refine V.iload (j := 4) rfl dX8_makeStep_220 ?_
  refine V.cV (As := [.int (nI b)]) (st := [.int (mz_to (A m_classes) (A m_homes) a), .int (nI 2), .ref mM]) dX8_makeStep_222 sX8_144 iX8_from lX8_from rfl rfl (md_from I A q hq2 hq b (by omega)) ⟨by decide, by decide⟩ (Nat.le_of_ble_eq_true rfl) rfl (fun r I' A' hq => ?_)
  obtain ⟨rfl, rfl, rfl⟩ := hq
  refine V.st (st' := [.int (mz_from (A m_classes) (A m_homes) (A m_fetches) (A m_into) q b), .int (mz_to (A m_classes) (A m_homes) a), .int (nI 2), .ref mM]) rfl ?_
  refine V.aload_n (j := 0) rfl dX8_makeStep_225 ?_
  refine V.iload (j := 5) rfl dX8_makeStep_226 ?_
  refine V.cV (As := [.int (nI c)]) (st := [.int (mz_from (A m_classes) (A m_homes) (A m_fetches) (A m_into) q b), .int (mz_to (A m_classes) (A m_homes) a), .int (nI 2), .ref mM]) dX8_makeStep_228 sX8_144 iX8_from lX8_from rfl rfl (md_from I A q hq2 hq c (by omega)) ⟨by decide, by decide⟩ (Nat.le_of_ble_eq_true rfl) rfl (fun r I' A' hq => ?_)
  obtain ⟨rfl, rfl, rfl⟩ := hq
  refine V.st (st' := [.int (mz_from (A m_classes) (A m_homes) (A m_fetches) (A m_into) q c), .int (mz_from (A m_classes) (A m_homes) (A m_fetches) (A m_into) q b), .int (mz_to (A m_classes) (A m_homes) a), .int (nI 2), .ref mM]) rfl ?_
  refine V.cV (As := [.int (nI 2), .int (mz_to (A m_classes) (A m_homes) a), .int (mz_from (A m_classes) (A m_homes) (A m_fetches) (A m_into) q b), .int (mz_from (A m_classes) (A m_homes) (A m_fetches) (A m_into) q c)]) (st := []) dX8_makeStep_231 sX8_133 iX8_lay lX8_lay rfl rfl (md_lay I A g n hg (by omega) _ _ _ _) ⟨by decide, by decide⟩ (Nat.le_of_ble_eq_true rfl) rfl (fun r I' A' hq => ?_)
  obtain ⟨rfl, rfl, rfl⟩ := hq
  refine V.st (st' := []) rfl ?_
  refine V.goto (tgt := 313) dX8_makeStep_234 (by decide) ?_
  refine V.fewer [0, 1] rfl ?_
  exact hk
set_option maxRecDepth 100000 in
set_option maxHeartbeats 4000000 in
theorem ml_step2_3 {G : am_G} {Fn : Array Value → State → List Frame → State → Prop} (I A : Nat → Nat → Int32) (s q : Nat) (hq2 : q ≤ 2) (hq : I mM 25 = nI q) (a : Nat) (ha : a < 24) (b : Nat) (hb : b < 24) (c : Nat) (hc : c < 24) (g : Nat → Int32) (n : Nat) (hg : A m_items = upd g 0 (nI n)) (hn : n < 395) (hk : V G MX8_makeStep (am_R 2 48 0 0) Fn 0 0 313 [(0, .ref mM), (1, .int (nI s))] [] (hp I (upA (upA A m_code (mz_lay (A m_code) n (nI 3) (mz_to (A m_classes) (A m_homes) a) (mz_from (A m_classes) (A m_homes) (A m_fetches) (A m_into) q b) (mz_from (A m_classes) (A m_homes) (A m_fetches) (A m_into) q c))) m_items (upd g 0 (nI (n + 1)))))) : V G MX8_makeStep (am_R 2 48 0 0) Fn 0 0 121 [(0, .ref mM), (1, .int (nI s)), (2, .int (nI 3)), (3, .int (nI a)), (4, .int (nI b)), (5, .int (nI c))] [] (hp I A) := by
  refine V.iload_n (j := 2) rfl dX8_makeStep_121 ?_
  refine V.tableIn (tgt := 212) dX8_makeStep_122 (by decide) (by decide) rfl (by decide) ?_
  refine V.aload_n (j := 0) rfl dX8_makeStep_212 ?_
  refine V.iload_n (j := 2) rfl dX8_makeStep_213 ?_
  refine V.aload_n (j := 0) rfl dX8_makeStep_214 ?_
  refine V.iload_n (j := 3) rfl dX8_makeStep_215 ?_
  refine V.cV (As := [.int (nI a)]) (st := [.int (nI 3), .ref mM]) dX8_makeStep_216 sX8_141 iX8_to lX8_to rfl rfl (md_to I A a (by omega)) ⟨by decide, by decide⟩ (Nat.le_of_ble_eq_true rfl) rfl (fun r I' A' hq => ?_)
  obtain ⟨rfl, rfl, rfl⟩ := hq
  refine V.st (st' := [.int (mz_to (A m_classes) (A m_homes) a), .int (nI 3), .ref mM]) rfl ?_
  refine V.aload_n (j := 0) rfl dX8_makeStep_219 ?_
  refine V.iload (j := 4) rfl dX8_makeStep_220 ?_
  refine V.cV (As := [.int (nI b)]) (st := [.int (mz_to (A m_classes) (A m_homes) a), .int (nI 3), .ref mM]) dX8_makeStep_222 sX8_144 iX8_from lX8_from rfl rfl (md_from I A q hq2 hq b (by omega)) ⟨by decide, by decide⟩ (Nat.le_of_ble_eq_true rfl) rfl (fun r I' A' hq => ?_)
  obtain ⟨rfl, rfl, rfl⟩ := hq
  refine V.st (st' := [.int (mz_from (A m_classes) (A m_homes) (A m_fetches) (A m_into) q b), .int (mz_to (A m_classes) (A m_homes) a), .int (nI 3), .ref mM]) rfl ?_
  refine V.aload_n (j := 0) rfl dX8_makeStep_225 ?_
  refine V.iload (j := 5) rfl dX8_makeStep_226 ?_
  refine V.cV (As := [.int (nI c)]) (st := [.int (mz_from (A m_classes) (A m_homes) (A m_fetches) (A m_into) q b), .int (mz_to (A m_classes) (A m_homes) a), .int (nI 3), .ref mM]) dX8_makeStep_228 sX8_144 iX8_from lX8_from rfl rfl (md_from I A q hq2 hq c (by omega)) ⟨by decide, by decide⟩ (Nat.le_of_ble_eq_true rfl) rfl (fun r I' A' hq => ?_)
  obtain ⟨rfl, rfl, rfl⟩ := hq
  refine V.st (st' := [.int (mz_from (A m_classes) (A m_homes) (A m_fetches) (A m_into) q c), .int (mz_from (A m_classes) (A m_homes) (A m_fetches) (A m_into) q b), .int (mz_to (A m_classes) (A m_homes) a), .int (nI 3), .ref mM]) rfl ?_
  refine V.cV (As := [.int (nI 3), .int (mz_to (A m_classes) (A m_homes) a), .int (mz_from (A m_classes) (A m_homes) (A m_fetches) (A m_into) q b), .int (mz_from (A m_classes) (A m_homes) (A m_fetches) (A m_into) q c)]) (st := []) dX8_makeStep_231 sX8_133 iX8_lay lX8_lay rfl rfl (md_lay I A g n hg (by omega) _ _ _ _) ⟨by decide, by decide⟩ (Nat.le_of_ble_eq_true rfl) rfl (fun r I' A' hq => ?_)
  obtain ⟨rfl, rfl, rfl⟩ := hq
  refine V.st (st' := []) rfl ?_
  refine V.goto (tgt := 313) dX8_makeStep_234 (by decide) ?_
  refine V.fewer [0, 1] rfl ?_
  exact hk
set_option maxRecDepth 100000 in
set_option maxHeartbeats 4000000 in
theorem ml_step2_4 {G : am_G} {Fn : Array Value → State → List Frame → State → Prop} (I A : Nat → Nat → Int32) (s q : Nat) (hq2 : q ≤ 2) (hq : I mM 25 = nI q) (a : Nat) (ha : a < 24) (b : Nat) (hb : b < 24) (c : Nat) (hc : c < 24) (g : Nat → Int32) (n : Nat) (hg : A m_items = upd g 0 (nI n)) (hn : n < 395) (hk : V G MX8_makeStep (am_R 2 48 0 0) Fn 0 0 313 [(0, .ref mM), (1, .int (nI s))] [] (hp I (upA (upA A m_code (mz_lay (A m_code) n (nI 4) (mz_to (A m_classes) (A m_homes) a) (mz_from (A m_classes) (A m_homes) (A m_fetches) (A m_into) q b) (mz_from (A m_classes) (A m_homes) (A m_fetches) (A m_into) q c))) m_items (upd g 0 (nI (n + 1)))))) : V G MX8_makeStep (am_R 2 48 0 0) Fn 0 0 121 [(0, .ref mM), (1, .int (nI s)), (2, .int (nI 4)), (3, .int (nI a)), (4, .int (nI b)), (5, .int (nI c))] [] (hp I A) := by
  refine V.iload_n (j := 2) rfl dX8_makeStep_121 ?_
  refine V.tableIn (tgt := 212) dX8_makeStep_122 (by decide) (by decide) rfl (by decide) ?_
  refine V.aload_n (j := 0) rfl dX8_makeStep_212 ?_
  refine V.iload_n (j := 2) rfl dX8_makeStep_213 ?_
  refine V.aload_n (j := 0) rfl dX8_makeStep_214 ?_
  refine V.iload_n (j := 3) rfl dX8_makeStep_215 ?_
  refine V.cV (As := [.int (nI a)]) (st := [.int (nI 4), .ref mM]) dX8_makeStep_216 sX8_141 iX8_to lX8_to rfl rfl (md_to I A a (by omega)) ⟨by decide, by decide⟩ (Nat.le_of_ble_eq_true rfl) rfl (fun r I' A' hq => ?_)
  obtain ⟨rfl, rfl, rfl⟩ := hq
  refine V.st (st' := [.int (mz_to (A m_classes) (A m_homes) a), .int (nI 4), .ref mM]) rfl ?_
  refine V.aload_n (j := 0) rfl dX8_makeStep_219 ?_
  refine V.iload (j := 4) rfl dX8_makeStep_220 ?_
  refine V.cV (As := [.int (nI b)]) (st := [.int (mz_to (A m_classes) (A m_homes) a), .int (nI 4), .ref mM]) dX8_makeStep_222 sX8_144 iX8_from lX8_from rfl rfl (md_from I A q hq2 hq b (by omega)) ⟨by decide, by decide⟩ (Nat.le_of_ble_eq_true rfl) rfl (fun r I' A' hq => ?_)
  obtain ⟨rfl, rfl, rfl⟩ := hq
  refine V.st (st' := [.int (mz_from (A m_classes) (A m_homes) (A m_fetches) (A m_into) q b), .int (mz_to (A m_classes) (A m_homes) a), .int (nI 4), .ref mM]) rfl ?_
  refine V.aload_n (j := 0) rfl dX8_makeStep_225 ?_
  refine V.iload (j := 5) rfl dX8_makeStep_226 ?_
  refine V.cV (As := [.int (nI c)]) (st := [.int (mz_from (A m_classes) (A m_homes) (A m_fetches) (A m_into) q b), .int (mz_to (A m_classes) (A m_homes) a), .int (nI 4), .ref mM]) dX8_makeStep_228 sX8_144 iX8_from lX8_from rfl rfl (md_from I A q hq2 hq c (by omega)) ⟨by decide, by decide⟩ (Nat.le_of_ble_eq_true rfl) rfl (fun r I' A' hq => ?_)
  obtain ⟨rfl, rfl, rfl⟩ := hq
  refine V.st (st' := [.int (mz_from (A m_classes) (A m_homes) (A m_fetches) (A m_into) q c), .int (mz_from (A m_classes) (A m_homes) (A m_fetches) (A m_into) q b), .int (mz_to (A m_classes) (A m_homes) a), .int (nI 4), .ref mM]) rfl ?_
  refine V.cV (As := [.int (nI 4), .int (mz_to (A m_classes) (A m_homes) a), .int (mz_from (A m_classes) (A m_homes) (A m_fetches) (A m_into) q b), .int (mz_from (A m_classes) (A m_homes) (A m_fetches) (A m_into) q c)]) (st := []) dX8_makeStep_231 sX8_133 iX8_lay lX8_lay rfl rfl (md_lay I A g n hg (by omega) _ _ _ _) ⟨by decide, by decide⟩ (Nat.le_of_ble_eq_true rfl) rfl (fun r I' A' hq => ?_)
  obtain ⟨rfl, rfl, rfl⟩ := hq
  refine V.st (st' := []) rfl ?_
  refine V.goto (tgt := 313) dX8_makeStep_234 (by decide) ?_
  refine V.fewer [0, 1] rfl ?_
  exact hk
set_option maxRecDepth 100000 in
set_option maxHeartbeats 4000000 in
theorem ml_step2_5 {G : am_G} {Fn : Array Value → State → List Frame → State → Prop} (I A : Nat → Nat → Int32) (s q : Nat) (hq2 : q ≤ 2) (hq : I mM 25 = nI q) (a : Nat) (ha : a < 24) (b : Nat) (hb : b < 24) (xc : Int32) (g : Nat → Int32) (n : Nat) (hg : A m_items = upd g 0 (nI n)) (hn : n < 395) (hk : V G MX8_makeStep (am_R 2 48 0 0) Fn 0 0 313 [(0, .ref mM), (1, .int (nI s))] [] (hp I (upA (upA A m_code (mz_lay (A m_code) n (nI 5) (mz_to (A m_classes) (A m_homes) a) (mz_from (A m_classes) (A m_homes) (A m_fetches) (A m_into) q b) (xc))) m_items (upd g 0 (nI (n + 1)))))) : V G MX8_makeStep (am_R 2 48 0 0) Fn 0 0 121 [(0, .ref mM), (1, .int (nI s)), (2, .int (nI 5)), (3, .int (nI a)), (4, .int (nI b)), (5, .int xc)] [] (hp I A) := by
  refine V.iload_n (j := 2) rfl dX8_makeStep_121 ?_
  refine V.tableIn (tgt := 237) dX8_makeStep_122 (by decide) (by decide) rfl (by decide) ?_
  refine V.aload_n (j := 0) rfl dX8_makeStep_237 ?_
  refine V.iload_n (j := 2) rfl dX8_makeStep_238 ?_
  refine V.aload_n (j := 0) rfl dX8_makeStep_239 ?_
  refine V.iload_n (j := 3) rfl dX8_makeStep_240 ?_
  refine V.cV (As := [.int (nI a)]) (st := [.int (nI 5), .ref mM]) dX8_makeStep_241 sX8_141 iX8_to lX8_to rfl rfl (md_to I A a (by omega)) ⟨by decide, by decide⟩ (Nat.le_of_ble_eq_true rfl) rfl (fun r I' A' hq => ?_)
  obtain ⟨rfl, rfl, rfl⟩ := hq
  refine V.st (st' := [.int (mz_to (A m_classes) (A m_homes) a), .int (nI 5), .ref mM]) rfl ?_
  refine V.aload_n (j := 0) rfl dX8_makeStep_244 ?_
  refine V.iload (j := 4) rfl dX8_makeStep_245 ?_
  refine V.cV (As := [.int (nI b)]) (st := [.int (mz_to (A m_classes) (A m_homes) a), .int (nI 5), .ref mM]) dX8_makeStep_247 sX8_144 iX8_from lX8_from rfl rfl (md_from I A q hq2 hq b (by omega)) ⟨by decide, by decide⟩ (Nat.le_of_ble_eq_true rfl) rfl (fun r I' A' hq => ?_)
  obtain ⟨rfl, rfl, rfl⟩ := hq
  refine V.st (st' := [.int (mz_from (A m_classes) (A m_homes) (A m_fetches) (A m_into) q b), .int (mz_to (A m_classes) (A m_homes) a), .int (nI 5), .ref mM]) rfl ?_
  refine V.iload (j := 5) rfl dX8_makeStep_250 ?_
  refine V.cV (As := [.int (nI 5), .int (mz_to (A m_classes) (A m_homes) a), .int (mz_from (A m_classes) (A m_homes) (A m_fetches) (A m_into) q b), .int xc]) (st := []) dX8_makeStep_252 sX8_133 iX8_lay lX8_lay rfl rfl (md_lay I A g n hg (by omega) _ _ _ _) ⟨by decide, by decide⟩ (Nat.le_of_ble_eq_true rfl) rfl (fun r I' A' hq => ?_)
  obtain ⟨rfl, rfl, rfl⟩ := hq
  refine V.st (st' := []) rfl ?_
  refine V.goto (tgt := 313) dX8_makeStep_255 (by decide) ?_
  refine V.fewer [0, 1] rfl ?_
  exact hk
set_option maxRecDepth 100000 in
set_option maxHeartbeats 4000000 in
theorem ml_step2_6 {G : am_G} {Fn : Array Value → State → List Frame → State → Prop} (I A : Nat → Nat → Int32) (s q : Nat) (hq2 : q ≤ 2) (hq : I mM 25 = nI q) (a : Nat) (ha : a < 24) (b : Nat) (hb : b < 24) (xc : Int32) (g : Nat → Int32) (n : Nat) (hg : A m_items = upd g 0 (nI n)) (hn : n < 395) (hk : V G MX8_makeStep (am_R 2 48 0 0) Fn 0 0 313 [(0, .ref mM), (1, .int (nI s))] [] (hp I (upA (upA A m_code (mz_lay (A m_code) n (nI 6) (mz_from (A m_classes) (A m_homes) (A m_fetches) (A m_into) q a) (mz_from (A m_classes) (A m_homes) (A m_fetches) (A m_into) q b) (xc))) m_items (upd g 0 (nI (n + 1)))))) : V G MX8_makeStep (am_R 2 48 0 0) Fn 0 0 121 [(0, .ref mM), (1, .int (nI s)), (2, .int (nI 6)), (3, .int (nI a)), (4, .int (nI b)), (5, .int xc)] [] (hp I A) := by
  refine V.iload_n (j := 2) rfl dX8_makeStep_121 ?_
  refine V.tableIn (tgt := 258) dX8_makeStep_122 (by decide) (by decide) rfl (by decide) ?_
  refine V.aload_n (j := 0) rfl dX8_makeStep_258 ?_
  refine V.iload_n (j := 2) rfl dX8_makeStep_259 ?_
  refine V.aload_n (j := 0) rfl dX8_makeStep_260 ?_
  refine V.iload_n (j := 3) rfl dX8_makeStep_261 ?_
  refine V.cV (As := [.int (nI a)]) (st := [.int (nI 6), .ref mM]) dX8_makeStep_262 sX8_144 iX8_from lX8_from rfl rfl (md_from I A q hq2 hq a (by omega)) ⟨by decide, by decide⟩ (Nat.le_of_ble_eq_true rfl) rfl (fun r I' A' hq => ?_)
  obtain ⟨rfl, rfl, rfl⟩ := hq
  refine V.st (st' := [.int (mz_from (A m_classes) (A m_homes) (A m_fetches) (A m_into) q a), .int (nI 6), .ref mM]) rfl ?_
  refine V.aload_n (j := 0) rfl dX8_makeStep_265 ?_
  refine V.iload (j := 4) rfl dX8_makeStep_266 ?_
  refine V.cV (As := [.int (nI b)]) (st := [.int (mz_from (A m_classes) (A m_homes) (A m_fetches) (A m_into) q a), .int (nI 6), .ref mM]) dX8_makeStep_268 sX8_144 iX8_from lX8_from rfl rfl (md_from I A q hq2 hq b (by omega)) ⟨by decide, by decide⟩ (Nat.le_of_ble_eq_true rfl) rfl (fun r I' A' hq => ?_)
  obtain ⟨rfl, rfl, rfl⟩ := hq
  refine V.st (st' := [.int (mz_from (A m_classes) (A m_homes) (A m_fetches) (A m_into) q b), .int (mz_from (A m_classes) (A m_homes) (A m_fetches) (A m_into) q a), .int (nI 6), .ref mM]) rfl ?_
  refine V.iload (j := 5) rfl dX8_makeStep_271 ?_
  refine V.cV (As := [.int (nI 6), .int (mz_from (A m_classes) (A m_homes) (A m_fetches) (A m_into) q a), .int (mz_from (A m_classes) (A m_homes) (A m_fetches) (A m_into) q b), .int xc]) (st := []) dX8_makeStep_273 sX8_133 iX8_lay lX8_lay rfl rfl (md_lay I A g n hg (by omega) _ _ _ _) ⟨by decide, by decide⟩ (Nat.le_of_ble_eq_true rfl) rfl (fun r I' A' hq => ?_)
  obtain ⟨rfl, rfl, rfl⟩ := hq
  refine V.st (st' := []) rfl ?_
  refine V.goto (tgt := 313) dX8_makeStep_276 (by decide) ?_
  refine V.fewer [0, 1] rfl ?_
  exact hk
set_option maxRecDepth 100000 in
set_option maxHeartbeats 4000000 in
theorem ml_step2_7 {G : am_G} {Fn : Array Value → State → List Frame → State → Prop} (I A : Nat → Nat → Int32) (s q : Nat) (hq2 : q ≤ 2) (hq : I mM 25 = nI q) (a : Nat) (ha : a < 24) (b : Nat) (hb : b < 24) (xc : Int32) (g : Nat → Int32) (n : Nat) (hg : A m_items = upd g 0 (nI n)) (hn : n < 395) (hk : V G MX8_makeStep (am_R 2 48 0 0) Fn 0 0 313 [(0, .ref mM), (1, .int (nI s))] [] (hp I (upA (upA A m_code (mz_lay (A m_code) n (nI 7) (mz_from (A m_classes) (A m_homes) (A m_fetches) (A m_into) q a) (mz_from (A m_classes) (A m_homes) (A m_fetches) (A m_into) q b) (xc))) m_items (upd g 0 (nI (n + 1)))))) : V G MX8_makeStep (am_R 2 48 0 0) Fn 0 0 121 [(0, .ref mM), (1, .int (nI s)), (2, .int (nI 7)), (3, .int (nI a)), (4, .int (nI b)), (5, .int xc)] [] (hp I A) := by
  refine V.iload_n (j := 2) rfl dX8_makeStep_121 ?_
  refine V.tableIn (tgt := 258) dX8_makeStep_122 (by decide) (by decide) rfl (by decide) ?_
  refine V.aload_n (j := 0) rfl dX8_makeStep_258 ?_
  refine V.iload_n (j := 2) rfl dX8_makeStep_259 ?_
  refine V.aload_n (j := 0) rfl dX8_makeStep_260 ?_
  refine V.iload_n (j := 3) rfl dX8_makeStep_261 ?_
  refine V.cV (As := [.int (nI a)]) (st := [.int (nI 7), .ref mM]) dX8_makeStep_262 sX8_144 iX8_from lX8_from rfl rfl (md_from I A q hq2 hq a (by omega)) ⟨by decide, by decide⟩ (Nat.le_of_ble_eq_true rfl) rfl (fun r I' A' hq => ?_)
  obtain ⟨rfl, rfl, rfl⟩ := hq
  refine V.st (st' := [.int (mz_from (A m_classes) (A m_homes) (A m_fetches) (A m_into) q a), .int (nI 7), .ref mM]) rfl ?_
  refine V.aload_n (j := 0) rfl dX8_makeStep_265 ?_
  refine V.iload (j := 4) rfl dX8_makeStep_266 ?_
  refine V.cV (As := [.int (nI b)]) (st := [.int (mz_from (A m_classes) (A m_homes) (A m_fetches) (A m_into) q a), .int (nI 7), .ref mM]) dX8_makeStep_268 sX8_144 iX8_from lX8_from rfl rfl (md_from I A q hq2 hq b (by omega)) ⟨by decide, by decide⟩ (Nat.le_of_ble_eq_true rfl) rfl (fun r I' A' hq => ?_)
  obtain ⟨rfl, rfl, rfl⟩ := hq
  refine V.st (st' := [.int (mz_from (A m_classes) (A m_homes) (A m_fetches) (A m_into) q b), .int (mz_from (A m_classes) (A m_homes) (A m_fetches) (A m_into) q a), .int (nI 7), .ref mM]) rfl ?_
  refine V.iload (j := 5) rfl dX8_makeStep_271 ?_
  refine V.cV (As := [.int (nI 7), .int (mz_from (A m_classes) (A m_homes) (A m_fetches) (A m_into) q a), .int (mz_from (A m_classes) (A m_homes) (A m_fetches) (A m_into) q b), .int xc]) (st := []) dX8_makeStep_273 sX8_133 iX8_lay lX8_lay rfl rfl (md_lay I A g n hg (by omega) _ _ _ _) ⟨by decide, by decide⟩ (Nat.le_of_ble_eq_true rfl) rfl (fun r I' A' hq => ?_)
  obtain ⟨rfl, rfl, rfl⟩ := hq
  refine V.st (st' := []) rfl ?_
  refine V.goto (tgt := 313) dX8_makeStep_276 (by decide) ?_
  refine V.fewer [0, 1] rfl ?_
  exact hk
set_option maxRecDepth 100000 in
set_option maxHeartbeats 4000000 in
theorem ml_step2_8 {G : am_G} {Fn : Array Value → State → List Frame → State → Prop} (I A : Nat → Nat → Int32) (s q : Nat) (hq2 : q ≤ 2) (hq : I mM 25 = nI q) (xa : Int32) (xb : Int32) (xc : Int32) (g : Nat → Int32) (n : Nat) (hg : A m_items = upd g 0 (nI n)) (hn : n < 395) (hk : V G MX8_makeStep (am_R 2 48 0 0) Fn 0 0 313 [(0, .ref mM), (1, .int (nI s))] [] (hp I (upA (upA A m_code (mz_lay (A m_code) n (nI 8) (xa) (nI 0) (nI 0))) m_items (upd g 0 (nI (n + 1)))))) : V G MX8_makeStep (am_R 2 48 0 0) Fn 0 0 121 [(0, .ref mM), (1, .int (nI s)), (2, .int (nI 8)), (3, .int xa), (4, .int xb), (5, .int xc)] [] (hp I A) := by
  refine V.iload_n (j := 2) rfl dX8_makeStep_121 ?_
  refine V.tableIn (tgt := 279) dX8_makeStep_122 (by decide) (by decide) rfl (by decide) ?_
  refine V.aload_n (j := 0) rfl dX8_makeStep_279 ?_
  refine V.iload_n (j := 2) rfl dX8_makeStep_280 ?_
  refine V.iload_n (j := 3) rfl dX8_makeStep_281 ?_
  refine V.iconst (v := nI 0) (by decide) dX8_makeStep_282 ?_
  refine V.iconst (v := nI 0) (by decide) dX8_makeStep_283 ?_
  refine V.cV (As := [.int (nI 8), .int xa, .int (nI 0), .int (nI 0)]) (st := []) dX8_makeStep_284 sX8_133 iX8_lay lX8_lay rfl rfl (md_lay I A g n hg (by omega) _ _ _ _) ⟨by decide, by decide⟩ (Nat.le_of_ble_eq_true rfl) rfl (fun r I' A' hq => ?_)
  obtain ⟨rfl, rfl, rfl⟩ := hq
  refine V.st (st' := []) rfl ?_
  refine V.goto (tgt := 313) dX8_makeStep_287 (by decide) ?_
  refine V.fewer [0, 1] rfl ?_
  exact hk
set_option maxRecDepth 100000 in
set_option maxHeartbeats 4000000 in
theorem ml_step2_9 {G : am_G} {Fn : Array Value → State → List Frame → State → Prop} (I A : Nat → Nat → Int32) (s q : Nat) (hq2 : q ≤ 2) (hq : I mM 25 = nI q) (a : Nat) (ha : a < 24) (xb : Int32) (xc : Int32) (g : Nat → Int32) (n : Nat) (hg : A m_items = upd g 0 (nI n)) (hn : n < 395) (hk : V G MX8_makeStep (am_R 2 48 0 0) Fn 0 0 313 [(0, .ref mM), (1, .int (nI s))] [] (hp I (upA (upA A m_code (mz_lay (A m_code) n (nI 9) (mz_from (A m_classes) (A m_homes) (A m_fetches) (A m_into) q a) (nI 0) (nI 0))) m_items (upd g 0 (nI (n + 1)))))) : V G MX8_makeStep (am_R 2 48 0 0) Fn 0 0 121 [(0, .ref mM), (1, .int (nI s)), (2, .int (nI 9)), (3, .int (nI a)), (4, .int xb), (5, .int xc)] [] (hp I A) := by
  refine V.iload_n (j := 2) rfl dX8_makeStep_121 ?_
  refine V.tableIn (tgt := 290) dX8_makeStep_122 (by decide) (by decide) rfl (by decide) ?_
  refine V.aload_n (j := 0) rfl dX8_makeStep_290 ?_
  refine V.iload_n (j := 2) rfl dX8_makeStep_291 ?_
  refine V.aload_n (j := 0) rfl dX8_makeStep_292 ?_
  refine V.iload_n (j := 3) rfl dX8_makeStep_293 ?_
  refine V.cV (As := [.int (nI a)]) (st := [.int (nI 9), .ref mM]) dX8_makeStep_294 sX8_144 iX8_from lX8_from rfl rfl (md_from I A q hq2 hq a (by omega)) ⟨by decide, by decide⟩ (Nat.le_of_ble_eq_true rfl) rfl (fun r I' A' hq => ?_)
  obtain ⟨rfl, rfl, rfl⟩ := hq
  refine V.st (st' := [.int (mz_from (A m_classes) (A m_homes) (A m_fetches) (A m_into) q a), .int (nI 9), .ref mM]) rfl ?_
  refine V.iconst (v := nI 0) (by decide) dX8_makeStep_297 ?_
  refine V.iconst (v := nI 0) (by decide) dX8_makeStep_298 ?_
  refine V.cV (As := [.int (nI 9), .int (mz_from (A m_classes) (A m_homes) (A m_fetches) (A m_into) q a), .int (nI 0), .int (nI 0)]) (st := []) dX8_makeStep_299 sX8_133 iX8_lay lX8_lay rfl rfl (md_lay I A g n hg (by omega) _ _ _ _) ⟨by decide, by decide⟩ (Nat.le_of_ble_eq_true rfl) rfl (fun r I' A' hq => ?_)
  obtain ⟨rfl, rfl, rfl⟩ := hq
  refine V.st (st' := []) rfl ?_
  refine V.goto (tgt := 313) dX8_makeStep_302 (by decide) ?_
  refine V.fewer [0, 1] rfl ?_
  exact hk
set_option maxRecDepth 100000 in
set_option maxHeartbeats 4000000 in
theorem ml_step2_10 {G : am_G} {Fn : Array Value → State → List Frame → State → Prop} (I A : Nat → Nat → Int32) (s q : Nat) (hq2 : q ≤ 2) (hq : I mM 25 = nI q) (xa : Int32) (xb : Int32) (xc : Int32) (g : Nat → Int32) (n : Nat) (hg : A m_items = upd g 0 (nI n)) (hn : n < 395) (hk : V G MX8_makeStep (am_R 2 48 0 0) Fn 0 0 313 [(0, .ref mM), (1, .int (nI s))] [] (hp I (upA (upA A m_code (mz_lay (A m_code) n (nI 10) (nI 0) (nI 0) (nI 0))) m_items (upd g 0 (nI (n + 1)))))) : V G MX8_makeStep (am_R 2 48 0 0) Fn 0 0 121 [(0, .ref mM), (1, .int (nI s)), (2, .int (nI 10)), (3, .int xa), (4, .int xb), (5, .int xc)] [] (hp I A) := by
  refine V.iload_n (j := 2) rfl dX8_makeStep_121 ?_
  refine V.tableOut (tgt := 305) dX8_makeStep_122 (by decide) (by decide) ?_
  refine V.aload_n (j := 0) rfl dX8_makeStep_305 ?_
  refine V.iload_n (j := 2) rfl dX8_makeStep_306 ?_
  refine V.iconst (v := nI 0) (by decide) dX8_makeStep_307 ?_
  refine V.iconst (v := nI 0) (by decide) dX8_makeStep_308 ?_
  refine V.iconst (v := nI 0) (by decide) dX8_makeStep_309 ?_
  refine V.cV (As := [.int (nI 10), .int (nI 0), .int (nI 0), .int (nI 0)]) (st := []) dX8_makeStep_310 sX8_133 iX8_lay lX8_lay rfl rfl (md_lay I A g n hg (by omega) _ _ _ _) ⟨by decide, by decide⟩ (Nat.le_of_ble_eq_true rfl) rfl (fun r I' A' hq => ?_)
  obtain ⟨rfl, rfl, rfl⟩ := hq
  refine V.st (st' := []) rfl ?_
  refine V.fewer [0, 1] rfl ?_
  exact hk
/-- a step's KEEP, if its value has a slot -/
def mz_kp (cl hm : Nat → Int32) (v : Int32) (c : Nat → Int32) (n : Nat) : (Nat → Int32) × Nat := if v = (-1) then (c, n) else if hm v.toNatClampNeg < nI 100 then (c, n) else (mz_lay c n (nI 12) (mz_to cl hm v.toNatClampNeg) (hm v.toNatClampNeg - nI 100) (nI 0), n + 1)
theorem mz_kp_m {cl hm c : Nat → Int32} {n : Nat} : mz_kp cl hm (-1) c n = (c, n) := if_pos rfl
theorem mz_kp_r {cl hm c : Nat → Int32} {n v : Nat} (hv : v < 2 ^ 31) (h : hm v < nI 100) : mz_kp cl hm (nI v) c n = (c, n) := by
  unfold mz_kp
  rw [if_neg (nI_nm1 hv), nI_clamp hv, if_pos h]
theorem mz_kp_s {cl hm c : Nat → Int32} {n v : Nat} (hv : v < 2 ^ 31) (h : ¬ hm v < nI 100) : mz_kp cl hm (nI v) c n = (mz_lay c n (nI 12) (mz_to cl hm v) (hm v - nI 100) (nI 0), n + 1) := by
  unfold mz_kp
  rw [if_neg (nI_nm1 hv), nI_clamp hv, if_neg h]
set_option maxRecDepth 100000 in
set_option maxHeartbeats 4000000 in
theorem ml_step3 {G : am_G} {Fn : Array Value → State → List Frame → State → Prop} (I A : Nat → Nat → Int32) (nv : Nat) (hnv : nv ≤ 24) (s : Nat) (hs : s < 60) (hA : mz_anew (A m_ops) (A m_first) s = (-1) ∨ ∃ a, a < nv ∧ mz_anew (A m_ops) (A m_first) s = nI a) (g : Nat → Int32) (n : Nat) (hg : A m_items = upd g 0 (nI n)) (hn : n < 395) (hk : V G MX8_makeStep (am_R 2 48 0 0) Fn 0 0 361 [(0, .ref mM)] [] (hp I (upA (upA A m_code (mz_kp (A m_classes) (A m_homes) (mz_anew (A m_ops) (A m_first) s) (A m_code) n).1) m_items (upd g 0 (nI (mz_kp (A m_classes) (A m_homes) (mz_anew (A m_ops) (A m_first) s) (A m_code) n).2))))) : V G MX8_makeStep (am_R 2 48 0 0) Fn 0 0 313 [(0, .ref mM), (1, .int (nI s))] [] (hp I A) := by
  refine V.aload_n (j := 0) rfl dX8_makeStep_313 ?_
  refine V.iload_n (j := 1) rfl dX8_makeStep_314 ?_
  refine V.cV (As := [.int (nI s)]) (st := []) dX8_makeStep_315 sX8_106 iX8_anew lX8_anew rfl rfl (md_anew I A s (by omega)) ⟨by decide, by decide⟩ (Nat.le_of_ble_eq_true rfl) rfl (fun r I' A' hq => ?_)
  obtain ⟨rfl, rfl, rfl⟩ := hq
  refine V.st (st' := [.int (mz_anew (A m_ops) (A m_first) s)]) rfl ?_
  refine V.istore (ls' := [(0, .ref mM), (1, .int (nI s)), (6, .int (mz_anew (A m_ops) (A m_first) s))]) dX8_makeStep_318 (by decide) rfl ?_
  rcases hA with e0 | ⟨v, hv, e0⟩
  · refine V.lse (ls' := [(0, .ref mM), (1, .int (nI s)), (6, .int ((-1)))]) (by rw [e0]) ?_
    refine V.iload (j := 2) rfl dX8_makeStep_320 ?_
    refine V.iconst (v := (-1)) (by decide) dX8_makeStep_322 ?_
    refine V.icmp_eq (tgt := 361) dX8_makeStep_323 (by decide) (fun _ => ?_) (fun z => absurd rfl z)
    refine V.fewer [0] rfl ?_
    have hk2 := hk
    rw [e0, mz_kp_m] at hk2
    dsimp only at hk2
    rw [upA_i, ← hg, upA_i] at hk2
    exact hk2
  · refine V.lse (ls' := [(0, .ref mM), (1, .int (nI s)), (6, .int (nI v))]) (by rw [e0]) ?_
    refine V.iload (j := 2) rfl dX8_makeStep_320 ?_
    refine V.iconst (v := (-1)) (by decide) dX8_makeStep_322 ?_
    refine V.icmp_eq (tgt := 361) dX8_makeStep_323 (by decide) (fun z => absurd z (nI_nm1 (by omega))) (fun _ => ?_)
    refine V.aload_n (j := 0) rfl dX8_makeStep_326 ?_
    refine V.getr (q := m_homes) dX8_makeStep_327 fX8_46 rfl rfl ?_
    refine V.iload (j := 2) rfl dX8_makeStep_330 ?_
    refine V.lda (v := A m_homes v) dX8_makeStep_332 rfl (by omega) (by decide) rfl ?_
    refine V.bipush (v := nI 100) (by decide) dX8_makeStep_333 ?_
    refine V.icmp_lt (tgt := 361) dX8_makeStep_335 (by decide) (fun c3 => ?_) (fun c3 => ?_)
    · refine V.fewer [0] rfl ?_
      have hk2 := hk
      rw [e0, mz_kp_r (show v < 2 ^ 31 by omega) c3] at hk2
      dsimp only at hk2
      rw [upA_i, ← hg, upA_i] at hk2
      exact hk2
    · refine V.aload_n (j := 0) rfl dX8_makeStep_338 ?_
      refine V.bipush (v := nI 12) (by decide) dX8_makeStep_339 ?_
      refine V.aload_n (j := 0) rfl dX8_makeStep_341 ?_
      refine V.iload (j := 2) rfl dX8_makeStep_342 ?_
      refine V.cV (As := [.int (nI v)]) (st := [.int (nI 12), .ref mM]) dX8_makeStep_344 sX8_141 iX8_to lX8_to rfl rfl (md_to I A v (by omega)) ⟨by decide, by decide⟩ (Nat.le_of_ble_eq_true rfl) rfl (fun r I' A' hq => ?_)
      obtain ⟨rfl, rfl, rfl⟩ := hq
      refine V.st (st' := [.int (mz_to (A m_classes) (A m_homes) v), .int (nI 12), .ref mM]) rfl ?_
      refine V.aload_n (j := 0) rfl dX8_makeStep_347 ?_
      refine V.getr (q := m_homes) dX8_makeStep_348 fX8_46 rfl rfl ?_
      refine V.iload (j := 2) rfl dX8_makeStep_351 ?_
      refine V.lda (v := A m_homes v) dX8_makeStep_353 rfl (by omega) (by decide) rfl ?_
      refine V.bipush (v := nI 100) (by decide) dX8_makeStep_354 ?_
      refine V.isub dX8_makeStep_356 ?_
      refine V.iconst (v := nI 0) (by decide) dX8_makeStep_357 ?_
      refine V.cV (As := [.int (nI 12), .int (mz_to (A m_classes) (A m_homes) v), .int ((A m_homes v) - (nI 100)), .int (nI 0)]) (st := []) dX8_makeStep_358 sX8_133 iX8_lay lX8_lay rfl rfl (md_lay I A g n hg (by omega) _ _ _ _) ⟨by decide, by decide⟩ (Nat.le_of_ble_eq_true rfl) rfl (fun r I' A' hq => ?_)
      obtain ⟨rfl, rfl, rfl⟩ := hq
      refine V.st (st' := []) rfl ?_
      refine V.fewer [0] rfl ?_
      have hk2 := hk
      rw [e0, mz_kp_s (show v < 2 ^ 31 by omega) c3] at hk2
      exact hk2
