set_option maxRecDepth 100000 in
set_option maxHeartbeats 4000000 in
theorem cl_settle1 {G : am_G} {Fn : Array Value → State → List Frame → State → Prop} (I A : Nat → Nat → Int32) (hst : am_sta G) (ns : Nat) (hs : I 4 4 = nI ns) (hns : ns ≤ 60) (nv : Nat) (hnv : nv ≤ 24) (hsw : ∀ s, s < ns → mz_sw nv (A 5 s) (A 6 s) (A 7 s) (A 8 s)) : ∀ (m : Nat) (s : Nat) (f : Nat → Int32) (g : Nat → Int32), s + m = ns → V G MX2_settle (am_R 3 70 0 0) Fn 0 0 42 [(0, .ref 15), (1, .ref 1), (2, .ref 14)] [] (hp I (upA (upA A 17 (mz_meetG (A 5) (A 6) (A 7) (A 8) m s f)) 19 (cz_jj (A 5) (A 6) (A 7) (A 2) m s g))) → V G MX2_settle (am_R 3 70 0 0) Fn 0 0 10 [(0, .ref 15), (1, .ref 1), (2, .ref 14), (3, .int (nI s))] [] (hp I (upA (upA A 17 (f)) 19 (g))) := by
  intro m
  induction m with
  | zero =>
    intro s f g hi0 hk
    refine V.iload_n (j := 3) rfl dX2_settle_10 ?_
    refine V.aload_n (j := 1) rfl dX2_settle_11 ?_
    refine V.getr (q := 4) dX2_settle_12 fX2_37 rfl rfl ?_
    refine V.geti (v := nI ns) dX2_settle_15 fX2_41 rfl rfl hs ?_
    refine V.icmp_geN (tgt := 42) dX2_settle_18 (by decide) (by omega) (by omega) (fun c1 => ?_) (fun c1 => ?_)
    · refine V.fewer [0, 1, 2] rfl ?_
      exact hk
    · exact absurd c1 (by omega)
  | succ m ih =>
    intro s f g hi0 hk
    refine V.iload_n (j := 3) rfl dX2_settle_10 ?_
    refine V.aload_n (j := 1) rfl dX2_settle_11 ?_
    refine V.getr (q := 4) dX2_settle_12 fX2_37 rfl rfl ?_
    refine V.geti (v := nI ns) dX2_settle_15 fX2_41 rfl rfl hs ?_
    refine V.icmp_geN (tgt := 42) dX2_settle_18 (by decide) (by omega) (by omega) (fun c2 => ?_) (fun c2 => ?_)
    · exact absurd c2 (by omega)
    · refine V.aload_n (j := 0) rfl dX2_settle_21 ?_
      refine V.aload_n (j := 1) rfl dX2_settle_22 ?_
      refine V.getr (q := 4) dX2_settle_23 fX2_37 rfl rfl ?_
      refine V.iload_n (j := 3) rfl dX2_settle_26 ?_
      refine V.cV (As := [.ref 4, .int (nI s)]) (st := []) dX2_settle_27 sX2_46 iX2_weigh lX2_weigh rfl rfl (cd_weigh I (upA (upA A 17 (f)) 19 (g)) hst nv hnv s (by omega) (hsw s (by omega))) ⟨by decide, by decide⟩ (Nat.le_of_ble_eq_true rfl) rfl (fun r I' A' hq => ?_)
      obtain ⟨rfl, rfl, rfl⟩ := hq
      refine V.st (st' := []) rfl ?_
      refine V.hpe (A' := (upA (upA A 17 (mz_mG (A 5) (A 6) (A 7) (A 8) s f)) 19 (g))) rfl (upA_r2 (by decide)) ?_
      refine V.aload_n (j := 0) rfl dX2_settle_30 ?_
      refine V.aload_n (j := 1) rfl dX2_settle_31 ?_
      refine V.iload_n (j := 3) rfl dX2_settle_32 ?_
      refine V.cV (As := [.ref 1, .int (nI s)]) (st := []) dX2_settle_33 sX2_50 iX2_join lX2_join rfl rfl (cd_join I (upA (upA A 17 (mz_mG (A 5) (A 6) (A 7) (A 8) s f)) 19 (g)) nv hnv s (by omega) (hsw s (by omega))) ⟨by decide, by decide⟩ (Nat.le_of_ble_eq_true rfl) rfl (fun r I' A' hq => ?_)
      obtain ⟨rfl, rfl, rfl⟩ := hq
      refine V.st (st' := []) rfl ?_
      refine V.hpe (A' := (upA (upA A 17 (mz_mG (A 5) (A 6) (A 7) (A 8) s f)) 19 (cz_j1 (A 5) (A 6) (A 7) (A 2) s g))) rfl upA_u ?_
      refine V.iincN (ls' := [(0, .ref 15), (1, .ref 1), (2, .ref 14), (3, .int (nI (s + 1)))]) dX2_settle_36 (j := 3) rfl (by decide) rfl ?_
      refine V.goto (tgt := 10) dX2_settle_39 (by decide) ?_
      exact ih (s + 1) _ _ (by omega) hk
/-- the homes as they are given, one after another -/
noncomputable def cz_set (cl rg wy jn od : Nat → Int32) : Nat → Nat → (Nat → Int32) → Nat → Int32
  | 0, _, pl => pl
  | m + 1, i, pl => cz_set cl rg wy jn od m (i + 1) (upd pl (od i).toNatClampNeg (nI (cz_pf pl (rg (cl (od i).toNatClampNeg).toNatClampNeg) (wy (od i).toNatClampNeg) (jn (od i).toNatClampNeg))))
set_option maxRecDepth 100000 in
set_option maxHeartbeats 4000000 in
theorem cl_settle3 {G : am_G} {Fn : Array Value → State → List Frame → State → Prop} (I A : Nat → Nat → Int32) (nv : Nat) (hn : I 1 6 = nI nv) (hnv : nv ≤ 24) (hcl : ∀ v, v < nv → ∃ cc, cc < 2 ∧ A 2 v = nI cc) (ho : mz_ok nv nv nv (A 18)) : ∀ (m : Nat) (i : Nat) (h : Nat → Int32), i + m = nv → V G MX2_settle (am_R 3 70 0 0) Fn 0 0 103 [(0, .ref 15)] [] (hp I (upA A 20 (cz_set (A 2) (A 16) (A 14) (A 19) (A 18) m i h))) → V G MX2_settle (am_R 3 70 0 0) Fn 0 0 52 [(0, .ref 15), (1, .ref 1), (2, .ref 14), (3, .int (nI i))] [] (hp I (upA A 20 (h))) := by
  intro m
  induction m with
  | zero =>
    intro i h hi0 hk
    refine V.iload_n (j := 3) rfl dX2_settle_52 ?_
    refine V.aload_n (j := 1) rfl dX2_settle_53 ?_
    refine V.geti (v := nI nv) dX2_settle_54 fX2_27 rfl rfl hn ?_
    refine V.icmp_geN (tgt := 103) dX2_settle_57 (by decide) (by omega) (by omega) (fun c1 => ?_) (fun c1 => ?_)
    · refine V.fewer [0] rfl ?_
      exact hk
    · exact absurd c1 (by omega)
  | succ m ih =>
    intro i h hi0 hk
    obtain ⟨t, ht, et⟩ := ho i (by omega) (by omega)
    obtain ⟨cc, hcc, ec⟩ := hcl t ht
    refine V.iload_n (j := 3) rfl dX2_settle_52 ?_
    refine V.aload_n (j := 1) rfl dX2_settle_53 ?_
    refine V.geti (v := nI nv) dX2_settle_54 fX2_27 rfl rfl hn ?_
    refine V.icmp_geN (tgt := 103) dX2_settle_57 (by decide) (by omega) (by omega) (fun c2 => ?_) (fun c2 => ?_)
    · exact absurd c2 (by omega)
    · refine V.aload_n (j := 0) rfl dX2_settle_60 ?_
      refine V.getr (q := 18) dX2_settle_61 fX2_18 rfl rfl ?_
      refine V.iload_n (j := 3) rfl dX2_settle_64 ?_
      refine V.lda (v := A 18 i) dX2_settle_65 rfl (by omega) (by decide) rfl ?_
      refine V.st (st' := [.int (nI t)]) (by rw [et]) ?_
      refine V.istore (ls' := [(0, .ref 15), (1, .ref 1), (2, .ref 14), (3, .int (nI i)), (4, .int (nI t))]) dX2_settle_66 (by decide) rfl ?_
      refine V.aload_n (j := 0) rfl dX2_settle_68 ?_
      refine V.getr (q := 20) dX2_settle_69 fX2_24 rfl rfl ?_
      refine V.iload (j := 4) rfl dX2_settle_72 ?_
      refine V.aload_n (j := 0) rfl dX2_settle_74 ?_
      refine V.iload (j := 4) rfl dX2_settle_75 ?_
      refine V.aload_n (j := 0) rfl dX2_settle_77 ?_
      refine V.getr (q := 16) dX2_settle_78 fX2_9 rfl rfl ?_
      refine V.aload_n (j := 1) rfl dX2_settle_81 ?_
      refine V.getr (q := 2) dX2_settle_82 fX2_57 rfl rfl ?_
      refine V.iload (j := 4) rfl dX2_settle_85 ?_
      refine V.lda (v := nI cc) dX2_settle_87 rfl (by omega) (by decide) ec ?_
      refine V.lda (v := A 16 cc) dX2_settle_88 rfl (by omega) (by decide) rfl ?_
      refine V.aload_n (j := 2) rfl dX2_settle_89 ?_
      refine V.iload (j := 4) rfl dX2_settle_90 ?_
      refine V.lda (v := A 14 t) dX2_settle_92 rfl (by omega) (by decide) rfl ?_
      refine V.cV (As := [.int (nI t), .int (A 16 cc), .int (A 14 t)]) (st := [.int (nI t), .ref 20]) dX2_settle_93 sX2_60 iX2_placeFor lX2_placeFor rfl rfl (cd_pf I (upA A 20 (h)) t (by omega) _ _) ⟨by decide, by decide⟩ (Nat.le_of_ble_eq_true rfl) rfl (fun r I' A' hq => ?_)
      obtain ⟨rfl, rfl, rfl⟩ := hq
      refine V.st (st' := [.int (nI (cz_pf h (A 16 cc) (A 14 t) (A 19 t))), .int (nI t), .ref 20]) rfl ?_
      refine V.sta (g := upd h t (nI (cz_pf h (A 16 cc) (A 14 t) (A 19 t)))) dX2_settle_96 rfl (by omega) (by decide) rfl ?_
      refine V.hpe (A' := (upA A 20 (upd h t (nI (cz_pf h (A 16 cc) (A 14 t) (A 19 t)))))) rfl upA_u ?_
      refine V.iincN (ls' := [(0, .ref 15), (1, .ref 1), (2, .ref 14), (3, .int (nI (i + 1))), (4, .int (nI t))]) dX2_settle_97 (j := 3) rfl (by decide) rfl ?_
      refine V.goto (tgt := 52) dX2_settle_100 (by decide) ?_
      refine V.fewer [0, 1, 2, 3] rfl ?_
      unfold cz_set at hk
      rw [et, nI_clamp (show t < 2 ^ 31 by omega), ec, nI_clamp (show cc < 2 ^ 31 by omega)] at hk
      exact ih (i + 1) _ (by omega) hk
set_option maxRecDepth 100000 in
set_option maxHeartbeats 4000000 in
theorem cd_settle {G : am_G} (I A : Nat → Nat → Int32) (hst : am_sta G) (nv : Nat) (hn : I 1 6 = nI nv) (hnv : nv ≤ 24) (ns : Nat) (hs : I 4 4 = nI ns) (hns : ns ≤ 60) (hsw : ∀ s, s < ns → mz_sw nv (A 5 s) (A 6 s) (A 7 s) (A 8 s)) (hcl : ∀ v, v < nv → ∃ cc, cc < 2 ∧ A 2 v = nI cc) : Cm G MX2_settle 3 70 [.ref 15, .ref 1, .ref 14] I A (fun r I' A' => r = none ∧ I = I' ∧ upA (upA (upA (upA A 17 (mz_meetG (A 5) (A 6) (A 7) (A 8) ns 0 (mz_fill nv 0 (A 17)))) 19 (cz_jj (A 5) (A 6) (A 7) (A 2) ns 0 (mz_fill nv 0 (A 19)))) 18 (mz_sort (mz_meetG (A 5) (A 6) (A 7) (A 8) ns 0 (mz_fill nv 0 (A 17))) nv 0 (A 18))) 20 (cz_set (A 2) (A 16) (A 14) (cz_jj (A 5) (A 6) (A 7) (A 2) ns 0 (mz_fill nv 0 (A 19))) (mz_sort (mz_meetG (A 5) (A 6) (A 7) (A 8) ns 0 (mz_fill nv 0 (A 17))) nv 0 (A 18)) nv 0 (mz_none nv 0 (A 20))) = A') := by
  refine Cm.of (by decide) (Nat.le_of_ble_eq_true rfl) rfl ?_
  show V G MX2_settle (am_R 3 70 0 0) _ 0 0 0 [(0, .ref 15), (1, .ref 1), (2, .ref 14)] [] (hp I A)
  refine V.aload_n (j := 0) rfl dX2_settle_0 ?_
  refine V.aload_n (j := 1) rfl dX2_settle_1 ?_
  refine V.geti (v := nI nv) dX2_settle_2 fX2_27 rfl rfl hn ?_
  refine V.cV (As := [.int (nI nv)]) (st := []) dX2_settle_5 sX2_33 iX2_forget lX2_forget rfl rfl (cd_forget I A nv hnv) ⟨by decide, by decide⟩ (Nat.le_of_ble_eq_true rfl) rfl (fun r I' A' hq => ?_)
  obtain ⟨rfl, rfl, rfl⟩ := hq
  refine V.st (st' := []) rfl ?_
  refine V.iconst (v := nI 0) (by decide) dX2_settle_8 ?_
  refine V.istore_n (ls' := [(0, .ref 15), (1, .ref 1), (2, .ref 14), (3, .int (nI 0))]) dX2_settle_9 (by decide) rfl ?_
  refine V.hpe (A' := (upA (upA (upA A 20 (mz_none nv 0 (A 20))) 17 (mz_fill nv 0 (A 17))) 19 (mz_fill nv 0 (A 19)))) rfl (by rw [upA_c (a := 19) (b := 20) (by decide), upA_c (a := 17) (b := 20) (by decide)]) ?_
  refine cl_settle1 I (upA A 20 (mz_none nv 0 (A 20))) hst ns hs hns nv hnv hsw ns 0 _ _ (by omega) ?_
  refine V.aload_n (j := 0) rfl dX2_settle_42 ?_
  refine V.aload_n (j := 1) rfl dX2_settle_43 ?_
  refine V.geti (v := nI nv) dX2_settle_44 fX2_27 rfl rfl hn ?_
  refine V.cV (As := [.int (nI nv)]) (st := []) dX2_settle_47 sX2_54 iX2_line lX2_line rfl rfl (cd_line I (upA (upA (upA A 20 (mz_none nv 0 (A 20))) 17 (mz_meetG (A 5) (A 6) (A 7) (A 8) ns 0 (mz_fill nv 0 (A 17)))) 19 (cz_jj (A 5) (A 6) (A 7) (A 2) ns 0 (mz_fill nv 0 (A 19)))) nv hnv) ⟨by decide, by decide⟩ (Nat.le_of_ble_eq_true rfl) rfl (fun r I' A' hq => ?_)
  obtain ⟨rfl, hok, rfl, rfl⟩ := hq
  refine V.st (st' := []) rfl ?_
  refine V.iconst (v := nI 0) (by decide) dX2_settle_50 ?_
  refine V.istore_n (ls' := [(0, .ref 15), (1, .ref 1), (2, .ref 14), (3, .int (nI 0))]) dX2_settle_51 (by decide) rfl ?_
  refine V.hpe (A' := (upA (upA (upA (upA A 17 (mz_meetG (A 5) (A 6) (A 7) (A 8) ns 0 (mz_fill nv 0 (A 17)))) 19 (cz_jj (A 5) (A 6) (A 7) (A 2) ns 0 (mz_fill nv 0 (A 19)))) 18 (mz_sort (mz_meetG (A 5) (A 6) (A 7) (A 8) ns 0 (mz_fill nv 0 (A 17))) nv 0 (A 18))) 20 (mz_none nv 0 (A 20)))) rfl (by show upA (upA (upA (upA A 20 (mz_none nv 0 (A 20))) 17 (mz_meetG (A 5) (A 6) (A 7) (A 8) ns 0 (mz_fill nv 0 (A 17)))) 19 (cz_jj (A 5) (A 6) (A 7) (A 2) ns 0 (mz_fill nv 0 (A 19)))) 18 (mz_sort (mz_meetG (A 5) (A 6) (A 7) (A 8) ns 0 (mz_fill nv 0 (A 17))) nv 0 (A 18)) = _; rw [upA_c (a := 20) (b := 17) (by decide), upA_c (a := 20) (b := 19) (by decide), upA_c (a := 20) (b := 18) (by decide)]) ?_
  refine cl_settle3 I (upA (upA (upA A 17 (mz_meetG (A 5) (A 6) (A 7) (A 8) ns 0 (mz_fill nv 0 (A 17)))) 19 (cz_jj (A 5) (A 6) (A 7) (A 2) ns 0 (mz_fill nv 0 (A 19)))) 18 (mz_sort (mz_meetG (A 5) (A 6) (A 7) (A 8) ns 0 (mz_fill nv 0 (A 17))) nv 0 (A 18))) nv hn hnv hcl hok nv 0 _ (by omega) ?_
  refine V.rv dX2_settle_103 rfl ?_
  exact ⟨rfl, rfl, rfl⟩
theorem kJ6_265 : Cond.constant RJ6 265 1431655765 ∈ am_tbl := am_in 553 (by decide +kernel) (by decide +kernel)
theorem kJ6_266 : Cond.constant RJ6 266 858993459 ∈ am_tbl := am_in 554 (by decide +kernel) (by decide +kernel)
theorem kJ6_267 : Cond.constant RJ6 267 252645135 ∈ am_tbl := am_in 555 (by decide +kernel) (by decide +kernel)
def cz_b1 (x : Int32) : Int32 := x - (((x).toUInt32 >>> ((nI 1).toUInt32 &&& Int32.toUInt32 31)).toInt32 &&& (1431655765 : Int32))
def cz_b2 (x : Int32) : Int32 := (x &&& (858993459 : Int32)) + (((x).toUInt32 >>> ((nI 2).toUInt32 &&& Int32.toUInt32 31)).toInt32 &&& (858993459 : Int32))
def cz_b3 (x : Int32) : Int32 := (x + ((x).toUInt32 >>> ((nI 4).toUInt32 &&& Int32.toUInt32 31)).toInt32) &&& (252645135 : Int32)
def cz_b4 (x : Int32) : Int32 := x + ((x).toUInt32 >>> ((nI 8).toUInt32 &&& Int32.toUInt32 31)).toInt32
def cz_b5 (x : Int32) : Int32 := x + ((x).toUInt32 >>> ((nI 16).toUInt32 &&& Int32.toUInt32 31)).toInt32
def cz_bc (x : Int32) : Int32 := cz_b5 (cz_b4 (cz_b3 (cz_b2 (cz_b1 x)))) &&& nI 63
set_option maxRecDepth 100000 in
set_option maxHeartbeats 4000000 in
theorem cd_bitCount {G : am_G} (I A : Nat → Nat → Int32) (x : Int32) : Cm G MJ6_bitCount_0f7a4 0 0 [.int x] I A (fun r I' A' => r = some (.int (cz_bc x)) ∧ I = I' ∧ A = A') := by
  refine Cm.ofF (by decide +kernel) (Nat.le_of_ble_eq_true rfl) rfl ?_
  show V G MJ6_bitCount_0f7a4 (am_R 0 0 0 0) _ 0 0 0 [(0, .int x)] [] (hp I A)
  refine V.iload_n (j := 0) rfl dJ6_bitCount_0f7a4_0 ?_
  refine V.iload_n (j := 0) rfl dJ6_bitCount_0f7a4_1 ?_
  refine V.iconst (v := nI 1) (by decide) dJ6_bitCount_0f7a4_2 ?_
  refine V.iushr dJ6_bitCount_0f7a4_3 rfl ?_
  refine V.ldcw (v := (1431655765 : Int32)) dJ6_bitCount_0f7a4_4 kJ6_265 ?_
  refine V.iand dJ6_bitCount_0f7a4_7 ?_
  refine V.isub dJ6_bitCount_0f7a4_8 ?_
  refine V.istore_n (ls' := [(0, .int ((x) - ((((x).toUInt32 >>> ((nI 1).toUInt32 &&& Int32.toUInt32 31)).toInt32) &&& (((1431655765 : Int32))))))]) dJ6_bitCount_0f7a4_9 (by decide) rfl ?_
  refine V.lse (ls' := [(0, .int (cz_b1 x))]) rfl ?_
  refine V.iload_n (j := 0) rfl dJ6_bitCount_0f7a4_10 ?_
  refine V.ldcw (v := (858993459 : Int32)) dJ6_bitCount_0f7a4_11 kJ6_266 ?_
  refine V.iand dJ6_bitCount_0f7a4_14 ?_
  refine V.iload_n (j := 0) rfl dJ6_bitCount_0f7a4_15 ?_
  refine V.iconst (v := nI 2) (by decide) dJ6_bitCount_0f7a4_16 ?_
  refine V.iushr dJ6_bitCount_0f7a4_17 rfl ?_
  refine V.ldcw (v := (858993459 : Int32)) dJ6_bitCount_0f7a4_18 kJ6_266 ?_
  refine V.iand dJ6_bitCount_0f7a4_21 ?_
  refine V.iadd dJ6_bitCount_0f7a4_22 ?_
  refine V.istore_n (ls' := [(0, .int (((cz_b1 x) &&& (((858993459 : Int32)))) + ((((cz_b1 x).toUInt32 >>> ((nI 2).toUInt32 &&& Int32.toUInt32 31)).toInt32) &&& (((858993459 : Int32))))))]) dJ6_bitCount_0f7a4_23 (by decide) rfl ?_
  refine V.lse (ls' := [(0, .int (cz_b2 (cz_b1 x)))]) rfl ?_
  refine V.iload_n (j := 0) rfl dJ6_bitCount_0f7a4_24 ?_
  refine V.iload_n (j := 0) rfl dJ6_bitCount_0f7a4_25 ?_
  refine V.iconst (v := nI 4) (by decide) dJ6_bitCount_0f7a4_26 ?_
  refine V.iushr dJ6_bitCount_0f7a4_27 rfl ?_
  refine V.iadd dJ6_bitCount_0f7a4_28 ?_
  refine V.ldcw (v := (252645135 : Int32)) dJ6_bitCount_0f7a4_29 kJ6_267 ?_
  refine V.iand dJ6_bitCount_0f7a4_32 ?_
  refine V.istore_n (ls' := [(0, .int (((cz_b2 (cz_b1 x)) + (((cz_b2 (cz_b1 x)).toUInt32 >>> ((nI 4).toUInt32 &&& Int32.toUInt32 31)).toInt32)) &&& (((252645135 : Int32)))))]) dJ6_bitCount_0f7a4_33 (by decide) rfl ?_
  refine V.lse (ls' := [(0, .int (cz_b3 (cz_b2 (cz_b1 x))))]) rfl ?_
  refine V.iload_n (j := 0) rfl dJ6_bitCount_0f7a4_34 ?_
  refine V.iload_n (j := 0) rfl dJ6_bitCount_0f7a4_35 ?_
  refine V.bipush (v := nI 8) (by decide) dJ6_bitCount_0f7a4_36 ?_
  refine V.iushr dJ6_bitCount_0f7a4_38 rfl ?_
  refine V.iadd dJ6_bitCount_0f7a4_39 ?_
  refine V.istore_n (ls' := [(0, .int ((cz_b3 (cz_b2 (cz_b1 x))) + (((cz_b3 (cz_b2 (cz_b1 x))).toUInt32 >>> ((nI 8).toUInt32 &&& Int32.toUInt32 31)).toInt32)))]) dJ6_bitCount_0f7a4_40 (by decide) rfl ?_
  refine V.lse (ls' := [(0, .int (cz_b4 (cz_b3 (cz_b2 (cz_b1 x)))))]) rfl ?_
  refine V.iload_n (j := 0) rfl dJ6_bitCount_0f7a4_41 ?_
  refine V.iload_n (j := 0) rfl dJ6_bitCount_0f7a4_42 ?_
  refine V.bipush (v := nI 16) (by decide) dJ6_bitCount_0f7a4_43 ?_
  refine V.iushr dJ6_bitCount_0f7a4_45 rfl ?_
  refine V.iadd dJ6_bitCount_0f7a4_46 ?_
  refine V.istore_n (ls' := [(0, .int ((cz_b4 (cz_b3 (cz_b2 (cz_b1 x)))) + (((cz_b4 (cz_b3 (cz_b2 (cz_b1 x)))).toUInt32 >>> ((nI 16).toUInt32 &&& Int32.toUInt32 31)).toInt32)))]) dJ6_bitCount_0f7a4_47 (by decide) rfl ?_
  refine V.lse (ls' := [(0, .int (cz_b5 (cz_b4 (cz_b3 (cz_b2 (cz_b1 x))))))]) rfl ?_
  refine V.iload_n (j := 0) rfl dJ6_bitCount_0f7a4_48 ?_
  refine V.bipush (v := nI 63) (by decide) dJ6_bitCount_0f7a4_49 ?_
  refine V.iand dJ6_bitCount_0f7a4_51 ?_
  refine V.ri dJ6_bitCount_0f7a4_52 rfl ?_
  exact ⟨rfl, rfl, rfl⟩
set_option maxRecDepth 100000 in
set_option maxHeartbeats 4000000 in
theorem cd_slotsOf {G : am_G} (I A : Nat → Nat → Int32) (cc : Nat) (hcc : cc < 2) : Cm G MX2_slotsOf 2 45 [.ref 15, .int (nI cc), .ref 1] I A (fun r I' A' => r = some (.int (cz_bc (cz_po true (nI 100) (A 20) (A 3 cc) 24 0 (nI 0)))) ∧ I = I' ∧ A = A') := by
  refine Cm.of (by decide) (Nat.le_of_ble_eq_true rfl) rfl ?_
  show V G MX2_slotsOf (am_R 2 45 0 0) _ 0 0 0 [(0, .ref 15), (1, .int (nI cc)), (2, .ref 1)] [] (hp I A)
  refine V.aload_n (j := 0) rfl dX2_slotsOf_0 ?_
  refine V.aload_n (j := 2) rfl dX2_slotsOf_1 ?_
  refine V.getr (q := 3) dX2_slotsOf_2 fX2_98 rfl rfl ?_
  refine V.iload_n (j := 1) rfl dX2_slotsOf_5 ?_
  refine V.lda (v := A 3 cc) dX2_slotsOf_6 rfl (by omega) (by decide) rfl ?_
  refine V.bipush (v := nI 100) (by decide) dX2_slotsOf_7 ?_
  refine V.cV (As := [.int (A 3 cc), .int (nI 100)]) (st := []) dX2_slotsOf_9 sX2_88 iX2_placesOf lX2_placesOf rfl rfl (cd_po100 I A _) ⟨by decide, by decide⟩ (Nat.le_of_ble_eq_true rfl) rfl (fun r I' A' hq => ?_)
  obtain ⟨rfl, rfl, rfl⟩ := hq
  refine V.st (st' := [.int (cz_po true (nI 100) (A 20) (A 3 cc) 24 0 (nI 0))]) rfl ?_
  refine V.cS (As := [.int (cz_po true (nI 100) (A 20) (A 3 cc) 24 0 (nI 0))]) (st := []) dX2_slotsOf_12 sX2_101 zJ6_bitCount_0f7a4 (cd_bitCount I A _) ⟨by decide, by decide⟩ (Nat.le_of_ble_eq_true rfl) rfl (fun r I' A' hq => ?_)
  obtain ⟨rfl, rfl, rfl⟩ := hq
  refine V.st (st' := [.int (cz_bc (cz_po true (nI 100) (A 20) (A 3 cc) 24 0 (nI 0)))]) rfl ?_
  refine V.ri dX2_slotsOf_15 rfl ?_
  exact ⟨rfl, rfl, rfl⟩
set_option maxRecDepth 100000 in
set_option maxHeartbeats 4000000 in
theorem cl_clash1 {G : am_G} {Fn : Array Value → State → List Frame → State → Prop} (I A : Nat → Nat → Int32) (nv : Nat) (hnv : nv ≤ 24) (hap : ∀ v u, v < nv → u < v → bg_t (A 14 v) u = true → ¬ A 20 v = A 20 u) (v : Nat) (hv : v < nv) : ∀ (m : Nat) (u : Nat), u + m = v → V G MX2_clash (am_R 1 21 0 0) Fn 0 0 51 [(0, .ref 15), (1, .int (nI nv)), (2, .ref 14), (3, .int (nI v))] [] (hp I A) → V G MX2_clash (am_R 1 21 0 0) Fn 0 0 10 [(0, .ref 15), (1, .int (nI nv)), (2, .ref 14), (3, .int (nI v)), (4, .int (nI u))] [] (hp I A) := by
  intro m
  induction m with
  | zero =>
    intro u hi0 hk
    refine V.iload (j := 4) rfl dX2_clash_10 ?_
    refine V.iload_n (j := 3) rfl dX2_clash_12 ?_
    refine V.icmp_geN (tgt := 51) dX2_clash_13 (by decide) (by omega) (by omega) (fun c1 => ?_) (fun c1 => ?_)
    · refine V.fewer [0, 1, 2, 3] rfl ?_
      exact hk
    · exact absurd c1 (by omega)
  | succ m ih =>
    intro u hi0 hk
    refine V.iload (j := 4) rfl dX2_clash_10 ?_
    refine V.iload_n (j := 3) rfl dX2_clash_12 ?_
    refine V.icmp_geN (tgt := 51) dX2_clash_13 (by decide) (by omega) (by omega) (fun c2 => ?_) (fun c2 => ?_)
    · exact absurd c2 (by omega)
    · refine V.aload_n (j := 2) rfl dX2_clash_16 ?_
      refine V.iload_n (j := 3) rfl dX2_clash_17 ?_
      refine V.lda (v := A 14 v) dX2_clash_18 rfl (by omega) (by decide) rfl ?_
      refine V.iload (j := 4) rfl dX2_clash_19 ?_
      refine V.cSN (As := [.int (A 14 v), .int (nI u)]) (st := []) dX2_clash_21 sX2_70 zX7_has (cd_has I A _ u (by omega)) ⟨by decide, by decide⟩ (Nat.le_of_ble_eq_true rfl) rfl (fun r I' A' hq => ?_)
      obtain ⟨rfl, rfl, rfl⟩ := hq
      by_cases b3 : bg_t (A 14 v) (u) = true
      · refine V.st (st' := [.int (nI 1)]) (by rw [bI_t b3]; rfl) ?_
        refine V.if_eq (tgt := 45) dX2_clash_24 (by decide) (fun z => absurd z (by decide)) (fun _ => ?_)
        refine V.aload_n (j := 0) rfl dX2_clash_27 ?_
        refine V.getr (q := 20) dX2_clash_28 fX2_24 rfl rfl ?_
        refine V.iload_n (j := 3) rfl dX2_clash_31 ?_
        refine V.lda (v := A 20 v) dX2_clash_32 rfl (by omega) (by decide) rfl ?_
        refine V.aload_n (j := 0) rfl dX2_clash_33 ?_
        refine V.getr (q := 20) dX2_clash_34 fX2_24 rfl rfl ?_
        refine V.iload (j := 4) rfl dX2_clash_37 ?_
        refine V.lda (v := A 20 u) dX2_clash_39 rfl (by omega) (by decide) rfl ?_
        refine V.icmp_ne (tgt := 45) dX2_clash_40 (by decide) (fun c5 => ?_) (fun c5 => ?_)
        · refine V.iincN (ls' := [(0, .ref 15), (1, .int (nI nv)), (2, .ref 14), (3, .int (nI v)), (4, .int (nI (u + 1)))]) dX2_clash_45 (j := 4) rfl (by decide) rfl ?_
          refine V.goto (tgt := 10) dX2_clash_48 (by decide) ?_
          exact ih (u + 1) (by omega) hk
        · exact absurd c5 (hap v u (by omega) (by omega) b3)
      · refine V.st (st' := [.int (nI 0)]) (by rw [bI_f b3]; rfl) ?_
        refine V.if_eq (tgt := 45) dX2_clash_24 (by decide) (fun _ => ?_) (fun z => absurd z (by decide))
        refine V.iincN (ls' := [(0, .ref 15), (1, .int (nI nv)), (2, .ref 14), (3, .int (nI v)), (4, .int (nI (u + 1)))]) dX2_clash_45 (j := 4) rfl (by decide) rfl ?_
        refine V.goto (tgt := 10) dX2_clash_48 (by decide) ?_
        exact ih (u + 1) (by omega) hk
set_option maxRecDepth 100000 in
set_option maxHeartbeats 4000000 in
theorem cl_clash2 {G : am_G} {Fn : Array Value → State → List Frame → State → Prop} (I A : Nat → Nat → Int32) (nv : Nat) (hnv : nv ≤ 24) (hap : ∀ v u, v < nv → u < v → bg_t (A 14 v) u = true → ¬ A 20 v = A 20 u) : ∀ (m : Nat) (v : Nat), v + m = nv → V G MX2_clash (am_R 1 21 0 0) Fn 0 0 57 [(0, .ref 15)] [] (hp I A) → V G MX2_clash (am_R 1 21 0 0) Fn 0 0 2 [(0, .ref 15), (1, .int (nI nv)), (2, .ref 14), (3, .int (nI v))] [] (hp I A) := by
  intro m
  induction m with
  | zero =>
    intro v hi0 hk
    refine V.iload_n (j := 3) rfl dX2_clash_2 ?_
    refine V.iload_n (j := 1) rfl dX2_clash_3 ?_
    refine V.icmp_geN (tgt := 57) dX2_clash_4 (by decide) (by omega) (by omega) (fun c1 => ?_) (fun c1 => ?_)
    · refine V.fewer [0] rfl ?_
      exact hk
    · exact absurd c1 (by omega)
  | succ m ih =>
    intro v hi0 hk
    refine V.iload_n (j := 3) rfl dX2_clash_2 ?_
    refine V.iload_n (j := 1) rfl dX2_clash_3 ?_
    refine V.icmp_geN (tgt := 57) dX2_clash_4 (by decide) (by omega) (by omega) (fun c2 => ?_) (fun c2 => ?_)
    · exact absurd c2 (by omega)
    · refine V.iconst (v := nI 0) (by decide) dX2_clash_7 ?_
      refine V.istore (ls' := [(0, .ref 15), (1, .int (nI nv)), (2, .ref 14), (3, .int (nI v)), (4, .int (nI 0))]) dX2_clash_8 (by decide) rfl ?_
      refine cl_clash1 I A nv hnv hap v (by omega) v 0 (by omega) ?_
      refine V.iincN (ls' := [(0, .ref 15), (1, .int (nI nv)), (2, .ref 14), (3, .int (nI (v + 1)))]) dX2_clash_51 (j := 3) rfl (by decide) rfl ?_
      refine V.goto (tgt := 2) dX2_clash_54 (by decide) ?_
      exact ih (v + 1) (by omega) hk
set_option maxRecDepth 100000 in
set_option maxHeartbeats 4000000 in
theorem cd_clash {G : am_G} (I A : Nat → Nat → Int32) (nv : Nat) (hnv : nv ≤ 24) (hap : ∀ v u, v < nv → u < v → bg_t (A 14 v) u = true → ¬ A 20 v = A 20 u) : Cm G MX2_clash 1 21 [.ref 15, .int (nI nv), .ref 14] I A (fun r I' A' => r = some (.int (nI 0)) ∧ I = I' ∧ A = A') := by
  refine Cm.of (by decide) (Nat.le_of_ble_eq_true rfl) rfl ?_
  show V G MX2_clash (am_R 1 21 0 0) _ 0 0 0 [(0, .ref 15), (1, .int (nI nv)), (2, .ref 14)] [] (hp I A)
  refine V.iconst (v := nI 0) (by decide) dX2_clash_0 ?_
  refine V.istore_n (ls' := [(0, .ref 15), (1, .int (nI nv)), (2, .ref 14), (3, .int (nI 0))]) dX2_clash_1 (by decide) rfl ?_
  refine cl_clash2 I A nv hnv hap nv 0 (by omega) ?_
  refine V.iconst (v := nI 0) (by decide) dX2_clash_57 ?_
  refine V.rz dX2_clash_58 rfl (by decide) ?_
  exact ⟨rfl, rfl, rfl⟩
