/-- where the second value is fetched to -/
noncomputable def cz_w2 (cl hm : Nat → Int32) (f g : Int32) : Nat := if ¬ g = (-1) ∧ ¬ hm f.toNatClampNeg < nI 100 ∧ cl f.toNatClampNeg = cl g.toNatClampNeg then 9 else 8
noncomputable def cz_C2 (cl hm : Nat → Int32) (f g : Int32) (C : cz_CN) : cz_CN := if g = f then cz_br cl hm f 8 C else cz_br cl hm g (cz_w2 cl hm f g) (cz_br cl hm f 8 C)
noncomputable def cz_gA (cl hm : Nat → Int32) (f g : Int32) : Int32 := if g = f then cz_R cl hm f 8 else cz_R cl hm g (cz_w2 cl hm f g)
noncomputable def cz_X (cl hm : Nat → Int32) (k : Nat) (a b c f g an : Int32) : Int32 × Int32 × Int32 := cz_x3 k (cz_R cl hm an 8) (cz_R cl hm f 8) (cz_gA cl hm f g) a b c
/-- the items of a step: k its op, a, b, c its numbers; it takes f, g and makes an -/
noncomputable def cz_ts (cl hm : Nat → Int32) (k : Nat) (a b c f g an : Int32) (C : cz_CN) : cz_CN := mz_kp cl hm an (mz_lay (cz_C2 cl hm f g C).1 (cz_C2 cl hm f g C).2 (nI k) (cz_X cl hm k a b c f g an).1 (cz_X cl hm k a b c f g an).2.1 (cz_X cl hm k a b c f g an).2.2) ((cz_C2 cl hm f g C).2 + 1)
theorem cz_w2_m {cl hm : Nat → Int32} {f : Int32} : cz_w2 cl hm f (-1) = 8 := if_neg (fun z => z.1 rfl)
theorem cz_w2_9 {cl hm : Nat → Int32} {f g : Nat} (hf : f < 2 ^ 31) (hg : g < 2 ^ 31) (h : ¬ hm f < nI 100 ∧ cl f = cl g) : cz_w2 cl hm (nI f) (nI g) = 9 := by
  unfold cz_w2
  rw [nI_clamp hf, nI_clamp hg, if_pos ⟨nI_nm1 hg, h.1, h.2⟩]
theorem cz_w2_8 {cl hm : Nat → Int32} {f g : Nat} (hf : f < 2 ^ 31) (hg : g < 2 ^ 31) (h : ¬ (¬ hm f < nI 100 ∧ cl f = cl g)) : cz_w2 cl hm (nI f) (nI g) = 8 := by
  unfold cz_w2
  rw [nI_clamp hf, nI_clamp hg, if_neg (fun z => h ⟨z.2.1, z.2.2⟩)]
theorem cz_CCb {A : Nat → Nat → Int32} {cl hm : Nat → Int32} {v : Int32} {w : Nat} {C : cz_CN} : cz_CC (cz_CC A C.1) (cz_br cl hm v w (cz_v (cz_CC A C.1), C.2)).1 = cz_CC A (cz_br cl hm v w C).1 := by rw [cz_vCC, cz_CCCC]
theorem cz_CCn {A : Nat → Nat → Int32} {cl hm : Nat → Int32} {v : Int32} {w : Nat} {C : cz_CN} : (cz_br cl hm v w (cz_v (cz_CC A C.1), C.2)).2 = (cz_br cl hm v w C).2 := by rw [cz_vCC]
theorem cz_CCl {A : Nat → Nat → Int32} {c : Nat → Int32} {n : Nat} {o x y z : Int32} : cz_CC (cz_CC A c) (mz_lay (cz_v (cz_CC A c)) n o x y z) = cz_CC A (mz_lay c n o x y z) := by rw [cz_vCC, cz_CCCC]
set_option maxRecDepth 100000 in
set_option maxHeartbeats 4000000 in
theorem cd_tsM1 {G : am_G} (I A : Nat → Nat → Int32) (n : Nat) (hn : I 25 4 = nI n) (hN : n + 4 ≤ 240) (s : Nat) (hs : s < 60) (k : Nat) (hk : 0 ≤ k ∧ k ≤ 5) (ek : A 5 s = nI k) (a : Nat) (ha : a < 24) (h10 : A 10 s = (-1)) (h11 : A 11 s = (-1)) (h9 : A 9 s = nI a) : Cm G MX0_translateStep 3 70 [.ref 1, .ref 15, .ref 25, .int (nI s)] I A (fun r I' A' => r = none ∧ upI I 25 4 (nI (cz_ts (A 2) (A 20) k (A 6 s) (A 7 s) (A 8 s) ((-1)) ((-1)) (nI a) (cz_v A, n)).2) = I' ∧ cz_CC A (cz_ts (A 2) (A 20) k (A 6 s) (A 7 s) (A 8 s) ((-1)) ((-1)) (nI a) (cz_v A, n)).1 = A') := by
  refine Cm.of (by decide) (Nat.le_of_ble_eq_true rfl) rfl ?_
  show V G MX0_translateStep (am_R 3 70 0 0) _ 0 0 0 [(0, .ref 1), (1, .ref 15), (2, .ref 25), (3, .int (nI s))] [] (hp I A)
  refine V.aload_n (j := 0) rfl dX0_translateStep_0 ?_
  refine V.getr (q := 10) dX0_translateStep_1 fX0_60 rfl rfl ?_
  refine V.iload_n (j := 3) rfl dX0_translateStep_4 ?_
  refine V.lda (v := (-1)) dX0_translateStep_5 rfl (by omega) (by decide) h10 ?_
  refine V.istore (ls' := [(0, .ref 1), (1, .ref 15), (2, .ref 25), (3, .int (nI s)), (4, .int ((-1)))]) dX0_translateStep_6 (by decide) rfl ?_
  refine V.aload_n (j := 0) rfl dX0_translateStep_8 ?_
  refine V.getr (q := 11) dX0_translateStep_9 fX0_63 rfl rfl ?_
  refine V.iload_n (j := 3) rfl dX0_translateStep_12 ?_
  refine V.lda (v := (-1)) dX0_translateStep_13 rfl (by omega) (by decide) h11 ?_
  refine V.istore (ls' := [(0, .ref 1), (1, .ref 15), (2, .ref 25), (3, .int (nI s)), (4, .int ((-1))), (5, .int ((-1)))]) dX0_translateStep_14 (by decide) rfl ?_
  refine V.aload_n (j := 0) rfl dX0_translateStep_16 ?_
  refine V.aload_n (j := 1) rfl dX0_translateStep_17 ?_
  refine V.aload_n (j := 2) rfl dX0_translateStep_18 ?_
  refine V.iload (j := 4) rfl dX0_translateStep_19 ?_
  refine V.bipush (v := nI 8) (by decide) dX0_translateStep_21 ?_
  have hl1 : (cz_br (A 2) (A 20) ((-1)) 8 (cz_v A, n)).2 ≤ n + 1 := cz_br_le
  refine V.cS (As := [.ref 1, .ref 15, .ref 25, .int ((-1)), .int (nI 8)]) (st := []) dX0_translateStep_23 sX0_66 zX0_bring (cd_bringN I A n hn (by omega) _) ⟨by decide, by decide⟩ (Nat.le_of_ble_eq_true rfl) rfl (fun r I' A' hq => ?_)
  obtain ⟨rfl, rfl, rfl⟩ := hq
  generalize hC1 : cz_br (A 2) (A 20) ((-1)) 8 (cz_v A, n) = C1 at hl1 ⊢
  refine V.st (st' := [.int (cz_R (A 2) (A 20) ((-1)) 8)]) rfl ?_
  refine V.istore (ls' := [(0, .ref 1), (1, .ref 15), (2, .ref 25), (3, .int (nI s)), (4, .int ((-1))), (5, .int ((-1))), (6, .int (cz_R (A 2) (A 20) ((-1)) 8))]) dX0_translateStep_26 (by decide) rfl ?_
  refine V.iload (j := 6) rfl dX0_translateStep_28 ?_
  refine V.istore (ls' := [(0, .ref 1), (1, .ref 15), (2, .ref 25), (3, .int (nI s)), (4, .int ((-1))), (5, .int ((-1))), (6, .int (cz_R (A 2) (A 20) ((-1)) 8)), (7, .int (cz_R (A 2) (A 20) ((-1)) 8))]) dX0_translateStep_30 (by decide) rfl ?_
  refine V.iload (j := 5) rfl dX0_translateStep_32 ?_
  refine V.iload (j := 4) rfl dX0_translateStep_34 ?_
  refine V.icmp_eq (tgt := 72) dX0_translateStep_36 (by decide) (fun _ => ?_) (fun z => absurd rfl z)
  refine V.aload_n (j := 0) rfl dX0_translateStep_72 ?_
  refine V.getr (q := 9) dX0_translateStep_73 fX0_74 rfl rfl ?_
  refine V.iload_n (j := 3) rfl dX0_translateStep_76 ?_
  refine V.lda (v := nI a) dX0_translateStep_77 rfl (by omega) (by decide) h9 ?_
  refine V.istore (ls' := [(0, .ref 1), (1, .ref 15), (2, .ref 25), (3, .int (nI s)), (4, .int ((-1))), (5, .int ((-1))), (6, .int (cz_R (A 2) (A 20) ((-1)) 8)), (7, .int (cz_R (A 2) (A 20) ((-1)) 8)), (8, .int (nI a))]) dX0_translateStep_78 (by decide) rfl ?_
  refine V.iload (j := 8) rfl dX0_translateStep_80 ?_
  refine V.iconst (v := (-1)) (by decide) dX0_translateStep_82 ?_
  refine V.icmp_ne (tgt := 100) dX0_translateStep_83 (by decide) (fun _ => ?_) (fun z => absurd z (nI_nm1 (by omega)))
  refine V.aload_n (j := 0) rfl dX0_translateStep_100 ?_
  refine V.aload_n (j := 1) rfl dX0_translateStep_101 ?_
  refine V.iload (j := 8) rfl dX0_translateStep_102 ?_
  refine V.bipush (v := nI 8) (by decide) dX0_translateStep_104 ?_
  refine V.cS (As := [.ref 1, .ref 15, .int (nI a), .int (nI 8)]) (st := []) dX0_translateStep_106 sX0_81 zX0_registerOf (cd_regOf (upI I 25 4 (nI (C1.2))) (cz_CC A C1.1) a (by omega) _) ⟨by decide, by decide⟩ (Nat.le_of_ble_eq_true rfl) rfl (fun r I' A' hq => ?_)
  obtain ⟨rfl, rfl, rfl⟩ := hq
  refine V.st (st' := [.int (cz_R (A 2) (A 20) (nI a) 8)]) rfl ?_
  refine V.istore (ls' := [(0, .ref 1), (1, .ref 15), (2, .ref 25), (3, .int (nI s)), (4, .int ((-1))), (5, .int ((-1))), (6, .int (cz_R (A 2) (A 20) ((-1)) 8)), (7, .int (cz_R (A 2) (A 20) ((-1)) 8)), (8, .int (nI a)), (9, .int (cz_R (A 2) (A 20) (nI a) 8))]) dX0_translateStep_109 (by decide) rfl ?_
  refine V.aload_n (j := 0) rfl dX0_translateStep_111 ?_
  refine V.getr (q := 4) dX0_translateStep_112 fX0_21 rfl rfl ?_
  refine V.aload_n (j := 2) rfl dX0_translateStep_115 ?_
  refine V.iload_n (j := 3) rfl dX0_translateStep_116 ?_
  refine V.iload (j := 9) rfl dX0_translateStep_117 ?_
  refine V.iload (j := 6) rfl dX0_translateStep_119 ?_
  refine V.iload (j := 7) rfl dX0_translateStep_121 ?_
  refine V.cS (As := [.ref 4, .ref 25, .int (nI s), .int (cz_R (A 2) (A 20) (nI a) 8), .int (cz_R (A 2) (A 20) ((-1)) 8), .int (cz_R (A 2) (A 20) ((-1)) 8)]) (st := []) dX0_translateStep_123 sX0_85 zX0_addMaker (cd_maker (upI I 25 4 (nI (C1.2))) (cz_CC A C1.1) k hk s hs ek C1.2 rfl (by omega) (cz_R (A 2) (A 20) (nI a) 8) _ _) ⟨by decide, by decide⟩ (Nat.le_of_ble_eq_true rfl) rfl (fun r I' A' hq => ?_)
  obtain ⟨rfl, rfl, rfl⟩ := hq
  refine V.hpe (I' := (upI I 25 4 (nI (C1.2 + 1)))) (A' := (cz_CC A (mz_lay C1.1 C1.2 (nI k) (cz_x3 k (cz_R (A 2) (A 20) (nI a) 8) (cz_R (A 2) (A 20) ((-1)) 8) (cz_R (A 2) (A 20) ((-1)) 8) (A 6 s) (A 7 s) (A 8 s)).1 (cz_x3 k (cz_R (A 2) (A 20) (nI a) 8) (cz_R (A 2) (A 20) ((-1)) 8) (cz_R (A 2) (A 20) ((-1)) 8) (A 6 s) (A 7 s) (A 8 s)).2.1 (cz_x3 k (cz_R (A 2) (A 20) (nI a) 8) (cz_R (A 2) (A 20) ((-1)) 8) (cz_R (A 2) (A 20) ((-1)) 8) (A 6 s) (A 7 s) (A 8 s)).2.2))) upI_u cz_CCl ?_
  refine V.st (st' := []) rfl ?_
  refine V.aload_n (j := 1) rfl dX0_translateStep_126 ?_
  refine V.iload (j := 8) rfl dX0_translateStep_127 ?_
  refine V.cV (As := [.int (nI a)]) (st := []) dX0_translateStep_129 sX0_89 iX2_inSlot lX2_inSlot rfl rfl (cd_inSlot (upI I 25 4 (nI (C1.2 + 1))) (cz_CC A (mz_lay C1.1 C1.2 (nI k) (cz_x3 k (cz_R (A 2) (A 20) (nI a) 8) (cz_R (A 2) (A 20) ((-1)) 8) (cz_R (A 2) (A 20) ((-1)) 8) (A 6 s) (A 7 s) (A 8 s)).1 (cz_x3 k (cz_R (A 2) (A 20) (nI a) 8) (cz_R (A 2) (A 20) ((-1)) 8) (cz_R (A 2) (A 20) ((-1)) 8) (A 6 s) (A 7 s) (A 8 s)).2.1 (cz_x3 k (cz_R (A 2) (A 20) (nI a) 8) (cz_R (A 2) (A 20) ((-1)) 8) (cz_R (A 2) (A 20) ((-1)) 8) (A 6 s) (A 7 s) (A 8 s)).2.2)) a (by omega)) ⟨by decide, by decide⟩ (Nat.le_of_ble_eq_true rfl) rfl (fun r I' A' hq => ?_)
  obtain ⟨rfl, rfl, rfl⟩ := hq
  by_cases b3 : ¬ (cz_CC A (mz_lay C1.1 C1.2 (nI k) (cz_x3 k (cz_R (A 2) (A 20) (nI a) 8) (cz_R (A 2) (A 20) ((-1)) 8) (cz_R (A 2) (A 20) ((-1)) 8) (A 6 s) (A 7 s) (A 8 s)).1 (cz_x3 k (cz_R (A 2) (A 20) (nI a) 8) (cz_R (A 2) (A 20) ((-1)) 8) (cz_R (A 2) (A 20) ((-1)) 8) (A 6 s) (A 7 s) (A 8 s)).2.1 (cz_x3 k (cz_R (A 2) (A 20) (nI a) 8) (cz_R (A 2) (A 20) ((-1)) 8) (cz_R (A 2) (A 20) ((-1)) 8) (A 6 s) (A 7 s) (A 8 s)).2.2)) 20 a < nI 100
  · refine V.st (st' := [.int (nI 1)]) (by rw [bI_t b3]; rfl) ?_
    refine V.if_eq (tgt := 154) dX0_translateStep_132 (by decide) (fun z => absurd z (by decide)) (fun _ => ?_)
    refine V.aload_n (j := 2) rfl dX0_translateStep_135 ?_
    refine V.bipush (v := nI 12) (by decide) dX0_translateStep_136 ?_
    refine V.iload (j := 9) rfl dX0_translateStep_138 ?_
    refine V.aload_n (j := 1) rfl dX0_translateStep_140 ?_
    refine V.getr (q := 20) dX0_translateStep_141 fX0_52 rfl rfl ?_
    refine V.iload (j := 8) rfl dX0_translateStep_144 ?_
    refine V.lda (v := A 20 a) dX0_translateStep_146 rfl (by omega) (by decide) rfl ?_
    refine V.bipush (v := nI 100) (by decide) dX0_translateStep_147 ?_
    refine V.isub dX0_translateStep_149 ?_
    refine V.iconst (v := nI 0) (by decide) dX0_translateStep_150 ?_
    refine V.cV (As := [.int (nI 12), .int (cz_R (A 2) (A 20) (nI a) 8), .int ((A 20 a) - (nI 100)), .int (nI 0)]) (st := []) dX0_translateStep_151 sX0_93 iX3_add lX3_add rfl rfl (cd_addC (upI I 25 4 (nI (C1.2 + 1))) (cz_CC A (mz_lay C1.1 C1.2 (nI k) (cz_x3 k (cz_R (A 2) (A 20) (nI a) 8) (cz_R (A 2) (A 20) ((-1)) 8) (cz_R (A 2) (A 20) ((-1)) 8) (A 6 s) (A 7 s) (A 8 s)).1 (cz_x3 k (cz_R (A 2) (A 20) (nI a) 8) (cz_R (A 2) (A 20) ((-1)) 8) (cz_R (A 2) (A 20) ((-1)) 8) (A 6 s) (A 7 s) (A 8 s)).2.1 (cz_x3 k (cz_R (A 2) (A 20) (nI a) 8) (cz_R (A 2) (A 20) ((-1)) 8) (cz_R (A 2) (A 20) ((-1)) 8) (A 6 s) (A 7 s) (A 8 s)).2.2)) (C1.2 + 1) rfl (by omega) _ _ _ _) ⟨by decide, by decide⟩ (Nat.le_of_ble_eq_true rfl) rfl (fun r I' A' hq => ?_)
    obtain ⟨rfl, rfl, rfl⟩ := hq
    refine V.hpe (I' := (upI I 25 4 (nI (C1.2 + 1 + 1)))) (A' := (cz_CC A (mz_lay (mz_lay C1.1 C1.2 (nI k) (cz_x3 k (cz_R (A 2) (A 20) (nI a) 8) (cz_R (A 2) (A 20) ((-1)) 8) (cz_R (A 2) (A 20) ((-1)) 8) (A 6 s) (A 7 s) (A 8 s)).1 (cz_x3 k (cz_R (A 2) (A 20) (nI a) 8) (cz_R (A 2) (A 20) ((-1)) 8) (cz_R (A 2) (A 20) ((-1)) 8) (A 6 s) (A 7 s) (A 8 s)).2.1 (cz_x3 k (cz_R (A 2) (A 20) (nI a) 8) (cz_R (A 2) (A 20) ((-1)) 8) (cz_R (A 2) (A 20) ((-1)) 8) (A 6 s) (A 7 s) (A 8 s)).2.2) (C1.2 + 1) (nI 12) (cz_R (A 2) (A 20) (nI a) 8) ((A 20 a) - (nI 100)) (nI 0)))) upI_u cz_CCl ?_
    refine V.st (st' := []) rfl ?_
    refine V.rv dX0_translateStep_154 rfl ?_
    subst hC1
    have eC : cz_C2 (A 2) (A 20) ((-1)) ((-1)) (cz_v A, n) = cz_br (A 2) (A 20) ((-1)) 8 (cz_v A, n) := if_pos rfl
    have eg : cz_gA (A 2) (A 20) ((-1)) ((-1)) = cz_R (A 2) (A 20) ((-1)) 8 := if_pos rfl
    have eX : cz_X (A 2) (A 20) k (A 6 s) (A 7 s) (A 8 s) ((-1)) ((-1)) (nI a) = cz_x3 k (cz_R (A 2) (A 20) (nI a) 8) (cz_R (A 2) (A 20) ((-1)) 8) (cz_gA (A 2) (A 20) ((-1)) ((-1))) (A 6 s) (A 7 s) (A 8 s) := rfl
    have e : cz_ts (A 2) (A 20) k (A 6 s) (A 7 s) (A 8 s) ((-1)) ((-1)) (nI a) (cz_v A, n) = _ := show mz_kp _ _ _ _ _ = _ by rw [mz_kp_s (by omega) (show ¬ A 20 a < nI 100 from b3)]
    rw [eC, eX, eg] at e
    have eto : mz_to (A 2) (A 20) a = cz_R (A 2) (A 20) (nI a) 8 := by rw [cz_R_n (by omega)]; rfl
    rw [eto] at e
    exact ⟨rfl, by rw [e], by rw [e]⟩
  · refine V.st (st' := [.int (nI 0)]) (by rw [bI_f b3]; rfl) ?_
    refine V.if_eq (tgt := 154) dX0_translateStep_132 (by decide) (fun _ => ?_) (fun z => absurd z (by decide))
    refine V.rv dX0_translateStep_154 rfl ?_
    subst hC1
    have eC : cz_C2 (A 2) (A 20) ((-1)) ((-1)) (cz_v A, n) = cz_br (A 2) (A 20) ((-1)) 8 (cz_v A, n) := if_pos rfl
    have eg : cz_gA (A 2) (A 20) ((-1)) ((-1)) = cz_R (A 2) (A 20) ((-1)) 8 := if_pos rfl
    have eX : cz_X (A 2) (A 20) k (A 6 s) (A 7 s) (A 8 s) ((-1)) ((-1)) (nI a) = cz_x3 k (cz_R (A 2) (A 20) (nI a) 8) (cz_R (A 2) (A 20) ((-1)) 8) (cz_gA (A 2) (A 20) ((-1)) ((-1))) (A 6 s) (A 7 s) (A 8 s) := rfl
    have e : cz_ts (A 2) (A 20) k (A 6 s) (A 7 s) (A 8 s) ((-1)) ((-1)) (nI a) (cz_v A, n) = _ := show mz_kp _ _ _ _ _ = _ by rw [mz_kp_r (by omega) (show A 20 a < nI 100 from Classical.not_not.mp b3)]
    rw [eC, eX, eg] at e
    exact ⟨rfl, by rw [e], by rw [e]⟩
set_option maxRecDepth 100000 in
set_option maxHeartbeats 4000000 in
theorem cd_tsM2 {G : am_G} (I A : Nat → Nat → Int32) (n : Nat) (hn : I 25 4 = nI n) (hN : n + 4 ≤ 240) (s : Nat) (hs : s < 60) (k : Nat) (hk : 0 ≤ k ∧ k ≤ 5) (ek : A 5 s = nI k) (f : Nat) (hf : f < 24) (a : Nat) (ha : a < 24) (h10 : A 10 s = nI f) (h11 : A 11 s = (-1)) (h9 : A 9 s = nI a) : Cm G MX0_translateStep 3 70 [.ref 1, .ref 15, .ref 25, .int (nI s)] I A (fun r I' A' => r = none ∧ upI I 25 4 (nI (cz_ts (A 2) (A 20) k (A 6 s) (A 7 s) (A 8 s) (nI f) ((-1)) (nI a) (cz_v A, n)).2) = I' ∧ cz_CC A (cz_ts (A 2) (A 20) k (A 6 s) (A 7 s) (A 8 s) (nI f) ((-1)) (nI a) (cz_v A, n)).1 = A') := by
  refine Cm.of (by decide) (Nat.le_of_ble_eq_true rfl) rfl ?_
  show V G MX0_translateStep (am_R 3 70 0 0) _ 0 0 0 [(0, .ref 1), (1, .ref 15), (2, .ref 25), (3, .int (nI s))] [] (hp I A)
  refine V.aload_n (j := 0) rfl dX0_translateStep_0 ?_
  refine V.getr (q := 10) dX0_translateStep_1 fX0_60 rfl rfl ?_
  refine V.iload_n (j := 3) rfl dX0_translateStep_4 ?_
  refine V.lda (v := nI f) dX0_translateStep_5 rfl (by omega) (by decide) h10 ?_
  refine V.istore (ls' := [(0, .ref 1), (1, .ref 15), (2, .ref 25), (3, .int (nI s)), (4, .int (nI f))]) dX0_translateStep_6 (by decide) rfl ?_
  refine V.aload_n (j := 0) rfl dX0_translateStep_8 ?_
  refine V.getr (q := 11) dX0_translateStep_9 fX0_63 rfl rfl ?_
  refine V.iload_n (j := 3) rfl dX0_translateStep_12 ?_
  refine V.lda (v := (-1)) dX0_translateStep_13 rfl (by omega) (by decide) h11 ?_
  refine V.istore (ls' := [(0, .ref 1), (1, .ref 15), (2, .ref 25), (3, .int (nI s)), (4, .int (nI f)), (5, .int ((-1)))]) dX0_translateStep_14 (by decide) rfl ?_
  refine V.aload_n (j := 0) rfl dX0_translateStep_16 ?_
  refine V.aload_n (j := 1) rfl dX0_translateStep_17 ?_
  refine V.aload_n (j := 2) rfl dX0_translateStep_18 ?_
  refine V.iload (j := 4) rfl dX0_translateStep_19 ?_
  refine V.bipush (v := nI 8) (by decide) dX0_translateStep_21 ?_
  have hl1 : (cz_br (A 2) (A 20) (nI f) 8 (cz_v A, n)).2 ≤ n + 1 := cz_br_le
  refine V.cS (As := [.ref 1, .ref 15, .ref 25, .int (nI f), .int (nI 8)]) (st := []) dX0_translateStep_23 sX0_66 zX0_bring (cd_bringV I A n hn (by omega) f (by omega) _) ⟨by decide, by decide⟩ (Nat.le_of_ble_eq_true rfl) rfl (fun r I' A' hq => ?_)
  obtain ⟨rfl, rfl, rfl⟩ := hq
  generalize hC1 : cz_br (A 2) (A 20) (nI f) 8 (cz_v A, n) = C1 at hl1 ⊢
  refine V.st (st' := [.int (cz_R (A 2) (A 20) (nI f) 8)]) rfl ?_
  refine V.istore (ls' := [(0, .ref 1), (1, .ref 15), (2, .ref 25), (3, .int (nI s)), (4, .int (nI f)), (5, .int ((-1))), (6, .int (cz_R (A 2) (A 20) (nI f) 8))]) dX0_translateStep_26 (by decide) rfl ?_
  refine V.iload (j := 6) rfl dX0_translateStep_28 ?_
  refine V.istore (ls' := [(0, .ref 1), (1, .ref 15), (2, .ref 25), (3, .int (nI s)), (4, .int (nI f)), (5, .int ((-1))), (6, .int (cz_R (A 2) (A 20) (nI f) 8)), (7, .int (cz_R (A 2) (A 20) (nI f) 8))]) dX0_translateStep_30 (by decide) rfl ?_
  refine V.iload (j := 5) rfl dX0_translateStep_32 ?_
  refine V.iload (j := 4) rfl dX0_translateStep_34 ?_
  refine V.icmp_eq (tgt := 72) dX0_translateStep_36 (by decide) (fun z => absurd z ((fun q => nI_nm1 (by omega) q.symm))) (fun _ => ?_)
  refine V.aload_n (j := 0) rfl dX0_translateStep_39 ?_
  refine V.aload_n (j := 1) rfl dX0_translateStep_40 ?_
  refine V.iload (j := 4) rfl dX0_translateStep_41 ?_
  refine V.iload (j := 5) rfl dX0_translateStep_43 ?_
  refine V.cS (As := [.ref 1, .ref 15, .int (nI f), .int ((-1))]) (st := []) dX0_translateStep_45 sX0_70 zX0_firstHolds8 (cd_holdsN (upI I 25 4 (nI (C1.2))) (cz_CC A C1.1) _) ⟨by decide, by decide⟩ (Nat.le_of_ble_eq_true rfl) rfl (fun r I' A' hq => ?_)
  obtain ⟨rfl, rfl, rfl⟩ := hq
  refine V.st (st' := [.int (nI 0)]) rfl ?_
  refine V.istore (ls' := [(0, .ref 1), (1, .ref 15), (2, .ref 25), (3, .int (nI s)), (4, .int (nI f)), (5, .int ((-1))), (6, .int (cz_R (A 2) (A 20) (nI f) 8)), (7, .int (cz_R (A 2) (A 20) (nI f) 8)), (8, .int (nI 0))]) dX0_translateStep_48 (by decide) rfl ?_
  refine V.aload_n (j := 0) rfl dX0_translateStep_50 ?_
  refine V.aload_n (j := 1) rfl dX0_translateStep_51 ?_
  refine V.aload_n (j := 2) rfl dX0_translateStep_52 ?_
  refine V.iload (j := 5) rfl dX0_translateStep_53 ?_
  refine V.iload (j := 8) rfl dX0_translateStep_55 ?_
  refine V.if_eq (tgt := 65) dX0_translateStep_57 (by decide) (fun _ => ?_) (fun z => absurd z (by decide))
  refine V.bipush (v := nI 8) (by decide) dX0_translateStep_65 ?_
  refine V.cS (As := [.ref 1, .ref 15, .ref 25, .int ((-1)), .int (nI 8)]) (st := []) dX0_translateStep_67 sX0_66 zX0_bring (cd_bringN (upI I 25 4 (nI (C1.2))) (cz_CC A C1.1) C1.2 rfl (by omega) _) ⟨by decide, by decide⟩ (Nat.le_of_ble_eq_true rfl) rfl (fun r I' A' hq => ?_)
  obtain ⟨rfl, rfl, rfl⟩ := hq
  refine V.hpe (I' := (upI I 25 4 (nI (cz_br (A 2) (A 20) ((-1)) 8 C1).2))) (A' := (cz_CC A (cz_br (A 2) (A 20) ((-1)) 8 C1).1)) (by rw [upI_u]; exact congrArg (fun q => upI I 25 4 (nI q)) cz_CCn) cz_CCb ?_
  have hl2 : (cz_br (A 2) (A 20) ((-1)) 8 C1).2 ≤ C1.2 + 1 := cz_br_le
  generalize hC2 : cz_br (A 2) (A 20) ((-1)) 8 C1 = C2 at hl2 ⊢
  refine V.st (st' := [.int (cz_R (A 2) (A 20) ((-1)) 8)]) rfl ?_
  refine V.istore (ls' := [(0, .ref 1), (1, .ref 15), (2, .ref 25), (3, .int (nI s)), (4, .int (nI f)), (5, .int ((-1))), (6, .int (cz_R (A 2) (A 20) (nI f) 8)), (7, .int (cz_R (A 2) (A 20) ((-1)) 8)), (8, .int (nI 0))]) dX0_translateStep_70 (by decide) rfl ?_
  refine V.aload_n (j := 0) rfl dX0_translateStep_72 ?_
  refine V.getr (q := 9) dX0_translateStep_73 fX0_74 rfl rfl ?_
  refine V.iload_n (j := 3) rfl dX0_translateStep_76 ?_
  refine V.lda (v := nI a) dX0_translateStep_77 rfl (by omega) (by decide) h9 ?_
  refine V.istore (ls' := [(0, .ref 1), (1, .ref 15), (2, .ref 25), (3, .int (nI s)), (4, .int (nI f)), (5, .int ((-1))), (6, .int (cz_R (A 2) (A 20) (nI f) 8)), (7, .int (cz_R (A 2) (A 20) ((-1)) 8)), (8, .int (nI a))]) dX0_translateStep_78 (by decide) rfl ?_
  refine V.iload (j := 8) rfl dX0_translateStep_80 ?_
  refine V.iconst (v := (-1)) (by decide) dX0_translateStep_82 ?_
  refine V.icmp_ne (tgt := 100) dX0_translateStep_83 (by decide) (fun _ => ?_) (fun z => absurd z (nI_nm1 (by omega)))
  refine V.aload_n (j := 0) rfl dX0_translateStep_100 ?_
  refine V.aload_n (j := 1) rfl dX0_translateStep_101 ?_
  refine V.iload (j := 8) rfl dX0_translateStep_102 ?_
  refine V.bipush (v := nI 8) (by decide) dX0_translateStep_104 ?_
  refine V.cS (As := [.ref 1, .ref 15, .int (nI a), .int (nI 8)]) (st := []) dX0_translateStep_106 sX0_81 zX0_registerOf (cd_regOf (upI I 25 4 (nI (C2.2))) (cz_CC A C2.1) a (by omega) _) ⟨by decide, by decide⟩ (Nat.le_of_ble_eq_true rfl) rfl (fun r I' A' hq => ?_)
  obtain ⟨rfl, rfl, rfl⟩ := hq
  refine V.st (st' := [.int (cz_R (A 2) (A 20) (nI a) 8)]) rfl ?_
  refine V.istore (ls' := [(0, .ref 1), (1, .ref 15), (2, .ref 25), (3, .int (nI s)), (4, .int (nI f)), (5, .int ((-1))), (6, .int (cz_R (A 2) (A 20) (nI f) 8)), (7, .int (cz_R (A 2) (A 20) ((-1)) 8)), (8, .int (nI a)), (9, .int (cz_R (A 2) (A 20) (nI a) 8))]) dX0_translateStep_109 (by decide) rfl ?_
  refine V.aload_n (j := 0) rfl dX0_translateStep_111 ?_
  refine V.getr (q := 4) dX0_translateStep_112 fX0_21 rfl rfl ?_
  refine V.aload_n (j := 2) rfl dX0_translateStep_115 ?_
  refine V.iload_n (j := 3) rfl dX0_translateStep_116 ?_
  refine V.iload (j := 9) rfl dX0_translateStep_117 ?_
  refine V.iload (j := 6) rfl dX0_translateStep_119 ?_
  refine V.iload (j := 7) rfl dX0_translateStep_121 ?_
  refine V.cS (As := [.ref 4, .ref 25, .int (nI s), .int (cz_R (A 2) (A 20) (nI a) 8), .int (cz_R (A 2) (A 20) (nI f) 8), .int (cz_R (A 2) (A 20) ((-1)) 8)]) (st := []) dX0_translateStep_123 sX0_85 zX0_addMaker (cd_maker (upI I 25 4 (nI (C2.2))) (cz_CC A C2.1) k hk s hs ek C2.2 rfl (by omega) (cz_R (A 2) (A 20) (nI a) 8) _ _) ⟨by decide, by decide⟩ (Nat.le_of_ble_eq_true rfl) rfl (fun r I' A' hq => ?_)
  obtain ⟨rfl, rfl, rfl⟩ := hq
  refine V.hpe (I' := (upI I 25 4 (nI (C2.2 + 1)))) (A' := (cz_CC A (mz_lay C2.1 C2.2 (nI k) (cz_x3 k (cz_R (A 2) (A 20) (nI a) 8) (cz_R (A 2) (A 20) (nI f) 8) (cz_R (A 2) (A 20) ((-1)) 8) (A 6 s) (A 7 s) (A 8 s)).1 (cz_x3 k (cz_R (A 2) (A 20) (nI a) 8) (cz_R (A 2) (A 20) (nI f) 8) (cz_R (A 2) (A 20) ((-1)) 8) (A 6 s) (A 7 s) (A 8 s)).2.1 (cz_x3 k (cz_R (A 2) (A 20) (nI a) 8) (cz_R (A 2) (A 20) (nI f) 8) (cz_R (A 2) (A 20) ((-1)) 8) (A 6 s) (A 7 s) (A 8 s)).2.2))) upI_u cz_CCl ?_
  refine V.st (st' := []) rfl ?_
  refine V.aload_n (j := 1) rfl dX0_translateStep_126 ?_
  refine V.iload (j := 8) rfl dX0_translateStep_127 ?_
  refine V.cV (As := [.int (nI a)]) (st := []) dX0_translateStep_129 sX0_89 iX2_inSlot lX2_inSlot rfl rfl (cd_inSlot (upI I 25 4 (nI (C2.2 + 1))) (cz_CC A (mz_lay C2.1 C2.2 (nI k) (cz_x3 k (cz_R (A 2) (A 20) (nI a) 8) (cz_R (A 2) (A 20) (nI f) 8) (cz_R (A 2) (A 20) ((-1)) 8) (A 6 s) (A 7 s) (A 8 s)).1 (cz_x3 k (cz_R (A 2) (A 20) (nI a) 8) (cz_R (A 2) (A 20) (nI f) 8) (cz_R (A 2) (A 20) ((-1)) 8) (A 6 s) (A 7 s) (A 8 s)).2.1 (cz_x3 k (cz_R (A 2) (A 20) (nI a) 8) (cz_R (A 2) (A 20) (nI f) 8) (cz_R (A 2) (A 20) ((-1)) 8) (A 6 s) (A 7 s) (A 8 s)).2.2)) a (by omega)) ⟨by decide, by decide⟩ (Nat.le_of_ble_eq_true rfl) rfl (fun r I' A' hq => ?_)
  obtain ⟨rfl, rfl, rfl⟩ := hq
  by_cases b4 : ¬ (cz_CC A (mz_lay C2.1 C2.2 (nI k) (cz_x3 k (cz_R (A 2) (A 20) (nI a) 8) (cz_R (A 2) (A 20) (nI f) 8) (cz_R (A 2) (A 20) ((-1)) 8) (A 6 s) (A 7 s) (A 8 s)).1 (cz_x3 k (cz_R (A 2) (A 20) (nI a) 8) (cz_R (A 2) (A 20) (nI f) 8) (cz_R (A 2) (A 20) ((-1)) 8) (A 6 s) (A 7 s) (A 8 s)).2.1 (cz_x3 k (cz_R (A 2) (A 20) (nI a) 8) (cz_R (A 2) (A 20) (nI f) 8) (cz_R (A 2) (A 20) ((-1)) 8) (A 6 s) (A 7 s) (A 8 s)).2.2)) 20 a < nI 100
  · refine V.st (st' := [.int (nI 1)]) (by rw [bI_t b4]; rfl) ?_
    refine V.if_eq (tgt := 154) dX0_translateStep_132 (by decide) (fun z => absurd z (by decide)) (fun _ => ?_)
    refine V.aload_n (j := 2) rfl dX0_translateStep_135 ?_
    refine V.bipush (v := nI 12) (by decide) dX0_translateStep_136 ?_
    refine V.iload (j := 9) rfl dX0_translateStep_138 ?_
    refine V.aload_n (j := 1) rfl dX0_translateStep_140 ?_
    refine V.getr (q := 20) dX0_translateStep_141 fX0_52 rfl rfl ?_
    refine V.iload (j := 8) rfl dX0_translateStep_144 ?_
    refine V.lda (v := A 20 a) dX0_translateStep_146 rfl (by omega) (by decide) rfl ?_
    refine V.bipush (v := nI 100) (by decide) dX0_translateStep_147 ?_
    refine V.isub dX0_translateStep_149 ?_
    refine V.iconst (v := nI 0) (by decide) dX0_translateStep_150 ?_
    refine V.cV (As := [.int (nI 12), .int (cz_R (A 2) (A 20) (nI a) 8), .int ((A 20 a) - (nI 100)), .int (nI 0)]) (st := []) dX0_translateStep_151 sX0_93 iX3_add lX3_add rfl rfl (cd_addC (upI I 25 4 (nI (C2.2 + 1))) (cz_CC A (mz_lay C2.1 C2.2 (nI k) (cz_x3 k (cz_R (A 2) (A 20) (nI a) 8) (cz_R (A 2) (A 20) (nI f) 8) (cz_R (A 2) (A 20) ((-1)) 8) (A 6 s) (A 7 s) (A 8 s)).1 (cz_x3 k (cz_R (A 2) (A 20) (nI a) 8) (cz_R (A 2) (A 20) (nI f) 8) (cz_R (A 2) (A 20) ((-1)) 8) (A 6 s) (A 7 s) (A 8 s)).2.1 (cz_x3 k (cz_R (A 2) (A 20) (nI a) 8) (cz_R (A 2) (A 20) (nI f) 8) (cz_R (A 2) (A 20) ((-1)) 8) (A 6 s) (A 7 s) (A 8 s)).2.2)) (C2.2 + 1) rfl (by omega) _ _ _ _) ⟨by decide, by decide⟩ (Nat.le_of_ble_eq_true rfl) rfl (fun r I' A' hq => ?_)
    obtain ⟨rfl, rfl, rfl⟩ := hq
    refine V.hpe (I' := (upI I 25 4 (nI (C2.2 + 1 + 1)))) (A' := (cz_CC A (mz_lay (mz_lay C2.1 C2.2 (nI k) (cz_x3 k (cz_R (A 2) (A 20) (nI a) 8) (cz_R (A 2) (A 20) (nI f) 8) (cz_R (A 2) (A 20) ((-1)) 8) (A 6 s) (A 7 s) (A 8 s)).1 (cz_x3 k (cz_R (A 2) (A 20) (nI a) 8) (cz_R (A 2) (A 20) (nI f) 8) (cz_R (A 2) (A 20) ((-1)) 8) (A 6 s) (A 7 s) (A 8 s)).2.1 (cz_x3 k (cz_R (A 2) (A 20) (nI a) 8) (cz_R (A 2) (A 20) (nI f) 8) (cz_R (A 2) (A 20) ((-1)) 8) (A 6 s) (A 7 s) (A 8 s)).2.2) (C2.2 + 1) (nI 12) (cz_R (A 2) (A 20) (nI a) 8) ((A 20 a) - (nI 100)) (nI 0)))) upI_u cz_CCl ?_
    refine V.st (st' := []) rfl ?_
    refine V.rv dX0_translateStep_154 rfl ?_
    subst hC2
    subst hC1
    have hne : ¬ (-1 : Int32) = nI f := fun z => nI_nm1 (by omega) z.symm
    have ew : cz_w2 (A 2) (A 20) (nI f) (-1) = 8 := cz_w2_m
    have eC : cz_C2 (A 2) (A 20) (nI f) ((-1)) (cz_v A, n) = cz_br (A 2) (A 20) ((-1)) 8 (cz_br (A 2) (A 20) (nI f) 8 (cz_v A, n)) := by unfold cz_C2; rw [if_neg hne, ew]
    have eg : cz_gA (A 2) (A 20) (nI f) ((-1)) = cz_R (A 2) (A 20) ((-1)) 8 := by unfold cz_gA; rw [if_neg hne, ew]
    have eX : cz_X (A 2) (A 20) k (A 6 s) (A 7 s) (A 8 s) (nI f) ((-1)) (nI a) = cz_x3 k (cz_R (A 2) (A 20) (nI a) 8) (cz_R (A 2) (A 20) (nI f) 8) (cz_gA (A 2) (A 20) (nI f) ((-1))) (A 6 s) (A 7 s) (A 8 s) := rfl
    have e : cz_ts (A 2) (A 20) k (A 6 s) (A 7 s) (A 8 s) (nI f) ((-1)) (nI a) (cz_v A, n) = _ := show mz_kp _ _ _ _ _ = _ by rw [mz_kp_s (by omega) (show ¬ A 20 a < nI 100 from b4)]
    rw [eC, eX, eg] at e
    have eto : mz_to (A 2) (A 20) a = cz_R (A 2) (A 20) (nI a) 8 := by rw [cz_R_n (by omega)]; rfl
    rw [eto] at e
    exact ⟨rfl, by rw [e], by rw [e]⟩
  · refine V.st (st' := [.int (nI 0)]) (by rw [bI_f b4]; rfl) ?_
    refine V.if_eq (tgt := 154) dX0_translateStep_132 (by decide) (fun _ => ?_) (fun z => absurd z (by decide))
    refine V.rv dX0_translateStep_154 rfl ?_
    subst hC2
    subst hC1
    have hne : ¬ (-1 : Int32) = nI f := fun z => nI_nm1 (by omega) z.symm
    have ew : cz_w2 (A 2) (A 20) (nI f) (-1) = 8 := cz_w2_m
    have eC : cz_C2 (A 2) (A 20) (nI f) ((-1)) (cz_v A, n) = cz_br (A 2) (A 20) ((-1)) 8 (cz_br (A 2) (A 20) (nI f) 8 (cz_v A, n)) := by unfold cz_C2; rw [if_neg hne, ew]
    have eg : cz_gA (A 2) (A 20) (nI f) ((-1)) = cz_R (A 2) (A 20) ((-1)) 8 := by unfold cz_gA; rw [if_neg hne, ew]
    have eX : cz_X (A 2) (A 20) k (A 6 s) (A 7 s) (A 8 s) (nI f) ((-1)) (nI a) = cz_x3 k (cz_R (A 2) (A 20) (nI a) 8) (cz_R (A 2) (A 20) (nI f) 8) (cz_gA (A 2) (A 20) (nI f) ((-1))) (A 6 s) (A 7 s) (A 8 s) := rfl
    have e : cz_ts (A 2) (A 20) k (A 6 s) (A 7 s) (A 8 s) (nI f) ((-1)) (nI a) (cz_v A, n) = _ := show mz_kp _ _ _ _ _ = _ by rw [mz_kp_r (by omega) (show A 20 a < nI 100 from Classical.not_not.mp b4)]
    rw [eC, eX, eg] at e
    exact ⟨rfl, by rw [e], by rw [e]⟩
set_option maxRecDepth 100000 in
set_option maxHeartbeats 4000000 in
theorem cd_tsM3 {G : am_G} (I A : Nat → Nat → Int32) (n : Nat) (hn : I 25 4 = nI n) (hN : n + 4 ≤ 240) (s : Nat) (hs : s < 60) (k : Nat) (hk : 0 ≤ k ∧ k ≤ 5) (ek : A 5 s = nI k) (f : Nat) (hf : f < 24) (g : Nat) (hg : g < 24) (a : Nat) (ha : a < 24) (h10 : A 10 s = nI f) (h11 : A 11 s = nI g) (h9 : A 9 s = nI a) : Cm G MX0_translateStep 3 70 [.ref 1, .ref 15, .ref 25, .int (nI s)] I A (fun r I' A' => r = none ∧ upI I 25 4 (nI (cz_ts (A 2) (A 20) k (A 6 s) (A 7 s) (A 8 s) (nI f) (nI g) (nI a) (cz_v A, n)).2) = I' ∧ cz_CC A (cz_ts (A 2) (A 20) k (A 6 s) (A 7 s) (A 8 s) (nI f) (nI g) (nI a) (cz_v A, n)).1 = A') := by
  refine Cm.of (by decide) (Nat.le_of_ble_eq_true rfl) rfl ?_
  show V G MX0_translateStep (am_R 3 70 0 0) _ 0 0 0 [(0, .ref 1), (1, .ref 15), (2, .ref 25), (3, .int (nI s))] [] (hp I A)
  refine V.aload_n (j := 0) rfl dX0_translateStep_0 ?_
  refine V.getr (q := 10) dX0_translateStep_1 fX0_60 rfl rfl ?_
  refine V.iload_n (j := 3) rfl dX0_translateStep_4 ?_
  refine V.lda (v := nI f) dX0_translateStep_5 rfl (by omega) (by decide) h10 ?_
  refine V.istore (ls' := [(0, .ref 1), (1, .ref 15), (2, .ref 25), (3, .int (nI s)), (4, .int (nI f))]) dX0_translateStep_6 (by decide) rfl ?_
  refine V.aload_n (j := 0) rfl dX0_translateStep_8 ?_
  refine V.getr (q := 11) dX0_translateStep_9 fX0_63 rfl rfl ?_
  refine V.iload_n (j := 3) rfl dX0_translateStep_12 ?_
  refine V.lda (v := nI g) dX0_translateStep_13 rfl (by omega) (by decide) h11 ?_
  refine V.istore (ls' := [(0, .ref 1), (1, .ref 15), (2, .ref 25), (3, .int (nI s)), (4, .int (nI f)), (5, .int (nI g))]) dX0_translateStep_14 (by decide) rfl ?_
  refine V.aload_n (j := 0) rfl dX0_translateStep_16 ?_
  refine V.aload_n (j := 1) rfl dX0_translateStep_17 ?_
  refine V.aload_n (j := 2) rfl dX0_translateStep_18 ?_
  refine V.iload (j := 4) rfl dX0_translateStep_19 ?_
  refine V.bipush (v := nI 8) (by decide) dX0_translateStep_21 ?_
  have hl1 : (cz_br (A 2) (A 20) (nI f) 8 (cz_v A, n)).2 ≤ n + 1 := cz_br_le
  refine V.cS (As := [.ref 1, .ref 15, .ref 25, .int (nI f), .int (nI 8)]) (st := []) dX0_translateStep_23 sX0_66 zX0_bring (cd_bringV I A n hn (by omega) f (by omega) _) ⟨by decide, by decide⟩ (Nat.le_of_ble_eq_true rfl) rfl (fun r I' A' hq => ?_)
  obtain ⟨rfl, rfl, rfl⟩ := hq
  generalize hC1 : cz_br (A 2) (A 20) (nI f) 8 (cz_v A, n) = C1 at hl1 ⊢
  refine V.st (st' := [.int (cz_R (A 2) (A 20) (nI f) 8)]) rfl ?_
  refine V.istore (ls' := [(0, .ref 1), (1, .ref 15), (2, .ref 25), (3, .int (nI s)), (4, .int (nI f)), (5, .int (nI g)), (6, .int (cz_R (A 2) (A 20) (nI f) 8))]) dX0_translateStep_26 (by decide) rfl ?_
  refine V.iload (j := 6) rfl dX0_translateStep_28 ?_
  refine V.istore (ls' := [(0, .ref 1), (1, .ref 15), (2, .ref 25), (3, .int (nI s)), (4, .int (nI f)), (5, .int (nI g)), (6, .int (cz_R (A 2) (A 20) (nI f) 8)), (7, .int (cz_R (A 2) (A 20) (nI f) 8))]) dX0_translateStep_30 (by decide) rfl ?_
  refine V.iload (j := 5) rfl dX0_translateStep_32 ?_
  refine V.iload (j := 4) rfl dX0_translateStep_34 ?_
  refine V.icmp_eqN (tgt := 72) dX0_translateStep_36 (by decide) (by omega) (by omega) (fun c1 => ?_) (fun c1 => ?_)
  · refine V.aload_n (j := 0) rfl dX0_translateStep_72 ?_
    refine V.getr (q := 9) dX0_translateStep_73 fX0_74 rfl rfl ?_
    refine V.iload_n (j := 3) rfl dX0_translateStep_76 ?_
    refine V.lda (v := nI a) dX0_translateStep_77 rfl (by omega) (by decide) h9 ?_
    refine V.istore (ls' := [(0, .ref 1), (1, .ref 15), (2, .ref 25), (3, .int (nI s)), (4, .int (nI f)), (5, .int (nI g)), (6, .int (cz_R (A 2) (A 20) (nI f) 8)), (7, .int (cz_R (A 2) (A 20) (nI f) 8)), (8, .int (nI a))]) dX0_translateStep_78 (by decide) rfl ?_
    refine V.iload (j := 8) rfl dX0_translateStep_80 ?_
    refine V.iconst (v := (-1)) (by decide) dX0_translateStep_82 ?_
    refine V.icmp_ne (tgt := 100) dX0_translateStep_83 (by decide) (fun _ => ?_) (fun z => absurd z (nI_nm1 (by omega)))
    refine V.aload_n (j := 0) rfl dX0_translateStep_100 ?_
    refine V.aload_n (j := 1) rfl dX0_translateStep_101 ?_
    refine V.iload (j := 8) rfl dX0_translateStep_102 ?_
    refine V.bipush (v := nI 8) (by decide) dX0_translateStep_104 ?_
    refine V.cS (As := [.ref 1, .ref 15, .int (nI a), .int (nI 8)]) (st := []) dX0_translateStep_106 sX0_81 zX0_registerOf (cd_regOf (upI I 25 4 (nI (C1.2))) (cz_CC A C1.1) a (by omega) _) ⟨by decide, by decide⟩ (Nat.le_of_ble_eq_true rfl) rfl (fun r I' A' hq => ?_)
    obtain ⟨rfl, rfl, rfl⟩ := hq
    refine V.st (st' := [.int (cz_R (A 2) (A 20) (nI a) 8)]) rfl ?_
    refine V.istore (ls' := [(0, .ref 1), (1, .ref 15), (2, .ref 25), (3, .int (nI s)), (4, .int (nI f)), (5, .int (nI g)), (6, .int (cz_R (A 2) (A 20) (nI f) 8)), (7, .int (cz_R (A 2) (A 20) (nI f) 8)), (8, .int (nI a)), (9, .int (cz_R (A 2) (A 20) (nI a) 8))]) dX0_translateStep_109 (by decide) rfl ?_
    refine V.aload_n (j := 0) rfl dX0_translateStep_111 ?_
    refine V.getr (q := 4) dX0_translateStep_112 fX0_21 rfl rfl ?_
    refine V.aload_n (j := 2) rfl dX0_translateStep_115 ?_
    refine V.iload_n (j := 3) rfl dX0_translateStep_116 ?_
    refine V.iload (j := 9) rfl dX0_translateStep_117 ?_
    refine V.iload (j := 6) rfl dX0_translateStep_119 ?_
    refine V.iload (j := 7) rfl dX0_translateStep_121 ?_
    refine V.cS (As := [.ref 4, .ref 25, .int (nI s), .int (cz_R (A 2) (A 20) (nI a) 8), .int (cz_R (A 2) (A 20) (nI f) 8), .int (cz_R (A 2) (A 20) (nI f) 8)]) (st := []) dX0_translateStep_123 sX0_85 zX0_addMaker (cd_maker (upI I 25 4 (nI (C1.2))) (cz_CC A C1.1) k hk s hs ek C1.2 rfl (by omega) (cz_R (A 2) (A 20) (nI a) 8) _ _) ⟨by decide, by decide⟩ (Nat.le_of_ble_eq_true rfl) rfl (fun r I' A' hq => ?_)
    obtain ⟨rfl, rfl, rfl⟩ := hq
    refine V.hpe (I' := (upI I 25 4 (nI (C1.2 + 1)))) (A' := (cz_CC A (mz_lay C1.1 C1.2 (nI k) (cz_x3 k (cz_R (A 2) (A 20) (nI a) 8) (cz_R (A 2) (A 20) (nI f) 8) (cz_R (A 2) (A 20) (nI f) 8) (A 6 s) (A 7 s) (A 8 s)).1 (cz_x3 k (cz_R (A 2) (A 20) (nI a) 8) (cz_R (A 2) (A 20) (nI f) 8) (cz_R (A 2) (A 20) (nI f) 8) (A 6 s) (A 7 s) (A 8 s)).2.1 (cz_x3 k (cz_R (A 2) (A 20) (nI a) 8) (cz_R (A 2) (A 20) (nI f) 8) (cz_R (A 2) (A 20) (nI f) 8) (A 6 s) (A 7 s) (A 8 s)).2.2))) upI_u cz_CCl ?_
    refine V.st (st' := []) rfl ?_
    refine V.aload_n (j := 1) rfl dX0_translateStep_126 ?_
    refine V.iload (j := 8) rfl dX0_translateStep_127 ?_
    refine V.cV (As := [.int (nI a)]) (st := []) dX0_translateStep_129 sX0_89 iX2_inSlot lX2_inSlot rfl rfl (cd_inSlot (upI I 25 4 (nI (C1.2 + 1))) (cz_CC A (mz_lay C1.1 C1.2 (nI k) (cz_x3 k (cz_R (A 2) (A 20) (nI a) 8) (cz_R (A 2) (A 20) (nI f) 8) (cz_R (A 2) (A 20) (nI f) 8) (A 6 s) (A 7 s) (A 8 s)).1 (cz_x3 k (cz_R (A 2) (A 20) (nI a) 8) (cz_R (A 2) (A 20) (nI f) 8) (cz_R (A 2) (A 20) (nI f) 8) (A 6 s) (A 7 s) (A 8 s)).2.1 (cz_x3 k (cz_R (A 2) (A 20) (nI a) 8) (cz_R (A 2) (A 20) (nI f) 8) (cz_R (A 2) (A 20) (nI f) 8) (A 6 s) (A 7 s) (A 8 s)).2.2)) a (by omega)) ⟨by decide, by decide⟩ (Nat.le_of_ble_eq_true rfl) rfl (fun r I' A' hq => ?_)
    obtain ⟨rfl, rfl, rfl⟩ := hq
    by_cases b3 : ¬ (cz_CC A (mz_lay C1.1 C1.2 (nI k) (cz_x3 k (cz_R (A 2) (A 20) (nI a) 8) (cz_R (A 2) (A 20) (nI f) 8) (cz_R (A 2) (A 20) (nI f) 8) (A 6 s) (A 7 s) (A 8 s)).1 (cz_x3 k (cz_R (A 2) (A 20) (nI a) 8) (cz_R (A 2) (A 20) (nI f) 8) (cz_R (A 2) (A 20) (nI f) 8) (A 6 s) (A 7 s) (A 8 s)).2.1 (cz_x3 k (cz_R (A 2) (A 20) (nI a) 8) (cz_R (A 2) (A 20) (nI f) 8) (cz_R (A 2) (A 20) (nI f) 8) (A 6 s) (A 7 s) (A 8 s)).2.2)) 20 a < nI 100
    · refine V.st (st' := [.int (nI 1)]) (by rw [bI_t b3]; rfl) ?_
      refine V.if_eq (tgt := 154) dX0_translateStep_132 (by decide) (fun z => absurd z (by decide)) (fun _ => ?_)
      refine V.aload_n (j := 2) rfl dX0_translateStep_135 ?_
      refine V.bipush (v := nI 12) (by decide) dX0_translateStep_136 ?_
      refine V.iload (j := 9) rfl dX0_translateStep_138 ?_
      refine V.aload_n (j := 1) rfl dX0_translateStep_140 ?_
      refine V.getr (q := 20) dX0_translateStep_141 fX0_52 rfl rfl ?_
      refine V.iload (j := 8) rfl dX0_translateStep_144 ?_
      refine V.lda (v := A 20 a) dX0_translateStep_146 rfl (by omega) (by decide) rfl ?_
      refine V.bipush (v := nI 100) (by decide) dX0_translateStep_147 ?_
      refine V.isub dX0_translateStep_149 ?_
      refine V.iconst (v := nI 0) (by decide) dX0_translateStep_150 ?_
      refine V.cV (As := [.int (nI 12), .int (cz_R (A 2) (A 20) (nI a) 8), .int ((A 20 a) - (nI 100)), .int (nI 0)]) (st := []) dX0_translateStep_151 sX0_93 iX3_add lX3_add rfl rfl (cd_addC (upI I 25 4 (nI (C1.2 + 1))) (cz_CC A (mz_lay C1.1 C1.2 (nI k) (cz_x3 k (cz_R (A 2) (A 20) (nI a) 8) (cz_R (A 2) (A 20) (nI f) 8) (cz_R (A 2) (A 20) (nI f) 8) (A 6 s) (A 7 s) (A 8 s)).1 (cz_x3 k (cz_R (A 2) (A 20) (nI a) 8) (cz_R (A 2) (A 20) (nI f) 8) (cz_R (A 2) (A 20) (nI f) 8) (A 6 s) (A 7 s) (A 8 s)).2.1 (cz_x3 k (cz_R (A 2) (A 20) (nI a) 8) (cz_R (A 2) (A 20) (nI f) 8) (cz_R (A 2) (A 20) (nI f) 8) (A 6 s) (A 7 s) (A 8 s)).2.2)) (C1.2 + 1) rfl (by omega) _ _ _ _) ⟨by decide, by decide⟩ (Nat.le_of_ble_eq_true rfl) rfl (fun r I' A' hq => ?_)
      obtain ⟨rfl, rfl, rfl⟩ := hq
      refine V.hpe (I' := (upI I 25 4 (nI (C1.2 + 1 + 1)))) (A' := (cz_CC A (mz_lay (mz_lay C1.1 C1.2 (nI k) (cz_x3 k (cz_R (A 2) (A 20) (nI a) 8) (cz_R (A 2) (A 20) (nI f) 8) (cz_R (A 2) (A 20) (nI f) 8) (A 6 s) (A 7 s) (A 8 s)).1 (cz_x3 k (cz_R (A 2) (A 20) (nI a) 8) (cz_R (A 2) (A 20) (nI f) 8) (cz_R (A 2) (A 20) (nI f) 8) (A 6 s) (A 7 s) (A 8 s)).2.1 (cz_x3 k (cz_R (A 2) (A 20) (nI a) 8) (cz_R (A 2) (A 20) (nI f) 8) (cz_R (A 2) (A 20) (nI f) 8) (A 6 s) (A 7 s) (A 8 s)).2.2) (C1.2 + 1) (nI 12) (cz_R (A 2) (A 20) (nI a) 8) ((A 20 a) - (nI 100)) (nI 0)))) upI_u cz_CCl ?_
      refine V.st (st' := []) rfl ?_
      refine V.rv dX0_translateStep_154 rfl ?_
      obtain rfl : f = g := (c1).symm
      subst hC1
      have eC : cz_C2 (A 2) (A 20) (nI f) (nI f) (cz_v A, n) = cz_br (A 2) (A 20) (nI f) 8 (cz_v A, n) := if_pos rfl
      have eg : cz_gA (A 2) (A 20) (nI f) (nI f) = cz_R (A 2) (A 20) (nI f) 8 := if_pos rfl
      have eX : cz_X (A 2) (A 20) k (A 6 s) (A 7 s) (A 8 s) (nI f) (nI f) (nI a) = cz_x3 k (cz_R (A 2) (A 20) (nI a) 8) (cz_R (A 2) (A 20) (nI f) 8) (cz_gA (A 2) (A 20) (nI f) (nI f)) (A 6 s) (A 7 s) (A 8 s) := rfl
      have e : cz_ts (A 2) (A 20) k (A 6 s) (A 7 s) (A 8 s) (nI f) (nI f) (nI a) (cz_v A, n) = _ := show mz_kp _ _ _ _ _ = _ by rw [mz_kp_s (by omega) (show ¬ A 20 a < nI 100 from b3)]
      rw [eC, eX, eg] at e
      have eto : mz_to (A 2) (A 20) a = cz_R (A 2) (A 20) (nI a) 8 := by rw [cz_R_n (by omega)]; rfl
      rw [eto] at e
      exact ⟨rfl, by rw [e], by rw [e]⟩
    · refine V.st (st' := [.int (nI 0)]) (by rw [bI_f b3]; rfl) ?_
      refine V.if_eq (tgt := 154) dX0_translateStep_132 (by decide) (fun _ => ?_) (fun z => absurd z (by decide))
      refine V.rv dX0_translateStep_154 rfl ?_
      obtain rfl : f = g := (c1).symm
      subst hC1
      have eC : cz_C2 (A 2) (A 20) (nI f) (nI f) (cz_v A, n) = cz_br (A 2) (A 20) (nI f) 8 (cz_v A, n) := if_pos rfl
      have eg : cz_gA (A 2) (A 20) (nI f) (nI f) = cz_R (A 2) (A 20) (nI f) 8 := if_pos rfl
      have eX : cz_X (A 2) (A 20) k (A 6 s) (A 7 s) (A 8 s) (nI f) (nI f) (nI a) = cz_x3 k (cz_R (A 2) (A 20) (nI a) 8) (cz_R (A 2) (A 20) (nI f) 8) (cz_gA (A 2) (A 20) (nI f) (nI f)) (A 6 s) (A 7 s) (A 8 s) := rfl
      have e : cz_ts (A 2) (A 20) k (A 6 s) (A 7 s) (A 8 s) (nI f) (nI f) (nI a) (cz_v A, n) = _ := show mz_kp _ _ _ _ _ = _ by rw [mz_kp_r (by omega) (show A 20 a < nI 100 from Classical.not_not.mp b3)]
      rw [eC, eX, eg] at e
      exact ⟨rfl, by rw [e], by rw [e]⟩
  · refine V.aload_n (j := 0) rfl dX0_translateStep_39 ?_
    refine V.aload_n (j := 1) rfl dX0_translateStep_40 ?_
    refine V.iload (j := 4) rfl dX0_translateStep_41 ?_
    refine V.iload (j := 5) rfl dX0_translateStep_43 ?_
    refine V.cS (As := [.ref 1, .ref 15, .int (nI f), .int (nI g)]) (st := []) dX0_translateStep_45 sX0_70 zX0_firstHolds8 (cd_holdsV (upI I 25 4 (nI (C1.2))) (cz_CC A C1.1) f g (by omega) (by omega)) ⟨by decide, by decide⟩ (Nat.le_of_ble_eq_true rfl) rfl (fun r I' A' hq => ?_)
    obtain ⟨rfl, rfl, rfl⟩ := hq
    by_cases b6 : ¬ (cz_CC A C1.1) 20 f < nI 100 ∧ (cz_CC A C1.1) 2 f = (cz_CC A C1.1) 2 g
    · refine V.st (st' := [.int (nI 1)]) (by rw [bI_t b6]; rfl) ?_
      refine V.istore (ls' := [(0, .ref 1), (1, .ref 15), (2, .ref 25), (3, .int (nI s)), (4, .int (nI f)), (5, .int (nI g)), (6, .int (cz_R (A 2) (A 20) (nI f) 8)), (7, .int (cz_R (A 2) (A 20) (nI f) 8)), (8, .int (nI 1))]) dX0_translateStep_48 (by decide) rfl ?_
      refine V.aload_n (j := 0) rfl dX0_translateStep_50 ?_
      refine V.aload_n (j := 1) rfl dX0_translateStep_51 ?_
      refine V.aload_n (j := 2) rfl dX0_translateStep_52 ?_
      refine V.iload (j := 5) rfl dX0_translateStep_53 ?_
      refine V.iload (j := 8) rfl dX0_translateStep_55 ?_
      refine V.if_eq (tgt := 65) dX0_translateStep_57 (by decide) (fun z => absurd z (by decide)) (fun _ => ?_)
      refine V.bipush (v := nI 9) (by decide) dX0_translateStep_60 ?_
      refine V.goto (tgt := 67) dX0_translateStep_62 (by decide) ?_
      refine V.cS (As := [.ref 1, .ref 15, .ref 25, .int (nI g), .int (nI 9)]) (st := []) dX0_translateStep_67 sX0_66 zX0_bring (cd_bringV (upI I 25 4 (nI (C1.2))) (cz_CC A C1.1) C1.2 rfl (by omega) g (by omega) _) ⟨by decide, by decide⟩ (Nat.le_of_ble_eq_true rfl) rfl (fun r I' A' hq => ?_)
      obtain ⟨rfl, rfl, rfl⟩ := hq
      refine V.hpe (I' := (upI I 25 4 (nI (cz_br (A 2) (A 20) (nI g) 9 C1).2))) (A' := (cz_CC A (cz_br (A 2) (A 20) (nI g) 9 C1).1)) (by rw [upI_u]; exact congrArg (fun q => upI I 25 4 (nI q)) cz_CCn) cz_CCb ?_
      have hl2 : (cz_br (A 2) (A 20) (nI g) 9 C1).2 ≤ C1.2 + 1 := cz_br_le
      generalize hC2 : cz_br (A 2) (A 20) (nI g) 9 C1 = C2 at hl2 ⊢
      refine V.st (st' := [.int (cz_R (A 2) (A 20) (nI g) 9)]) rfl ?_
      refine V.istore (ls' := [(0, .ref 1), (1, .ref 15), (2, .ref 25), (3, .int (nI s)), (4, .int (nI f)), (5, .int (nI g)), (6, .int (cz_R (A 2) (A 20) (nI f) 8)), (7, .int (cz_R (A 2) (A 20) (nI g) 9)), (8, .int (nI 1))]) dX0_translateStep_70 (by decide) rfl ?_
      refine V.aload_n (j := 0) rfl dX0_translateStep_72 ?_
      refine V.getr (q := 9) dX0_translateStep_73 fX0_74 rfl rfl ?_
      refine V.iload_n (j := 3) rfl dX0_translateStep_76 ?_
      refine V.lda (v := nI a) dX0_translateStep_77 rfl (by omega) (by decide) h9 ?_
      refine V.istore (ls' := [(0, .ref 1), (1, .ref 15), (2, .ref 25), (3, .int (nI s)), (4, .int (nI f)), (5, .int (nI g)), (6, .int (cz_R (A 2) (A 20) (nI f) 8)), (7, .int (cz_R (A 2) (A 20) (nI g) 9)), (8, .int (nI a))]) dX0_translateStep_78 (by decide) rfl ?_
      refine V.iload (j := 8) rfl dX0_translateStep_80 ?_
      refine V.iconst (v := (-1)) (by decide) dX0_translateStep_82 ?_
      refine V.icmp_ne (tgt := 100) dX0_translateStep_83 (by decide) (fun _ => ?_) (fun z => absurd z (nI_nm1 (by omega)))
      refine V.aload_n (j := 0) rfl dX0_translateStep_100 ?_
      refine V.aload_n (j := 1) rfl dX0_translateStep_101 ?_
      refine V.iload (j := 8) rfl dX0_translateStep_102 ?_
      refine V.bipush (v := nI 8) (by decide) dX0_translateStep_104 ?_
      refine V.cS (As := [.ref 1, .ref 15, .int (nI a), .int (nI 8)]) (st := []) dX0_translateStep_106 sX0_81 zX0_registerOf (cd_regOf (upI I 25 4 (nI (C2.2))) (cz_CC A C2.1) a (by omega) _) ⟨by decide, by decide⟩ (Nat.le_of_ble_eq_true rfl) rfl (fun r I' A' hq => ?_)
      obtain ⟨rfl, rfl, rfl⟩ := hq
      refine V.st (st' := [.int (cz_R (A 2) (A 20) (nI a) 8)]) rfl ?_
      refine V.istore (ls' := [(0, .ref 1), (1, .ref 15), (2, .ref 25), (3, .int (nI s)), (4, .int (nI f)), (5, .int (nI g)), (6, .int (cz_R (A 2) (A 20) (nI f) 8)), (7, .int (cz_R (A 2) (A 20) (nI g) 9)), (8, .int (nI a)), (9, .int (cz_R (A 2) (A 20) (nI a) 8))]) dX0_translateStep_109 (by decide) rfl ?_
      refine V.aload_n (j := 0) rfl dX0_translateStep_111 ?_
      refine V.getr (q := 4) dX0_translateStep_112 fX0_21 rfl rfl ?_
      refine V.aload_n (j := 2) rfl dX0_translateStep_115 ?_
      refine V.iload_n (j := 3) rfl dX0_translateStep_116 ?_
      refine V.iload (j := 9) rfl dX0_translateStep_117 ?_
      refine V.iload (j := 6) rfl dX0_translateStep_119 ?_
      refine V.iload (j := 7) rfl dX0_translateStep_121 ?_
      refine V.cS (As := [.ref 4, .ref 25, .int (nI s), .int (cz_R (A 2) (A 20) (nI a) 8), .int (cz_R (A 2) (A 20) (nI f) 8), .int (cz_R (A 2) (A 20) (nI g) 9)]) (st := []) dX0_translateStep_123 sX0_85 zX0_addMaker (cd_maker (upI I 25 4 (nI (C2.2))) (cz_CC A C2.1) k hk s hs ek C2.2 rfl (by omega) (cz_R (A 2) (A 20) (nI a) 8) _ _) ⟨by decide, by decide⟩ (Nat.le_of_ble_eq_true rfl) rfl (fun r I' A' hq => ?_)
      obtain ⟨rfl, rfl, rfl⟩ := hq
      refine V.hpe (I' := (upI I 25 4 (nI (C2.2 + 1)))) (A' := (cz_CC A (mz_lay C2.1 C2.2 (nI k) (cz_x3 k (cz_R (A 2) (A 20) (nI a) 8) (cz_R (A 2) (A 20) (nI f) 8) (cz_R (A 2) (A 20) (nI g) 9) (A 6 s) (A 7 s) (A 8 s)).1 (cz_x3 k (cz_R (A 2) (A 20) (nI a) 8) (cz_R (A 2) (A 20) (nI f) 8) (cz_R (A 2) (A 20) (nI g) 9) (A 6 s) (A 7 s) (A 8 s)).2.1 (cz_x3 k (cz_R (A 2) (A 20) (nI a) 8) (cz_R (A 2) (A 20) (nI f) 8) (cz_R (A 2) (A 20) (nI g) 9) (A 6 s) (A 7 s) (A 8 s)).2.2))) upI_u cz_CCl ?_
      refine V.st (st' := []) rfl ?_
      refine V.aload_n (j := 1) rfl dX0_translateStep_126 ?_
      refine V.iload (j := 8) rfl dX0_translateStep_127 ?_
      refine V.cV (As := [.int (nI a)]) (st := []) dX0_translateStep_129 sX0_89 iX2_inSlot lX2_inSlot rfl rfl (cd_inSlot (upI I 25 4 (nI (C2.2 + 1))) (cz_CC A (mz_lay C2.1 C2.2 (nI k) (cz_x3 k (cz_R (A 2) (A 20) (nI a) 8) (cz_R (A 2) (A 20) (nI f) 8) (cz_R (A 2) (A 20) (nI g) 9) (A 6 s) (A 7 s) (A 8 s)).1 (cz_x3 k (cz_R (A 2) (A 20) (nI a) 8) (cz_R (A 2) (A 20) (nI f) 8) (cz_R (A 2) (A 20) (nI g) 9) (A 6 s) (A 7 s) (A 8 s)).2.1 (cz_x3 k (cz_R (A 2) (A 20) (nI a) 8) (cz_R (A 2) (A 20) (nI f) 8) (cz_R (A 2) (A 20) (nI g) 9) (A 6 s) (A 7 s) (A 8 s)).2.2)) a (by omega)) ⟨by decide, by decide⟩ (Nat.le_of_ble_eq_true rfl) rfl (fun r I' A' hq => ?_)
      obtain ⟨rfl, rfl, rfl⟩ := hq
      by_cases b9 : ¬ (cz_CC A (mz_lay C2.1 C2.2 (nI k) (cz_x3 k (cz_R (A 2) (A 20) (nI a) 8) (cz_R (A 2) (A 20) (nI f) 8) (cz_R (A 2) (A 20) (nI g) 9) (A 6 s) (A 7 s) (A 8 s)).1 (cz_x3 k (cz_R (A 2) (A 20) (nI a) 8) (cz_R (A 2) (A 20) (nI f) 8) (cz_R (A 2) (A 20) (nI g) 9) (A 6 s) (A 7 s) (A 8 s)).2.1 (cz_x3 k (cz_R (A 2) (A 20) (nI a) 8) (cz_R (A 2) (A 20) (nI f) 8) (cz_R (A 2) (A 20) (nI g) 9) (A 6 s) (A 7 s) (A 8 s)).2.2)) 20 a < nI 100
      · refine V.st (st' := [.int (nI 1)]) (by rw [bI_t b9]; rfl) ?_
        refine V.if_eq (tgt := 154) dX0_translateStep_132 (by decide) (fun z => absurd z (by decide)) (fun _ => ?_)
        refine V.aload_n (j := 2) rfl dX0_translateStep_135 ?_
        refine V.bipush (v := nI 12) (by decide) dX0_translateStep_136 ?_
        refine V.iload (j := 9) rfl dX0_translateStep_138 ?_
        refine V.aload_n (j := 1) rfl dX0_translateStep_140 ?_
        refine V.getr (q := 20) dX0_translateStep_141 fX0_52 rfl rfl ?_
        refine V.iload (j := 8) rfl dX0_translateStep_144 ?_
        refine V.lda (v := A 20 a) dX0_translateStep_146 rfl (by omega) (by decide) rfl ?_
        refine V.bipush (v := nI 100) (by decide) dX0_translateStep_147 ?_
        refine V.isub dX0_translateStep_149 ?_
        refine V.iconst (v := nI 0) (by decide) dX0_translateStep_150 ?_
        refine V.cV (As := [.int (nI 12), .int (cz_R (A 2) (A 20) (nI a) 8), .int ((A 20 a) - (nI 100)), .int (nI 0)]) (st := []) dX0_translateStep_151 sX0_93 iX3_add lX3_add rfl rfl (cd_addC (upI I 25 4 (nI (C2.2 + 1))) (cz_CC A (mz_lay C2.1 C2.2 (nI k) (cz_x3 k (cz_R (A 2) (A 20) (nI a) 8) (cz_R (A 2) (A 20) (nI f) 8) (cz_R (A 2) (A 20) (nI g) 9) (A 6 s) (A 7 s) (A 8 s)).1 (cz_x3 k (cz_R (A 2) (A 20) (nI a) 8) (cz_R (A 2) (A 20) (nI f) 8) (cz_R (A 2) (A 20) (nI g) 9) (A 6 s) (A 7 s) (A 8 s)).2.1 (cz_x3 k (cz_R (A 2) (A 20) (nI a) 8) (cz_R (A 2) (A 20) (nI f) 8) (cz_R (A 2) (A 20) (nI g) 9) (A 6 s) (A 7 s) (A 8 s)).2.2)) (C2.2 + 1) rfl (by omega) _ _ _ _) ⟨by decide, by decide⟩ (Nat.le_of_ble_eq_true rfl) rfl (fun r I' A' hq => ?_)
        obtain ⟨rfl, rfl, rfl⟩ := hq
        refine V.hpe (I' := (upI I 25 4 (nI (C2.2 + 1 + 1)))) (A' := (cz_CC A (mz_lay (mz_lay C2.1 C2.2 (nI k) (cz_x3 k (cz_R (A 2) (A 20) (nI a) 8) (cz_R (A 2) (A 20) (nI f) 8) (cz_R (A 2) (A 20) (nI g) 9) (A 6 s) (A 7 s) (A 8 s)).1 (cz_x3 k (cz_R (A 2) (A 20) (nI a) 8) (cz_R (A 2) (A 20) (nI f) 8) (cz_R (A 2) (A 20) (nI g) 9) (A 6 s) (A 7 s) (A 8 s)).2.1 (cz_x3 k (cz_R (A 2) (A 20) (nI a) 8) (cz_R (A 2) (A 20) (nI f) 8) (cz_R (A 2) (A 20) (nI g) 9) (A 6 s) (A 7 s) (A 8 s)).2.2) (C2.2 + 1) (nI 12) (cz_R (A 2) (A 20) (nI a) 8) ((A 20 a) - (nI 100)) (nI 0)))) upI_u cz_CCl ?_
        refine V.st (st' := []) rfl ?_
        refine V.rv dX0_translateStep_154 rfl ?_
        subst hC2
        subst hC1
        have hne : ¬ nI g = nI f := by rw [nI_eq (by omega) (by omega)]; exact c1
        have ew : cz_w2 (A 2) (A 20) (nI f) (nI g) = 9 := cz_w2_9 (by omega) (by omega) b6
        have eC : cz_C2 (A 2) (A 20) (nI f) (nI g) (cz_v A, n) = cz_br (A 2) (A 20) (nI g) 9 (cz_br (A 2) (A 20) (nI f) 8 (cz_v A, n)) := by unfold cz_C2; rw [if_neg hne, ew]
        have eg : cz_gA (A 2) (A 20) (nI f) (nI g) = cz_R (A 2) (A 20) (nI g) 9 := by unfold cz_gA; rw [if_neg hne, ew]
        have eX : cz_X (A 2) (A 20) k (A 6 s) (A 7 s) (A 8 s) (nI f) (nI g) (nI a) = cz_x3 k (cz_R (A 2) (A 20) (nI a) 8) (cz_R (A 2) (A 20) (nI f) 8) (cz_gA (A 2) (A 20) (nI f) (nI g)) (A 6 s) (A 7 s) (A 8 s) := rfl
        have e : cz_ts (A 2) (A 20) k (A 6 s) (A 7 s) (A 8 s) (nI f) (nI g) (nI a) (cz_v A, n) = _ := show mz_kp _ _ _ _ _ = _ by rw [mz_kp_s (by omega) (show ¬ A 20 a < nI 100 from b9)]
        rw [eC, eX, eg] at e
        have eto : mz_to (A 2) (A 20) a = cz_R (A 2) (A 20) (nI a) 8 := by rw [cz_R_n (by omega)]; rfl
        rw [eto] at e
        exact ⟨rfl, by rw [e], by rw [e]⟩
      · refine V.st (st' := [.int (nI 0)]) (by rw [bI_f b9]; rfl) ?_
        refine V.if_eq (tgt := 154) dX0_translateStep_132 (by decide) (fun _ => ?_) (fun z => absurd z (by decide))
        refine V.rv dX0_translateStep_154 rfl ?_
        subst hC2
        subst hC1
        have hne : ¬ nI g = nI f := by rw [nI_eq (by omega) (by omega)]; exact c1
        have ew : cz_w2 (A 2) (A 20) (nI f) (nI g) = 9 := cz_w2_9 (by omega) (by omega) b6
        have eC : cz_C2 (A 2) (A 20) (nI f) (nI g) (cz_v A, n) = cz_br (A 2) (A 20) (nI g) 9 (cz_br (A 2) (A 20) (nI f) 8 (cz_v A, n)) := by unfold cz_C2; rw [if_neg hne, ew]
        have eg : cz_gA (A 2) (A 20) (nI f) (nI g) = cz_R (A 2) (A 20) (nI g) 9 := by unfold cz_gA; rw [if_neg hne, ew]
        have eX : cz_X (A 2) (A 20) k (A 6 s) (A 7 s) (A 8 s) (nI f) (nI g) (nI a) = cz_x3 k (cz_R (A 2) (A 20) (nI a) 8) (cz_R (A 2) (A 20) (nI f) 8) (cz_gA (A 2) (A 20) (nI f) (nI g)) (A 6 s) (A 7 s) (A 8 s) := rfl
        have e : cz_ts (A 2) (A 20) k (A 6 s) (A 7 s) (A 8 s) (nI f) (nI g) (nI a) (cz_v A, n) = _ := show mz_kp _ _ _ _ _ = _ by rw [mz_kp_r (by omega) (show A 20 a < nI 100 from Classical.not_not.mp b9)]
        rw [eC, eX, eg] at e
        exact ⟨rfl, by rw [e], by rw [e]⟩
    · refine V.st (st' := [.int (nI 0)]) (by rw [bI_f b6]; rfl) ?_
      refine V.istore (ls' := [(0, .ref 1), (1, .ref 15), (2, .ref 25), (3, .int (nI s)), (4, .int (nI f)), (5, .int (nI g)), (6, .int (cz_R (A 2) (A 20) (nI f) 8)), (7, .int (cz_R (A 2) (A 20) (nI f) 8)), (8, .int (nI 0))]) dX0_translateStep_48 (by decide) rfl ?_
      refine V.aload_n (j := 0) rfl dX0_translateStep_50 ?_
      refine V.aload_n (j := 1) rfl dX0_translateStep_51 ?_
      refine V.aload_n (j := 2) rfl dX0_translateStep_52 ?_
      refine V.iload (j := 5) rfl dX0_translateStep_53 ?_
      refine V.iload (j := 8) rfl dX0_translateStep_55 ?_
      refine V.if_eq (tgt := 65) dX0_translateStep_57 (by decide) (fun _ => ?_) (fun z => absurd z (by decide))
      refine V.bipush (v := nI 8) (by decide) dX0_translateStep_65 ?_
      refine V.cS (As := [.ref 1, .ref 15, .ref 25, .int (nI g), .int (nI 8)]) (st := []) dX0_translateStep_67 sX0_66 zX0_bring (cd_bringV (upI I 25 4 (nI (C1.2))) (cz_CC A C1.1) C1.2 rfl (by omega) g (by omega) _) ⟨by decide, by decide⟩ (Nat.le_of_ble_eq_true rfl) rfl (fun r I' A' hq => ?_)
      obtain ⟨rfl, rfl, rfl⟩ := hq
      refine V.hpe (I' := (upI I 25 4 (nI (cz_br (A 2) (A 20) (nI g) 8 C1).2))) (A' := (cz_CC A (cz_br (A 2) (A 20) (nI g) 8 C1).1)) (by rw [upI_u]; exact congrArg (fun q => upI I 25 4 (nI q)) cz_CCn) cz_CCb ?_
      have hl2 : (cz_br (A 2) (A 20) (nI g) 8 C1).2 ≤ C1.2 + 1 := cz_br_le
      generalize hC2 : cz_br (A 2) (A 20) (nI g) 8 C1 = C2 at hl2 ⊢
      refine V.st (st' := [.int (cz_R (A 2) (A 20) (nI g) 8)]) rfl ?_
      refine V.istore (ls' := [(0, .ref 1), (1, .ref 15), (2, .ref 25), (3, .int (nI s)), (4, .int (nI f)), (5, .int (nI g)), (6, .int (cz_R (A 2) (A 20) (nI f) 8)), (7, .int (cz_R (A 2) (A 20) (nI g) 8)), (8, .int (nI 0))]) dX0_translateStep_70 (by decide) rfl ?_
      refine V.aload_n (j := 0) rfl dX0_translateStep_72 ?_
      refine V.getr (q := 9) dX0_translateStep_73 fX0_74 rfl rfl ?_
      refine V.iload_n (j := 3) rfl dX0_translateStep_76 ?_
      refine V.lda (v := nI a) dX0_translateStep_77 rfl (by omega) (by decide) h9 ?_
      refine V.istore (ls' := [(0, .ref 1), (1, .ref 15), (2, .ref 25), (3, .int (nI s)), (4, .int (nI f)), (5, .int (nI g)), (6, .int (cz_R (A 2) (A 20) (nI f) 8)), (7, .int (cz_R (A 2) (A 20) (nI g) 8)), (8, .int (nI a))]) dX0_translateStep_78 (by decide) rfl ?_
      refine V.iload (j := 8) rfl dX0_translateStep_80 ?_
      refine V.iconst (v := (-1)) (by decide) dX0_translateStep_82 ?_
      refine V.icmp_ne (tgt := 100) dX0_translateStep_83 (by decide) (fun _ => ?_) (fun z => absurd z (nI_nm1 (by omega)))
      refine V.aload_n (j := 0) rfl dX0_translateStep_100 ?_
      refine V.aload_n (j := 1) rfl dX0_translateStep_101 ?_
      refine V.iload (j := 8) rfl dX0_translateStep_102 ?_
      refine V.bipush (v := nI 8) (by decide) dX0_translateStep_104 ?_
      refine V.cS (As := [.ref 1, .ref 15, .int (nI a), .int (nI 8)]) (st := []) dX0_translateStep_106 sX0_81 zX0_registerOf (cd_regOf (upI I 25 4 (nI (C2.2))) (cz_CC A C2.1) a (by omega) _) ⟨by decide, by decide⟩ (Nat.le_of_ble_eq_true rfl) rfl (fun r I' A' hq => ?_)
      obtain ⟨rfl, rfl, rfl⟩ := hq
      refine V.st (st' := [.int (cz_R (A 2) (A 20) (nI a) 8)]) rfl ?_
      refine V.istore (ls' := [(0, .ref 1), (1, .ref 15), (2, .ref 25), (3, .int (nI s)), (4, .int (nI f)), (5, .int (nI g)), (6, .int (cz_R (A 2) (A 20) (nI f) 8)), (7, .int (cz_R (A 2) (A 20) (nI g) 8)), (8, .int (nI a)), (9, .int (cz_R (A 2) (A 20) (nI a) 8))]) dX0_translateStep_109 (by decide) rfl ?_
      refine V.aload_n (j := 0) rfl dX0_translateStep_111 ?_
      refine V.getr (q := 4) dX0_translateStep_112 fX0_21 rfl rfl ?_
      refine V.aload_n (j := 2) rfl dX0_translateStep_115 ?_
      refine V.iload_n (j := 3) rfl dX0_translateStep_116 ?_
      refine V.iload (j := 9) rfl dX0_translateStep_117 ?_
      refine V.iload (j := 6) rfl dX0_translateStep_119 ?_
      refine V.iload (j := 7) rfl dX0_translateStep_121 ?_
      refine V.cS (As := [.ref 4, .ref 25, .int (nI s), .int (cz_R (A 2) (A 20) (nI a) 8), .int (cz_R (A 2) (A 20) (nI f) 8), .int (cz_R (A 2) (A 20) (nI g) 8)]) (st := []) dX0_translateStep_123 sX0_85 zX0_addMaker (cd_maker (upI I 25 4 (nI (C2.2))) (cz_CC A C2.1) k hk s hs ek C2.2 rfl (by omega) (cz_R (A 2) (A 20) (nI a) 8) _ _) ⟨by decide, by decide⟩ (Nat.le_of_ble_eq_true rfl) rfl (fun r I' A' hq => ?_)
      obtain ⟨rfl, rfl, rfl⟩ := hq
      refine V.hpe (I' := (upI I 25 4 (nI (C2.2 + 1)))) (A' := (cz_CC A (mz_lay C2.1 C2.2 (nI k) (cz_x3 k (cz_R (A 2) (A 20) (nI a) 8) (cz_R (A 2) (A 20) (nI f) 8) (cz_R (A 2) (A 20) (nI g) 8) (A 6 s) (A 7 s) (A 8 s)).1 (cz_x3 k (cz_R (A 2) (A 20) (nI a) 8) (cz_R (A 2) (A 20) (nI f) 8) (cz_R (A 2) (A 20) (nI g) 8) (A 6 s) (A 7 s) (A 8 s)).2.1 (cz_x3 k (cz_R (A 2) (A 20) (nI a) 8) (cz_R (A 2) (A 20) (nI f) 8) (cz_R (A 2) (A 20) (nI g) 8) (A 6 s) (A 7 s) (A 8 s)).2.2))) upI_u cz_CCl ?_
      refine V.st (st' := []) rfl ?_
      refine V.aload_n (j := 1) rfl dX0_translateStep_126 ?_
      refine V.iload (j := 8) rfl dX0_translateStep_127 ?_
      refine V.cV (As := [.int (nI a)]) (st := []) dX0_translateStep_129 sX0_89 iX2_inSlot lX2_inSlot rfl rfl (cd_inSlot (upI I 25 4 (nI (C2.2 + 1))) (cz_CC A (mz_lay C2.1 C2.2 (nI k) (cz_x3 k (cz_R (A 2) (A 20) (nI a) 8) (cz_R (A 2) (A 20) (nI f) 8) (cz_R (A 2) (A 20) (nI g) 8) (A 6 s) (A 7 s) (A 8 s)).1 (cz_x3 k (cz_R (A 2) (A 20) (nI a) 8) (cz_R (A 2) (A 20) (nI f) 8) (cz_R (A 2) (A 20) (nI g) 8) (A 6 s) (A 7 s) (A 8 s)).2.1 (cz_x3 k (cz_R (A 2) (A 20) (nI a) 8) (cz_R (A 2) (A 20) (nI f) 8) (cz_R (A 2) (A 20) (nI g) 8) (A 6 s) (A 7 s) (A 8 s)).2.2)) a (by omega)) ⟨by decide, by decide⟩ (Nat.le_of_ble_eq_true rfl) rfl (fun r I' A' hq => ?_)
      obtain ⟨rfl, rfl, rfl⟩ := hq
      by_cases b14 : ¬ (cz_CC A (mz_lay C2.1 C2.2 (nI k) (cz_x3 k (cz_R (A 2) (A 20) (nI a) 8) (cz_R (A 2) (A 20) (nI f) 8) (cz_R (A 2) (A 20) (nI g) 8) (A 6 s) (A 7 s) (A 8 s)).1 (cz_x3 k (cz_R (A 2) (A 20) (nI a) 8) (cz_R (A 2) (A 20) (nI f) 8) (cz_R (A 2) (A 20) (nI g) 8) (A 6 s) (A 7 s) (A 8 s)).2.1 (cz_x3 k (cz_R (A 2) (A 20) (nI a) 8) (cz_R (A 2) (A 20) (nI f) 8) (cz_R (A 2) (A 20) (nI g) 8) (A 6 s) (A 7 s) (A 8 s)).2.2)) 20 a < nI 100
      · refine V.st (st' := [.int (nI 1)]) (by rw [bI_t b14]; rfl) ?_
        refine V.if_eq (tgt := 154) dX0_translateStep_132 (by decide) (fun z => absurd z (by decide)) (fun _ => ?_)
        refine V.aload_n (j := 2) rfl dX0_translateStep_135 ?_
        refine V.bipush (v := nI 12) (by decide) dX0_translateStep_136 ?_
        refine V.iload (j := 9) rfl dX0_translateStep_138 ?_
        refine V.aload_n (j := 1) rfl dX0_translateStep_140 ?_
        refine V.getr (q := 20) dX0_translateStep_141 fX0_52 rfl rfl ?_
        refine V.iload (j := 8) rfl dX0_translateStep_144 ?_
        refine V.lda (v := A 20 a) dX0_translateStep_146 rfl (by omega) (by decide) rfl ?_
        refine V.bipush (v := nI 100) (by decide) dX0_translateStep_147 ?_
        refine V.isub dX0_translateStep_149 ?_
        refine V.iconst (v := nI 0) (by decide) dX0_translateStep_150 ?_
        refine V.cV (As := [.int (nI 12), .int (cz_R (A 2) (A 20) (nI a) 8), .int ((A 20 a) - (nI 100)), .int (nI 0)]) (st := []) dX0_translateStep_151 sX0_93 iX3_add lX3_add rfl rfl (cd_addC (upI I 25 4 (nI (C2.2 + 1))) (cz_CC A (mz_lay C2.1 C2.2 (nI k) (cz_x3 k (cz_R (A 2) (A 20) (nI a) 8) (cz_R (A 2) (A 20) (nI f) 8) (cz_R (A 2) (A 20) (nI g) 8) (A 6 s) (A 7 s) (A 8 s)).1 (cz_x3 k (cz_R (A 2) (A 20) (nI a) 8) (cz_R (A 2) (A 20) (nI f) 8) (cz_R (A 2) (A 20) (nI g) 8) (A 6 s) (A 7 s) (A 8 s)).2.1 (cz_x3 k (cz_R (A 2) (A 20) (nI a) 8) (cz_R (A 2) (A 20) (nI f) 8) (cz_R (A 2) (A 20) (nI g) 8) (A 6 s) (A 7 s) (A 8 s)).2.2)) (C2.2 + 1) rfl (by omega) _ _ _ _) ⟨by decide, by decide⟩ (Nat.le_of_ble_eq_true rfl) rfl (fun r I' A' hq => ?_)
        obtain ⟨rfl, rfl, rfl⟩ := hq
        refine V.hpe (I' := (upI I 25 4 (nI (C2.2 + 1 + 1)))) (A' := (cz_CC A (mz_lay (mz_lay C2.1 C2.2 (nI k) (cz_x3 k (cz_R (A 2) (A 20) (nI a) 8) (cz_R (A 2) (A 20) (nI f) 8) (cz_R (A 2) (A 20) (nI g) 8) (A 6 s) (A 7 s) (A 8 s)).1 (cz_x3 k (cz_R (A 2) (A 20) (nI a) 8) (cz_R (A 2) (A 20) (nI f) 8) (cz_R (A 2) (A 20) (nI g) 8) (A 6 s) (A 7 s) (A 8 s)).2.1 (cz_x3 k (cz_R (A 2) (A 20) (nI a) 8) (cz_R (A 2) (A 20) (nI f) 8) (cz_R (A 2) (A 20) (nI g) 8) (A 6 s) (A 7 s) (A 8 s)).2.2) (C2.2 + 1) (nI 12) (cz_R (A 2) (A 20) (nI a) 8) ((A 20 a) - (nI 100)) (nI 0)))) upI_u cz_CCl ?_
        refine V.st (st' := []) rfl ?_
        refine V.rv dX0_translateStep_154 rfl ?_
        subst hC2
        subst hC1
        have hne : ¬ nI g = nI f := by rw [nI_eq (by omega) (by omega)]; exact c1
        have ew : cz_w2 (A 2) (A 20) (nI f) (nI g) = 8 := cz_w2_8 (by omega) (by omega) b6
        have eC : cz_C2 (A 2) (A 20) (nI f) (nI g) (cz_v A, n) = cz_br (A 2) (A 20) (nI g) 8 (cz_br (A 2) (A 20) (nI f) 8 (cz_v A, n)) := by unfold cz_C2; rw [if_neg hne, ew]
        have eg : cz_gA (A 2) (A 20) (nI f) (nI g) = cz_R (A 2) (A 20) (nI g) 8 := by unfold cz_gA; rw [if_neg hne, ew]
        have eX : cz_X (A 2) (A 20) k (A 6 s) (A 7 s) (A 8 s) (nI f) (nI g) (nI a) = cz_x3 k (cz_R (A 2) (A 20) (nI a) 8) (cz_R (A 2) (A 20) (nI f) 8) (cz_gA (A 2) (A 20) (nI f) (nI g)) (A 6 s) (A 7 s) (A 8 s) := rfl
        have e : cz_ts (A 2) (A 20) k (A 6 s) (A 7 s) (A 8 s) (nI f) (nI g) (nI a) (cz_v A, n) = _ := show mz_kp _ _ _ _ _ = _ by rw [mz_kp_s (by omega) (show ¬ A 20 a < nI 100 from b14)]
        rw [eC, eX, eg] at e
        have eto : mz_to (A 2) (A 20) a = cz_R (A 2) (A 20) (nI a) 8 := by rw [cz_R_n (by omega)]; rfl
        rw [eto] at e
        exact ⟨rfl, by rw [e], by rw [e]⟩
      · refine V.st (st' := [.int (nI 0)]) (by rw [bI_f b14]; rfl) ?_
        refine V.if_eq (tgt := 154) dX0_translateStep_132 (by decide) (fun _ => ?_) (fun z => absurd z (by decide))
        refine V.rv dX0_translateStep_154 rfl ?_
        subst hC2
        subst hC1
        have hne : ¬ nI g = nI f := by rw [nI_eq (by omega) (by omega)]; exact c1
        have ew : cz_w2 (A 2) (A 20) (nI f) (nI g) = 8 := cz_w2_8 (by omega) (by omega) b6
        have eC : cz_C2 (A 2) (A 20) (nI f) (nI g) (cz_v A, n) = cz_br (A 2) (A 20) (nI g) 8 (cz_br (A 2) (A 20) (nI f) 8 (cz_v A, n)) := by unfold cz_C2; rw [if_neg hne, ew]
        have eg : cz_gA (A 2) (A 20) (nI f) (nI g) = cz_R (A 2) (A 20) (nI g) 8 := by unfold cz_gA; rw [if_neg hne, ew]
        have eX : cz_X (A 2) (A 20) k (A 6 s) (A 7 s) (A 8 s) (nI f) (nI g) (nI a) = cz_x3 k (cz_R (A 2) (A 20) (nI a) 8) (cz_R (A 2) (A 20) (nI f) 8) (cz_gA (A 2) (A 20) (nI f) (nI g)) (A 6 s) (A 7 s) (A 8 s) := rfl
        have e : cz_ts (A 2) (A 20) k (A 6 s) (A 7 s) (A 8 s) (nI f) (nI g) (nI a) (cz_v A, n) = _ := show mz_kp _ _ _ _ _ = _ by rw [mz_kp_r (by omega) (show A 20 a < nI 100 from Classical.not_not.mp b14)]
        rw [eC, eX, eg] at e
        exact ⟨rfl, by rw [e], by rw [e]⟩
set_option maxRecDepth 100000 in
set_option maxHeartbeats 4000000 in
theorem cd_tsU1 {G : am_G} (I A : Nat → Nat → Int32) (n : Nat) (hn : I 25 4 = nI n) (hN : n + 4 ≤ 240) (s : Nat) (hs : s < 60) (k : Nat) (hk : 6 ≤ k ∧ k ≤ 10) (ek : A 5 s = nI k) (h10 : A 10 s = (-1)) (h11 : A 11 s = (-1)) (h9 : A 9 s = (-1)) : Cm G MX0_translateStep 3 70 [.ref 1, .ref 15, .ref 25, .int (nI s)] I A (fun r I' A' => r = none ∧ upI I 25 4 (nI (cz_ts (A 2) (A 20) k (A 6 s) (A 7 s) (A 8 s) ((-1)) ((-1)) ((-1)) (cz_v A, n)).2) = I' ∧ cz_CC A (cz_ts (A 2) (A 20) k (A 6 s) (A 7 s) (A 8 s) ((-1)) ((-1)) ((-1)) (cz_v A, n)).1 = A') := by
  refine Cm.of (by decide) (Nat.le_of_ble_eq_true rfl) rfl ?_
  show V G MX0_translateStep (am_R 3 70 0 0) _ 0 0 0 [(0, .ref 1), (1, .ref 15), (2, .ref 25), (3, .int (nI s))] [] (hp I A)
  refine V.aload_n (j := 0) rfl dX0_translateStep_0 ?_
  refine V.getr (q := 10) dX0_translateStep_1 fX0_60 rfl rfl ?_
  refine V.iload_n (j := 3) rfl dX0_translateStep_4 ?_
  refine V.lda (v := (-1)) dX0_translateStep_5 rfl (by omega) (by decide) h10 ?_
  refine V.istore (ls' := [(0, .ref 1), (1, .ref 15), (2, .ref 25), (3, .int (nI s)), (4, .int ((-1)))]) dX0_translateStep_6 (by decide) rfl ?_
  refine V.aload_n (j := 0) rfl dX0_translateStep_8 ?_
  refine V.getr (q := 11) dX0_translateStep_9 fX0_63 rfl rfl ?_
  refine V.iload_n (j := 3) rfl dX0_translateStep_12 ?_
  refine V.lda (v := (-1)) dX0_translateStep_13 rfl (by omega) (by decide) h11 ?_
  refine V.istore (ls' := [(0, .ref 1), (1, .ref 15), (2, .ref 25), (3, .int (nI s)), (4, .int ((-1))), (5, .int ((-1)))]) dX0_translateStep_14 (by decide) rfl ?_
  refine V.aload_n (j := 0) rfl dX0_translateStep_16 ?_
  refine V.aload_n (j := 1) rfl dX0_translateStep_17 ?_
  refine V.aload_n (j := 2) rfl dX0_translateStep_18 ?_
  refine V.iload (j := 4) rfl dX0_translateStep_19 ?_
  refine V.bipush (v := nI 8) (by decide) dX0_translateStep_21 ?_
  have hl1 : (cz_br (A 2) (A 20) ((-1)) 8 (cz_v A, n)).2 ≤ n + 1 := cz_br_le
  refine V.cS (As := [.ref 1, .ref 15, .ref 25, .int ((-1)), .int (nI 8)]) (st := []) dX0_translateStep_23 sX0_66 zX0_bring (cd_bringN I A n hn (by omega) _) ⟨by decide, by decide⟩ (Nat.le_of_ble_eq_true rfl) rfl (fun r I' A' hq => ?_)
  obtain ⟨rfl, rfl, rfl⟩ := hq
  generalize hC1 : cz_br (A 2) (A 20) ((-1)) 8 (cz_v A, n) = C1 at hl1 ⊢
  refine V.st (st' := [.int (cz_R (A 2) (A 20) ((-1)) 8)]) rfl ?_
  refine V.istore (ls' := [(0, .ref 1), (1, .ref 15), (2, .ref 25), (3, .int (nI s)), (4, .int ((-1))), (5, .int ((-1))), (6, .int (cz_R (A 2) (A 20) ((-1)) 8))]) dX0_translateStep_26 (by decide) rfl ?_
  refine V.iload (j := 6) rfl dX0_translateStep_28 ?_
  refine V.istore (ls' := [(0, .ref 1), (1, .ref 15), (2, .ref 25), (3, .int (nI s)), (4, .int ((-1))), (5, .int ((-1))), (6, .int (cz_R (A 2) (A 20) ((-1)) 8)), (7, .int (cz_R (A 2) (A 20) ((-1)) 8))]) dX0_translateStep_30 (by decide) rfl ?_
  refine V.iload (j := 5) rfl dX0_translateStep_32 ?_
  refine V.iload (j := 4) rfl dX0_translateStep_34 ?_
  refine V.icmp_eq (tgt := 72) dX0_translateStep_36 (by decide) (fun _ => ?_) (fun z => absurd rfl z)
  refine V.aload_n (j := 0) rfl dX0_translateStep_72 ?_
  refine V.getr (q := 9) dX0_translateStep_73 fX0_74 rfl rfl ?_
  refine V.iload_n (j := 3) rfl dX0_translateStep_76 ?_
  refine V.lda (v := (-1)) dX0_translateStep_77 rfl (by omega) (by decide) h9 ?_
  refine V.istore (ls' := [(0, .ref 1), (1, .ref 15), (2, .ref 25), (3, .int (nI s)), (4, .int ((-1))), (5, .int ((-1))), (6, .int (cz_R (A 2) (A 20) ((-1)) 8)), (7, .int (cz_R (A 2) (A 20) ((-1)) 8)), (8, .int ((-1)))]) dX0_translateStep_78 (by decide) rfl ?_
  refine V.iload (j := 8) rfl dX0_translateStep_80 ?_
  refine V.iconst (v := (-1)) (by decide) dX0_translateStep_82 ?_
  refine V.icmp_ne (tgt := 100) dX0_translateStep_83 (by decide) (fun z => absurd rfl z) (fun _ => ?_)
  refine V.aload_n (j := 0) rfl dX0_translateStep_86 ?_
  refine V.getr (q := 4) dX0_translateStep_87 fX0_21 rfl rfl ?_
  refine V.aload_n (j := 2) rfl dX0_translateStep_90 ?_
  refine V.iload_n (j := 3) rfl dX0_translateStep_91 ?_
  refine V.iload (j := 6) rfl dX0_translateStep_92 ?_
  refine V.iload (j := 7) rfl dX0_translateStep_94 ?_
  refine V.cS (As := [.ref 4, .ref 25, .int (nI s), .int (cz_R (A 2) (A 20) ((-1)) 8), .int (cz_R (A 2) (A 20) ((-1)) 8)]) (st := []) dX0_translateStep_96 sX0_77 zX0_addUser (cd_user (upI I 25 4 (nI (C1.2))) (cz_CC A C1.1) k hk s hs ek C1.2 rfl (by omega) ((cz_R (A 2) (A 20) (-1) 8)) _ _) ⟨by decide, by decide⟩ (Nat.le_of_ble_eq_true rfl) rfl (fun r I' A' hq => ?_)
  obtain ⟨rfl, rfl, rfl⟩ := hq
  refine V.hpe (I' := (upI I 25 4 (nI (C1.2 + 1)))) (A' := (cz_CC A (mz_lay C1.1 C1.2 (nI k) (cz_x3 k ((cz_R (A 2) (A 20) (-1) 8)) (cz_R (A 2) (A 20) ((-1)) 8) (cz_R (A 2) (A 20) ((-1)) 8) (A 6 s) (A 7 s) (A 8 s)).1 (cz_x3 k ((cz_R (A 2) (A 20) (-1) 8)) (cz_R (A 2) (A 20) ((-1)) 8) (cz_R (A 2) (A 20) ((-1)) 8) (A 6 s) (A 7 s) (A 8 s)).2.1 (cz_x3 k ((cz_R (A 2) (A 20) (-1) 8)) (cz_R (A 2) (A 20) ((-1)) 8) (cz_R (A 2) (A 20) ((-1)) 8) (A 6 s) (A 7 s) (A 8 s)).2.2))) upI_u cz_CCl ?_
  refine V.st (st' := []) rfl ?_
  refine V.rv dX0_translateStep_99 rfl ?_
  subst hC1
  have eC : cz_C2 (A 2) (A 20) ((-1)) ((-1)) (cz_v A, n) = cz_br (A 2) (A 20) ((-1)) 8 (cz_v A, n) := if_pos rfl
  have eg : cz_gA (A 2) (A 20) ((-1)) ((-1)) = cz_R (A 2) (A 20) ((-1)) 8 := if_pos rfl
  have eX : cz_X (A 2) (A 20) k (A 6 s) (A 7 s) (A 8 s) ((-1)) ((-1)) ((-1)) = cz_x3 k (cz_R (A 2) (A 20) ((-1)) 8) (cz_R (A 2) (A 20) ((-1)) 8) (cz_gA (A 2) (A 20) ((-1)) ((-1))) (A 6 s) (A 7 s) (A 8 s) := rfl
  have e : cz_ts (A 2) (A 20) k (A 6 s) (A 7 s) (A 8 s) ((-1)) ((-1)) ((-1)) (cz_v A, n) = _ := show mz_kp _ _ _ _ _ = _ by rw [mz_kp_m]
  rw [eC, eX, eg] at e
  exact ⟨rfl, by rw [e], by rw [e]⟩
set_option maxRecDepth 100000 in
set_option maxHeartbeats 4000000 in
theorem cd_tsU2 {G : am_G} (I A : Nat → Nat → Int32) (n : Nat) (hn : I 25 4 = nI n) (hN : n + 4 ≤ 240) (s : Nat) (hs : s < 60) (k : Nat) (hk : 6 ≤ k ∧ k ≤ 10) (ek : A 5 s = nI k) (f : Nat) (hf : f < 24) (h10 : A 10 s = nI f) (h11 : A 11 s = (-1)) (h9 : A 9 s = (-1)) : Cm G MX0_translateStep 3 70 [.ref 1, .ref 15, .ref 25, .int (nI s)] I A (fun r I' A' => r = none ∧ upI I 25 4 (nI (cz_ts (A 2) (A 20) k (A 6 s) (A 7 s) (A 8 s) (nI f) ((-1)) ((-1)) (cz_v A, n)).2) = I' ∧ cz_CC A (cz_ts (A 2) (A 20) k (A 6 s) (A 7 s) (A 8 s) (nI f) ((-1)) ((-1)) (cz_v A, n)).1 = A') := by
  refine Cm.of (by decide) (Nat.le_of_ble_eq_true rfl) rfl ?_
  show V G MX0_translateStep (am_R 3 70 0 0) _ 0 0 0 [(0, .ref 1), (1, .ref 15), (2, .ref 25), (3, .int (nI s))] [] (hp I A)
  refine V.aload_n (j := 0) rfl dX0_translateStep_0 ?_
  refine V.getr (q := 10) dX0_translateStep_1 fX0_60 rfl rfl ?_
  refine V.iload_n (j := 3) rfl dX0_translateStep_4 ?_
  refine V.lda (v := nI f) dX0_translateStep_5 rfl (by omega) (by decide) h10 ?_
  refine V.istore (ls' := [(0, .ref 1), (1, .ref 15), (2, .ref 25), (3, .int (nI s)), (4, .int (nI f))]) dX0_translateStep_6 (by decide) rfl ?_
  refine V.aload_n (j := 0) rfl dX0_translateStep_8 ?_
  refine V.getr (q := 11) dX0_translateStep_9 fX0_63 rfl rfl ?_
  refine V.iload_n (j := 3) rfl dX0_translateStep_12 ?_
  refine V.lda (v := (-1)) dX0_translateStep_13 rfl (by omega) (by decide) h11 ?_
  refine V.istore (ls' := [(0, .ref 1), (1, .ref 15), (2, .ref 25), (3, .int (nI s)), (4, .int (nI f)), (5, .int ((-1)))]) dX0_translateStep_14 (by decide) rfl ?_
  refine V.aload_n (j := 0) rfl dX0_translateStep_16 ?_
  refine V.aload_n (j := 1) rfl dX0_translateStep_17 ?_
  refine V.aload_n (j := 2) rfl dX0_translateStep_18 ?_
  refine V.iload (j := 4) rfl dX0_translateStep_19 ?_
  refine V.bipush (v := nI 8) (by decide) dX0_translateStep_21 ?_
  have hl1 : (cz_br (A 2) (A 20) (nI f) 8 (cz_v A, n)).2 ≤ n + 1 := cz_br_le
  refine V.cS (As := [.ref 1, .ref 15, .ref 25, .int (nI f), .int (nI 8)]) (st := []) dX0_translateStep_23 sX0_66 zX0_bring (cd_bringV I A n hn (by omega) f (by omega) _) ⟨by decide, by decide⟩ (Nat.le_of_ble_eq_true rfl) rfl (fun r I' A' hq => ?_)
  obtain ⟨rfl, rfl, rfl⟩ := hq
  generalize hC1 : cz_br (A 2) (A 20) (nI f) 8 (cz_v A, n) = C1 at hl1 ⊢
  refine V.st (st' := [.int (cz_R (A 2) (A 20) (nI f) 8)]) rfl ?_
  refine V.istore (ls' := [(0, .ref 1), (1, .ref 15), (2, .ref 25), (3, .int (nI s)), (4, .int (nI f)), (5, .int ((-1))), (6, .int (cz_R (A 2) (A 20) (nI f) 8))]) dX0_translateStep_26 (by decide) rfl ?_
  refine V.iload (j := 6) rfl dX0_translateStep_28 ?_
  refine V.istore (ls' := [(0, .ref 1), (1, .ref 15), (2, .ref 25), (3, .int (nI s)), (4, .int (nI f)), (5, .int ((-1))), (6, .int (cz_R (A 2) (A 20) (nI f) 8)), (7, .int (cz_R (A 2) (A 20) (nI f) 8))]) dX0_translateStep_30 (by decide) rfl ?_
  refine V.iload (j := 5) rfl dX0_translateStep_32 ?_
  refine V.iload (j := 4) rfl dX0_translateStep_34 ?_
  refine V.icmp_eq (tgt := 72) dX0_translateStep_36 (by decide) (fun z => absurd z ((fun q => nI_nm1 (by omega) q.symm))) (fun _ => ?_)
  refine V.aload_n (j := 0) rfl dX0_translateStep_39 ?_
  refine V.aload_n (j := 1) rfl dX0_translateStep_40 ?_
  refine V.iload (j := 4) rfl dX0_translateStep_41 ?_
  refine V.iload (j := 5) rfl dX0_translateStep_43 ?_
  refine V.cS (As := [.ref 1, .ref 15, .int (nI f), .int ((-1))]) (st := []) dX0_translateStep_45 sX0_70 zX0_firstHolds8 (cd_holdsN (upI I 25 4 (nI (C1.2))) (cz_CC A C1.1) _) ⟨by decide, by decide⟩ (Nat.le_of_ble_eq_true rfl) rfl (fun r I' A' hq => ?_)
  obtain ⟨rfl, rfl, rfl⟩ := hq
  refine V.st (st' := [.int (nI 0)]) rfl ?_
  refine V.istore (ls' := [(0, .ref 1), (1, .ref 15), (2, .ref 25), (3, .int (nI s)), (4, .int (nI f)), (5, .int ((-1))), (6, .int (cz_R (A 2) (A 20) (nI f) 8)), (7, .int (cz_R (A 2) (A 20) (nI f) 8)), (8, .int (nI 0))]) dX0_translateStep_48 (by decide) rfl ?_
  refine V.aload_n (j := 0) rfl dX0_translateStep_50 ?_
  refine V.aload_n (j := 1) rfl dX0_translateStep_51 ?_
  refine V.aload_n (j := 2) rfl dX0_translateStep_52 ?_
  refine V.iload (j := 5) rfl dX0_translateStep_53 ?_
  refine V.iload (j := 8) rfl dX0_translateStep_55 ?_
  refine V.if_eq (tgt := 65) dX0_translateStep_57 (by decide) (fun _ => ?_) (fun z => absurd z (by decide))
  refine V.bipush (v := nI 8) (by decide) dX0_translateStep_65 ?_
  refine V.cS (As := [.ref 1, .ref 15, .ref 25, .int ((-1)), .int (nI 8)]) (st := []) dX0_translateStep_67 sX0_66 zX0_bring (cd_bringN (upI I 25 4 (nI (C1.2))) (cz_CC A C1.1) C1.2 rfl (by omega) _) ⟨by decide, by decide⟩ (Nat.le_of_ble_eq_true rfl) rfl (fun r I' A' hq => ?_)
  obtain ⟨rfl, rfl, rfl⟩ := hq
  refine V.hpe (I' := (upI I 25 4 (nI (cz_br (A 2) (A 20) ((-1)) 8 C1).2))) (A' := (cz_CC A (cz_br (A 2) (A 20) ((-1)) 8 C1).1)) (by rw [upI_u]; exact congrArg (fun q => upI I 25 4 (nI q)) cz_CCn) cz_CCb ?_
  have hl2 : (cz_br (A 2) (A 20) ((-1)) 8 C1).2 ≤ C1.2 + 1 := cz_br_le
  generalize hC2 : cz_br (A 2) (A 20) ((-1)) 8 C1 = C2 at hl2 ⊢
  refine V.st (st' := [.int (cz_R (A 2) (A 20) ((-1)) 8)]) rfl ?_
  refine V.istore (ls' := [(0, .ref 1), (1, .ref 15), (2, .ref 25), (3, .int (nI s)), (4, .int (nI f)), (5, .int ((-1))), (6, .int (cz_R (A 2) (A 20) (nI f) 8)), (7, .int (cz_R (A 2) (A 20) ((-1)) 8)), (8, .int (nI 0))]) dX0_translateStep_70 (by decide) rfl ?_
  refine V.aload_n (j := 0) rfl dX0_translateStep_72 ?_
  refine V.getr (q := 9) dX0_translateStep_73 fX0_74 rfl rfl ?_
  refine V.iload_n (j := 3) rfl dX0_translateStep_76 ?_
  refine V.lda (v := (-1)) dX0_translateStep_77 rfl (by omega) (by decide) h9 ?_
  refine V.istore (ls' := [(0, .ref 1), (1, .ref 15), (2, .ref 25), (3, .int (nI s)), (4, .int (nI f)), (5, .int ((-1))), (6, .int (cz_R (A 2) (A 20) (nI f) 8)), (7, .int (cz_R (A 2) (A 20) ((-1)) 8)), (8, .int ((-1)))]) dX0_translateStep_78 (by decide) rfl ?_
  refine V.iload (j := 8) rfl dX0_translateStep_80 ?_
  refine V.iconst (v := (-1)) (by decide) dX0_translateStep_82 ?_
  refine V.icmp_ne (tgt := 100) dX0_translateStep_83 (by decide) (fun z => absurd rfl z) (fun _ => ?_)
  refine V.aload_n (j := 0) rfl dX0_translateStep_86 ?_
  refine V.getr (q := 4) dX0_translateStep_87 fX0_21 rfl rfl ?_
  refine V.aload_n (j := 2) rfl dX0_translateStep_90 ?_
  refine V.iload_n (j := 3) rfl dX0_translateStep_91 ?_
  refine V.iload (j := 6) rfl dX0_translateStep_92 ?_
  refine V.iload (j := 7) rfl dX0_translateStep_94 ?_
  refine V.cS (As := [.ref 4, .ref 25, .int (nI s), .int (cz_R (A 2) (A 20) (nI f) 8), .int (cz_R (A 2) (A 20) ((-1)) 8)]) (st := []) dX0_translateStep_96 sX0_77 zX0_addUser (cd_user (upI I 25 4 (nI (C2.2))) (cz_CC A C2.1) k hk s hs ek C2.2 rfl (by omega) ((cz_R (A 2) (A 20) (-1) 8)) _ _) ⟨by decide, by decide⟩ (Nat.le_of_ble_eq_true rfl) rfl (fun r I' A' hq => ?_)
  obtain ⟨rfl, rfl, rfl⟩ := hq
  refine V.hpe (I' := (upI I 25 4 (nI (C2.2 + 1)))) (A' := (cz_CC A (mz_lay C2.1 C2.2 (nI k) (cz_x3 k ((cz_R (A 2) (A 20) (-1) 8)) (cz_R (A 2) (A 20) (nI f) 8) (cz_R (A 2) (A 20) ((-1)) 8) (A 6 s) (A 7 s) (A 8 s)).1 (cz_x3 k ((cz_R (A 2) (A 20) (-1) 8)) (cz_R (A 2) (A 20) (nI f) 8) (cz_R (A 2) (A 20) ((-1)) 8) (A 6 s) (A 7 s) (A 8 s)).2.1 (cz_x3 k ((cz_R (A 2) (A 20) (-1) 8)) (cz_R (A 2) (A 20) (nI f) 8) (cz_R (A 2) (A 20) ((-1)) 8) (A 6 s) (A 7 s) (A 8 s)).2.2))) upI_u cz_CCl ?_
  refine V.st (st' := []) rfl ?_
  refine V.rv dX0_translateStep_99 rfl ?_
  subst hC2
  subst hC1
  have hne : ¬ (-1 : Int32) = nI f := fun z => nI_nm1 (by omega) z.symm
  have ew : cz_w2 (A 2) (A 20) (nI f) (-1) = 8 := cz_w2_m
  have eC : cz_C2 (A 2) (A 20) (nI f) ((-1)) (cz_v A, n) = cz_br (A 2) (A 20) ((-1)) 8 (cz_br (A 2) (A 20) (nI f) 8 (cz_v A, n)) := by unfold cz_C2; rw [if_neg hne, ew]
  have eg : cz_gA (A 2) (A 20) (nI f) ((-1)) = cz_R (A 2) (A 20) ((-1)) 8 := by unfold cz_gA; rw [if_neg hne, ew]
  have eX : cz_X (A 2) (A 20) k (A 6 s) (A 7 s) (A 8 s) (nI f) ((-1)) ((-1)) = cz_x3 k (cz_R (A 2) (A 20) ((-1)) 8) (cz_R (A 2) (A 20) (nI f) 8) (cz_gA (A 2) (A 20) (nI f) ((-1))) (A 6 s) (A 7 s) (A 8 s) := rfl
  have e : cz_ts (A 2) (A 20) k (A 6 s) (A 7 s) (A 8 s) (nI f) ((-1)) ((-1)) (cz_v A, n) = _ := show mz_kp _ _ _ _ _ = _ by rw [mz_kp_m]
  rw [eC, eX, eg] at e
  exact ⟨rfl, by rw [e], by rw [e]⟩
set_option maxRecDepth 100000 in
set_option maxHeartbeats 4000000 in
theorem cd_tsU3 {G : am_G} (I A : Nat → Nat → Int32) (n : Nat) (hn : I 25 4 = nI n) (hN : n + 4 ≤ 240) (s : Nat) (hs : s < 60) (k : Nat) (hk : 6 ≤ k ∧ k ≤ 10) (ek : A 5 s = nI k) (f : Nat) (hf : f < 24) (g : Nat) (hg : g < 24) (h10 : A 10 s = nI f) (h11 : A 11 s = nI g) (h9 : A 9 s = (-1)) : Cm G MX0_translateStep 3 70 [.ref 1, .ref 15, .ref 25, .int (nI s)] I A (fun r I' A' => r = none ∧ upI I 25 4 (nI (cz_ts (A 2) (A 20) k (A 6 s) (A 7 s) (A 8 s) (nI f) (nI g) ((-1)) (cz_v A, n)).2) = I' ∧ cz_CC A (cz_ts (A 2) (A 20) k (A 6 s) (A 7 s) (A 8 s) (nI f) (nI g) ((-1)) (cz_v A, n)).1 = A') := by
  refine Cm.of (by decide) (Nat.le_of_ble_eq_true rfl) rfl ?_
  show V G MX0_translateStep (am_R 3 70 0 0) _ 0 0 0 [(0, .ref 1), (1, .ref 15), (2, .ref 25), (3, .int (nI s))] [] (hp I A)
  refine V.aload_n (j := 0) rfl dX0_translateStep_0 ?_
  refine V.getr (q := 10) dX0_translateStep_1 fX0_60 rfl rfl ?_
  refine V.iload_n (j := 3) rfl dX0_translateStep_4 ?_
  refine V.lda (v := nI f) dX0_translateStep_5 rfl (by omega) (by decide) h10 ?_
  refine V.istore (ls' := [(0, .ref 1), (1, .ref 15), (2, .ref 25), (3, .int (nI s)), (4, .int (nI f))]) dX0_translateStep_6 (by decide) rfl ?_
  refine V.aload_n (j := 0) rfl dX0_translateStep_8 ?_
  refine V.getr (q := 11) dX0_translateStep_9 fX0_63 rfl rfl ?_
  refine V.iload_n (j := 3) rfl dX0_translateStep_12 ?_
  refine V.lda (v := nI g) dX0_translateStep_13 rfl (by omega) (by decide) h11 ?_
  refine V.istore (ls' := [(0, .ref 1), (1, .ref 15), (2, .ref 25), (3, .int (nI s)), (4, .int (nI f)), (5, .int (nI g))]) dX0_translateStep_14 (by decide) rfl ?_
  refine V.aload_n (j := 0) rfl dX0_translateStep_16 ?_
  refine V.aload_n (j := 1) rfl dX0_translateStep_17 ?_
  refine V.aload_n (j := 2) rfl dX0_translateStep_18 ?_
  refine V.iload (j := 4) rfl dX0_translateStep_19 ?_
  refine V.bipush (v := nI 8) (by decide) dX0_translateStep_21 ?_
  have hl1 : (cz_br (A 2) (A 20) (nI f) 8 (cz_v A, n)).2 ≤ n + 1 := cz_br_le
  refine V.cS (As := [.ref 1, .ref 15, .ref 25, .int (nI f), .int (nI 8)]) (st := []) dX0_translateStep_23 sX0_66 zX0_bring (cd_bringV I A n hn (by omega) f (by omega) _) ⟨by decide, by decide⟩ (Nat.le_of_ble_eq_true rfl) rfl (fun r I' A' hq => ?_)
  obtain ⟨rfl, rfl, rfl⟩ := hq
  generalize hC1 : cz_br (A 2) (A 20) (nI f) 8 (cz_v A, n) = C1 at hl1 ⊢
  refine V.st (st' := [.int (cz_R (A 2) (A 20) (nI f) 8)]) rfl ?_
  refine V.istore (ls' := [(0, .ref 1), (1, .ref 15), (2, .ref 25), (3, .int (nI s)), (4, .int (nI f)), (5, .int (nI g)), (6, .int (cz_R (A 2) (A 20) (nI f) 8))]) dX0_translateStep_26 (by decide) rfl ?_
  refine V.iload (j := 6) rfl dX0_translateStep_28 ?_
  refine V.istore (ls' := [(0, .ref 1), (1, .ref 15), (2, .ref 25), (3, .int (nI s)), (4, .int (nI f)), (5, .int (nI g)), (6, .int (cz_R (A 2) (A 20) (nI f) 8)), (7, .int (cz_R (A 2) (A 20) (nI f) 8))]) dX0_translateStep_30 (by decide) rfl ?_
  refine V.iload (j := 5) rfl dX0_translateStep_32 ?_
  refine V.iload (j := 4) rfl dX0_translateStep_34 ?_
  refine V.icmp_eqN (tgt := 72) dX0_translateStep_36 (by decide) (by omega) (by omega) (fun c1 => ?_) (fun c1 => ?_)
  · refine V.aload_n (j := 0) rfl dX0_translateStep_72 ?_
    refine V.getr (q := 9) dX0_translateStep_73 fX0_74 rfl rfl ?_
    refine V.iload_n (j := 3) rfl dX0_translateStep_76 ?_
    refine V.lda (v := (-1)) dX0_translateStep_77 rfl (by omega) (by decide) h9 ?_
    refine V.istore (ls' := [(0, .ref 1), (1, .ref 15), (2, .ref 25), (3, .int (nI s)), (4, .int (nI f)), (5, .int (nI g)), (6, .int (cz_R (A 2) (A 20) (nI f) 8)), (7, .int (cz_R (A 2) (A 20) (nI f) 8)), (8, .int ((-1)))]) dX0_translateStep_78 (by decide) rfl ?_
    refine V.iload (j := 8) rfl dX0_translateStep_80 ?_
    refine V.iconst (v := (-1)) (by decide) dX0_translateStep_82 ?_
    refine V.icmp_ne (tgt := 100) dX0_translateStep_83 (by decide) (fun z => absurd rfl z) (fun _ => ?_)
    refine V.aload_n (j := 0) rfl dX0_translateStep_86 ?_
    refine V.getr (q := 4) dX0_translateStep_87 fX0_21 rfl rfl ?_
    refine V.aload_n (j := 2) rfl dX0_translateStep_90 ?_
    refine V.iload_n (j := 3) rfl dX0_translateStep_91 ?_
    refine V.iload (j := 6) rfl dX0_translateStep_92 ?_
    refine V.iload (j := 7) rfl dX0_translateStep_94 ?_
    refine V.cS (As := [.ref 4, .ref 25, .int (nI s), .int (cz_R (A 2) (A 20) (nI f) 8), .int (cz_R (A 2) (A 20) (nI f) 8)]) (st := []) dX0_translateStep_96 sX0_77 zX0_addUser (cd_user (upI I 25 4 (nI (C1.2))) (cz_CC A C1.1) k hk s hs ek C1.2 rfl (by omega) ((cz_R (A 2) (A 20) (-1) 8)) _ _) ⟨by decide, by decide⟩ (Nat.le_of_ble_eq_true rfl) rfl (fun r I' A' hq => ?_)
    obtain ⟨rfl, rfl, rfl⟩ := hq
    refine V.hpe (I' := (upI I 25 4 (nI (C1.2 + 1)))) (A' := (cz_CC A (mz_lay C1.1 C1.2 (nI k) (cz_x3 k ((cz_R (A 2) (A 20) (-1) 8)) (cz_R (A 2) (A 20) (nI f) 8) (cz_R (A 2) (A 20) (nI f) 8) (A 6 s) (A 7 s) (A 8 s)).1 (cz_x3 k ((cz_R (A 2) (A 20) (-1) 8)) (cz_R (A 2) (A 20) (nI f) 8) (cz_R (A 2) (A 20) (nI f) 8) (A 6 s) (A 7 s) (A 8 s)).2.1 (cz_x3 k ((cz_R (A 2) (A 20) (-1) 8)) (cz_R (A 2) (A 20) (nI f) 8) (cz_R (A 2) (A 20) (nI f) 8) (A 6 s) (A 7 s) (A 8 s)).2.2))) upI_u cz_CCl ?_
    refine V.st (st' := []) rfl ?_
    refine V.rv dX0_translateStep_99 rfl ?_
    obtain rfl : f = g := (c1).symm
    subst hC1
    have eC : cz_C2 (A 2) (A 20) (nI f) (nI f) (cz_v A, n) = cz_br (A 2) (A 20) (nI f) 8 (cz_v A, n) := if_pos rfl
    have eg : cz_gA (A 2) (A 20) (nI f) (nI f) = cz_R (A 2) (A 20) (nI f) 8 := if_pos rfl
    have eX : cz_X (A 2) (A 20) k (A 6 s) (A 7 s) (A 8 s) (nI f) (nI f) ((-1)) = cz_x3 k (cz_R (A 2) (A 20) ((-1)) 8) (cz_R (A 2) (A 20) (nI f) 8) (cz_gA (A 2) (A 20) (nI f) (nI f)) (A 6 s) (A 7 s) (A 8 s) := rfl
    have e : cz_ts (A 2) (A 20) k (A 6 s) (A 7 s) (A 8 s) (nI f) (nI f) ((-1)) (cz_v A, n) = _ := show mz_kp _ _ _ _ _ = _ by rw [mz_kp_m]
    rw [eC, eX, eg] at e
    exact ⟨rfl, by rw [e], by rw [e]⟩
  · refine V.aload_n (j := 0) rfl dX0_translateStep_39 ?_
    refine V.aload_n (j := 1) rfl dX0_translateStep_40 ?_
    refine V.iload (j := 4) rfl dX0_translateStep_41 ?_
    refine V.iload (j := 5) rfl dX0_translateStep_43 ?_
    refine V.cS (As := [.ref 1, .ref 15, .int (nI f), .int (nI g)]) (st := []) dX0_translateStep_45 sX0_70 zX0_firstHolds8 (cd_holdsV (upI I 25 4 (nI (C1.2))) (cz_CC A C1.1) f g (by omega) (by omega)) ⟨by decide, by decide⟩ (Nat.le_of_ble_eq_true rfl) rfl (fun r I' A' hq => ?_)
    obtain ⟨rfl, rfl, rfl⟩ := hq
    by_cases b3 : ¬ (cz_CC A C1.1) 20 f < nI 100 ∧ (cz_CC A C1.1) 2 f = (cz_CC A C1.1) 2 g
    · refine V.st (st' := [.int (nI 1)]) (by rw [bI_t b3]; rfl) ?_
      refine V.istore (ls' := [(0, .ref 1), (1, .ref 15), (2, .ref 25), (3, .int (nI s)), (4, .int (nI f)), (5, .int (nI g)), (6, .int (cz_R (A 2) (A 20) (nI f) 8)), (7, .int (cz_R (A 2) (A 20) (nI f) 8)), (8, .int (nI 1))]) dX0_translateStep_48 (by decide) rfl ?_
      refine V.aload_n (j := 0) rfl dX0_translateStep_50 ?_
      refine V.aload_n (j := 1) rfl dX0_translateStep_51 ?_
      refine V.aload_n (j := 2) rfl dX0_translateStep_52 ?_
      refine V.iload (j := 5) rfl dX0_translateStep_53 ?_
      refine V.iload (j := 8) rfl dX0_translateStep_55 ?_
      refine V.if_eq (tgt := 65) dX0_translateStep_57 (by decide) (fun z => absurd z (by decide)) (fun _ => ?_)
      refine V.bipush (v := nI 9) (by decide) dX0_translateStep_60 ?_
      refine V.goto (tgt := 67) dX0_translateStep_62 (by decide) ?_
      refine V.cS (As := [.ref 1, .ref 15, .ref 25, .int (nI g), .int (nI 9)]) (st := []) dX0_translateStep_67 sX0_66 zX0_bring (cd_bringV (upI I 25 4 (nI (C1.2))) (cz_CC A C1.1) C1.2 rfl (by omega) g (by omega) _) ⟨by decide, by decide⟩ (Nat.le_of_ble_eq_true rfl) rfl (fun r I' A' hq => ?_)
      obtain ⟨rfl, rfl, rfl⟩ := hq
      refine V.hpe (I' := (upI I 25 4 (nI (cz_br (A 2) (A 20) (nI g) 9 C1).2))) (A' := (cz_CC A (cz_br (A 2) (A 20) (nI g) 9 C1).1)) (by rw [upI_u]; exact congrArg (fun q => upI I 25 4 (nI q)) cz_CCn) cz_CCb ?_
      have hl2 : (cz_br (A 2) (A 20) (nI g) 9 C1).2 ≤ C1.2 + 1 := cz_br_le
      generalize hC2 : cz_br (A 2) (A 20) (nI g) 9 C1 = C2 at hl2 ⊢
      refine V.st (st' := [.int (cz_R (A 2) (A 20) (nI g) 9)]) rfl ?_
      refine V.istore (ls' := [(0, .ref 1), (1, .ref 15), (2, .ref 25), (3, .int (nI s)), (4, .int (nI f)), (5, .int (nI g)), (6, .int (cz_R (A 2) (A 20) (nI f) 8)), (7, .int (cz_R (A 2) (A 20) (nI g) 9)), (8, .int (nI 1))]) dX0_translateStep_70 (by decide) rfl ?_
      refine V.aload_n (j := 0) rfl dX0_translateStep_72 ?_
      refine V.getr (q := 9) dX0_translateStep_73 fX0_74 rfl rfl ?_
      refine V.iload_n (j := 3) rfl dX0_translateStep_76 ?_
      refine V.lda (v := (-1)) dX0_translateStep_77 rfl (by omega) (by decide) h9 ?_
      refine V.istore (ls' := [(0, .ref 1), (1, .ref 15), (2, .ref 25), (3, .int (nI s)), (4, .int (nI f)), (5, .int (nI g)), (6, .int (cz_R (A 2) (A 20) (nI f) 8)), (7, .int (cz_R (A 2) (A 20) (nI g) 9)), (8, .int ((-1)))]) dX0_translateStep_78 (by decide) rfl ?_
      refine V.iload (j := 8) rfl dX0_translateStep_80 ?_
      refine V.iconst (v := (-1)) (by decide) dX0_translateStep_82 ?_
      refine V.icmp_ne (tgt := 100) dX0_translateStep_83 (by decide) (fun z => absurd rfl z) (fun _ => ?_)
      refine V.aload_n (j := 0) rfl dX0_translateStep_86 ?_
      refine V.getr (q := 4) dX0_translateStep_87 fX0_21 rfl rfl ?_
      refine V.aload_n (j := 2) rfl dX0_translateStep_90 ?_
      refine V.iload_n (j := 3) rfl dX0_translateStep_91 ?_
      refine V.iload (j := 6) rfl dX0_translateStep_92 ?_
      refine V.iload (j := 7) rfl dX0_translateStep_94 ?_
      refine V.cS (As := [.ref 4, .ref 25, .int (nI s), .int (cz_R (A 2) (A 20) (nI f) 8), .int (cz_R (A 2) (A 20) (nI g) 9)]) (st := []) dX0_translateStep_96 sX0_77 zX0_addUser (cd_user (upI I 25 4 (nI (C2.2))) (cz_CC A C2.1) k hk s hs ek C2.2 rfl (by omega) ((cz_R (A 2) (A 20) (-1) 8)) _ _) ⟨by decide, by decide⟩ (Nat.le_of_ble_eq_true rfl) rfl (fun r I' A' hq => ?_)
      obtain ⟨rfl, rfl, rfl⟩ := hq
      refine V.hpe (I' := (upI I 25 4 (nI (C2.2 + 1)))) (A' := (cz_CC A (mz_lay C2.1 C2.2 (nI k) (cz_x3 k ((cz_R (A 2) (A 20) (-1) 8)) (cz_R (A 2) (A 20) (nI f) 8) (cz_R (A 2) (A 20) (nI g) 9) (A 6 s) (A 7 s) (A 8 s)).1 (cz_x3 k ((cz_R (A 2) (A 20) (-1) 8)) (cz_R (A 2) (A 20) (nI f) 8) (cz_R (A 2) (A 20) (nI g) 9) (A 6 s) (A 7 s) (A 8 s)).2.1 (cz_x3 k ((cz_R (A 2) (A 20) (-1) 8)) (cz_R (A 2) (A 20) (nI f) 8) (cz_R (A 2) (A 20) (nI g) 9) (A 6 s) (A 7 s) (A 8 s)).2.2))) upI_u cz_CCl ?_
      refine V.st (st' := []) rfl ?_
      refine V.rv dX0_translateStep_99 rfl ?_
      subst hC2
      subst hC1
      have hne : ¬ nI g = nI f := by rw [nI_eq (by omega) (by omega)]; exact c1
      have ew : cz_w2 (A 2) (A 20) (nI f) (nI g) = 9 := cz_w2_9 (by omega) (by omega) b3
      have eC : cz_C2 (A 2) (A 20) (nI f) (nI g) (cz_v A, n) = cz_br (A 2) (A 20) (nI g) 9 (cz_br (A 2) (A 20) (nI f) 8 (cz_v A, n)) := by unfold cz_C2; rw [if_neg hne, ew]
      have eg : cz_gA (A 2) (A 20) (nI f) (nI g) = cz_R (A 2) (A 20) (nI g) 9 := by unfold cz_gA; rw [if_neg hne, ew]
      have eX : cz_X (A 2) (A 20) k (A 6 s) (A 7 s) (A 8 s) (nI f) (nI g) ((-1)) = cz_x3 k (cz_R (A 2) (A 20) ((-1)) 8) (cz_R (A 2) (A 20) (nI f) 8) (cz_gA (A 2) (A 20) (nI f) (nI g)) (A 6 s) (A 7 s) (A 8 s) := rfl
      have e : cz_ts (A 2) (A 20) k (A 6 s) (A 7 s) (A 8 s) (nI f) (nI g) ((-1)) (cz_v A, n) = _ := show mz_kp _ _ _ _ _ = _ by rw [mz_kp_m]
      rw [eC, eX, eg] at e
      exact ⟨rfl, by rw [e], by rw [e]⟩
    · refine V.st (st' := [.int (nI 0)]) (by rw [bI_f b3]; rfl) ?_
      refine V.istore (ls' := [(0, .ref 1), (1, .ref 15), (2, .ref 25), (3, .int (nI s)), (4, .int (nI f)), (5, .int (nI g)), (6, .int (cz_R (A 2) (A 20) (nI f) 8)), (7, .int (cz_R (A 2) (A 20) (nI f) 8)), (8, .int (nI 0))]) dX0_translateStep_48 (by decide) rfl ?_
      refine V.aload_n (j := 0) rfl dX0_translateStep_50 ?_
      refine V.aload_n (j := 1) rfl dX0_translateStep_51 ?_
      refine V.aload_n (j := 2) rfl dX0_translateStep_52 ?_
      refine V.iload (j := 5) rfl dX0_translateStep_53 ?_
      refine V.iload (j := 8) rfl dX0_translateStep_55 ?_
      refine V.if_eq (tgt := 65) dX0_translateStep_57 (by decide) (fun _ => ?_) (fun z => absurd z (by decide))
      refine V.bipush (v := nI 8) (by decide) dX0_translateStep_65 ?_
      refine V.cS (As := [.ref 1, .ref 15, .ref 25, .int (nI g), .int (nI 8)]) (st := []) dX0_translateStep_67 sX0_66 zX0_bring (cd_bringV (upI I 25 4 (nI (C1.2))) (cz_CC A C1.1) C1.2 rfl (by omega) g (by omega) _) ⟨by decide, by decide⟩ (Nat.le_of_ble_eq_true rfl) rfl (fun r I' A' hq => ?_)
      obtain ⟨rfl, rfl, rfl⟩ := hq
      refine V.hpe (I' := (upI I 25 4 (nI (cz_br (A 2) (A 20) (nI g) 8 C1).2))) (A' := (cz_CC A (cz_br (A 2) (A 20) (nI g) 8 C1).1)) (by rw [upI_u]; exact congrArg (fun q => upI I 25 4 (nI q)) cz_CCn) cz_CCb ?_
      have hl2 : (cz_br (A 2) (A 20) (nI g) 8 C1).2 ≤ C1.2 + 1 := cz_br_le
      generalize hC2 : cz_br (A 2) (A 20) (nI g) 8 C1 = C2 at hl2 ⊢
      refine V.st (st' := [.int (cz_R (A 2) (A 20) (nI g) 8)]) rfl ?_
      refine V.istore (ls' := [(0, .ref 1), (1, .ref 15), (2, .ref 25), (3, .int (nI s)), (4, .int (nI f)), (5, .int (nI g)), (6, .int (cz_R (A 2) (A 20) (nI f) 8)), (7, .int (cz_R (A 2) (A 20) (nI g) 8)), (8, .int (nI 0))]) dX0_translateStep_70 (by decide) rfl ?_
      refine V.aload_n (j := 0) rfl dX0_translateStep_72 ?_
      refine V.getr (q := 9) dX0_translateStep_73 fX0_74 rfl rfl ?_
      refine V.iload_n (j := 3) rfl dX0_translateStep_76 ?_
      refine V.lda (v := (-1)) dX0_translateStep_77 rfl (by omega) (by decide) h9 ?_
      refine V.istore (ls' := [(0, .ref 1), (1, .ref 15), (2, .ref 25), (3, .int (nI s)), (4, .int (nI f)), (5, .int (nI g)), (6, .int (cz_R (A 2) (A 20) (nI f) 8)), (7, .int (cz_R (A 2) (A 20) (nI g) 8)), (8, .int ((-1)))]) dX0_translateStep_78 (by decide) rfl ?_
      refine V.iload (j := 8) rfl dX0_translateStep_80 ?_
      refine V.iconst (v := (-1)) (by decide) dX0_translateStep_82 ?_
      refine V.icmp_ne (tgt := 100) dX0_translateStep_83 (by decide) (fun z => absurd rfl z) (fun _ => ?_)
      refine V.aload_n (j := 0) rfl dX0_translateStep_86 ?_
      refine V.getr (q := 4) dX0_translateStep_87 fX0_21 rfl rfl ?_
      refine V.aload_n (j := 2) rfl dX0_translateStep_90 ?_
      refine V.iload_n (j := 3) rfl dX0_translateStep_91 ?_
      refine V.iload (j := 6) rfl dX0_translateStep_92 ?_
      refine V.iload (j := 7) rfl dX0_translateStep_94 ?_
      refine V.cS (As := [.ref 4, .ref 25, .int (nI s), .int (cz_R (A 2) (A 20) (nI f) 8), .int (cz_R (A 2) (A 20) (nI g) 8)]) (st := []) dX0_translateStep_96 sX0_77 zX0_addUser (cd_user (upI I 25 4 (nI (C2.2))) (cz_CC A C2.1) k hk s hs ek C2.2 rfl (by omega) ((cz_R (A 2) (A 20) (-1) 8)) _ _) ⟨by decide, by decide⟩ (Nat.le_of_ble_eq_true rfl) rfl (fun r I' A' hq => ?_)
      obtain ⟨rfl, rfl, rfl⟩ := hq
      refine V.hpe (I' := (upI I 25 4 (nI (C2.2 + 1)))) (A' := (cz_CC A (mz_lay C2.1 C2.2 (nI k) (cz_x3 k ((cz_R (A 2) (A 20) (-1) 8)) (cz_R (A 2) (A 20) (nI f) 8) (cz_R (A 2) (A 20) (nI g) 8) (A 6 s) (A 7 s) (A 8 s)).1 (cz_x3 k ((cz_R (A 2) (A 20) (-1) 8)) (cz_R (A 2) (A 20) (nI f) 8) (cz_R (A 2) (A 20) (nI g) 8) (A 6 s) (A 7 s) (A 8 s)).2.1 (cz_x3 k ((cz_R (A 2) (A 20) (-1) 8)) (cz_R (A 2) (A 20) (nI f) 8) (cz_R (A 2) (A 20) (nI g) 8) (A 6 s) (A 7 s) (A 8 s)).2.2))) upI_u cz_CCl ?_
      refine V.st (st' := []) rfl ?_
      refine V.rv dX0_translateStep_99 rfl ?_
      subst hC2
      subst hC1
      have hne : ¬ nI g = nI f := by rw [nI_eq (by omega) (by omega)]; exact c1
      have ew : cz_w2 (A 2) (A 20) (nI f) (nI g) = 8 := cz_w2_8 (by omega) (by omega) b3
      have eC : cz_C2 (A 2) (A 20) (nI f) (nI g) (cz_v A, n) = cz_br (A 2) (A 20) (nI g) 8 (cz_br (A 2) (A 20) (nI f) 8 (cz_v A, n)) := by unfold cz_C2; rw [if_neg hne, ew]
      have eg : cz_gA (A 2) (A 20) (nI f) (nI g) = cz_R (A 2) (A 20) (nI g) 8 := by unfold cz_gA; rw [if_neg hne, ew]
      have eX : cz_X (A 2) (A 20) k (A 6 s) (A 7 s) (A 8 s) (nI f) (nI g) ((-1)) = cz_x3 k (cz_R (A 2) (A 20) ((-1)) 8) (cz_R (A 2) (A 20) (nI f) 8) (cz_gA (A 2) (A 20) (nI f) (nI g)) (A 6 s) (A 7 s) (A 8 s) := rfl
      have e : cz_ts (A 2) (A 20) k (A 6 s) (A 7 s) (A 8 s) (nI f) (nI g) ((-1)) (cz_v A, n) = _ := show mz_kp _ _ _ _ _ = _ by rw [mz_kp_m]
      rw [eC, eX, eg] at e
      exact ⟨rfl, by rw [e], by rw [e]⟩
