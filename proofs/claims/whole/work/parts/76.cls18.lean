theorem mz_cds_ex {op fa fb fc cl hm : Nat → Int32} : ∀ (m s : Nat) (fe it c : Nat → Int32) (n : Nat) (f : Nat → Int32), ∃ c' n' f', mz_cds op fa fb fc cl hm m s fe it c n f c' n' f' ∧ n' ≤ n + 4 * m
  | 0, s, fe, it, c, n, f => ⟨c, n, f, ⟨rfl, rfl, rfl⟩, Nat.le_refl _⟩
  | m + 1, s, fe, it, c, n, f => by
    obtain ⟨c', n', f', h, hle⟩ := mz_cds_ex m (s + 1) fe it (mz_mk op fa fb fc cl hm s fe it c n).1 (mz_mk op fa fb fc cl hm s fe it c n).2 (upd f s (nI n))
    have := mz_mk_le (op := op) (fa := fa) (fb := fb) (fc := fc) (cl := cl) (hm := hm) (fe := fe) (it := it) (c := c) (s := s) (n := n)
    exact ⟨c', n', f', ⟨fe, it, h⟩, by omega⟩
theorem cz_apart {nv ns : Nat} {I A : Nat → Nat → Int32} (hK : cz_K nv ns I A) (h1 : cz_F1 nv ns A) (h2 : cz_F2 nv ns A) : ∀ v u, v < nv → u < v → bg_t (A 14 v) u = true → ¬ A 20 v = A 20 u := by
  obtain ⟨B, B1, hB, hst⟩ := cz_stl_ex hK
  obtain ⟨-, -, hnv, hns, hsw, -⟩ := hK
  obtain ⟨-, -, e⟩ := h2 B B1 hB hst
  have han : ∀ s, s < ns → mz_anew (B m_ops) (B m_first) s = (-1) ∨ ∃ a, a < nv ∧ mz_anew (B m_ops) (B m_first) s = nI a := fun s hs => by rw [hB.1, hB.2.1]; exact mz_sw_anew (fb := A 7) (fc := A 8) (hsw s hs)
  have hap := mz_stl_apart hnv han hst
  obtain ⟨k, hm, hk, -, rfl⟩ := hst
  obtain ⟨-, hW⟩ := h1 B k hB hk
  intro v u hv hu hb
  rw [e]
  exact hap v u hv (by omega) (by show bg_t (mz_W nv ns B (mz_fl ns B k).2 v) u = true; rw [← hW v hv]; exact hb)
theorem cz_sl_0 {s : Nat → Int32} {r : Nat} (hr : r < 64) : cz_sl (mz_fill 48 0 s) r = 0 := by
  unfold cz_sl
  by_cases q : r % 32 < 24
  · rw [if_pos q, mz_fill_at, if_pos (by omega)]; rfl
  · rw [if_neg q]
theorem cz_cpf_at : ∀ (m i : Nat) (g f : Nat → Int32) (s : Nat), mz_cpf g m i f s = if i ≤ s ∧ s < i + m then g s else f s
  | 0, i, g, f, s => by rw [if_neg (by omega)]; rfl
  | m + 1, i, g, f, s => by
    show mz_cpf g m (i + 1) (upd f i (g i)) s = _
    rw [cz_cpf_at m (i + 1)]
    by_cases h : s = i
    · subst h
      rw [if_neg (by omega), if_pos (by omega), pk_us]
    · by_cases h2 : i + 1 ≤ s ∧ s < i + 1 + m
      · rw [if_pos h2, if_pos (by omega)]
      · rw [if_neg h2, if_neg (by omega), pk_un h]
/-- check: where both trials end they agree -/
theorem cz_chk {nv ns n : Nat} {I A : Nat → Nat → Int32} (hK : cz_K nv ns I A) (h1 : cz_F1 nv ns A) (h2 : cz_F2 nv ns A) (h3 : cz_F3 nv ns I A) (en : I 25 4 = nI n) (hn : n ≤ 240) (hs : ns ≤ (cz_rn ns (cz_c (A 5) (A 6) (A 7) (A 8)) 300 A 42 44 45 43).1) (hc : n ≤ (cz_rn n (cz_c (A 26) (A 27) (A 28) (A 29)) 300 A 47 49 50 48).1) :
    (cz_rn n (cz_c (A 26) (A 27) (A 28) (A 29)) 300 A 47 49 50 48).2.2.2.2.2.2 = (cz_rn ns (cz_c (A 5) (A 6) (A 7) (A 8)) 300 A 42 44 45 43).2.2.2.2.2.2 ∧ cz_eq (min (cz_rn n (cz_c (A 26) (A 27) (A 28) (A 29)) 300 A 47 49 50 48).2.2.2.2.2.2 50) (cz_rn n (cz_c (A 26) (A 27) (A 28) (A 29)) 300 A 47 49 50 48).2.2.2.2.1 (cz_rn ns (cz_c (A 5) (A 6) (A 7) (A 8)) 300 A 42 44 45 43).2.2.2.2.1 ∧ cz_eq 64 (cz_rn n (cz_c (A 26) (A 27) (A 28) (A 29)) 300 A 47 49 50 48).2.2.2.1 (cz_rn ns (cz_c (A 5) (A 6) (A 7) (A 8)) 300 A 42 44 45 43).2.2.2.1 := by
  obtain ⟨B, B1, hB, hst⟩ := cz_stl_ex hK
  obtain ⟨-, -, hnv, hns, hsw, hcl, -⟩ := id hK
  obtain ⟨e1, e2, e3, e4, e5, e6, e7⟩ := id hB
  obtain ⟨c, n', f, hcds, hle⟩ := mz_cds_ex (op := B m_ops) (fa := B m_first) (fb := B m_second) (fc := B m_third) (cl := B m_classes) (hm := B1 m_homes) ns 0 (fun _ => 0) (fun _ => 0) (fun _ => 0) 0 (fun _ => 0)
  obtain ⟨m, hm, em, hi2, -, hF⟩ := h3
  obtain rfl : n = m := (nI_eq (by omega) (by omega)).mp (en.symm.trans em)
  obtain ⟨q1, q2⟩ := hF B B1 _ _ _ _ c n' f hB hst hcds
  subst q1
  have r0 : rz (mz_fill 32 0 (A 47)) (mz_fill 32 0 (A 47)) (mz_cpf (A 35) 64 0 (A 49)) (mz_cpf (A 35) 64 0 (A 44)) (A 50) (A 45) (cz_sl (mz_fill 48 0 (A 48))) (cz_sl (mz_fill 48 0 (A 48))) 0 := ⟨fun _ _ => rfl, fun s hs => by rw [cz_cpf_at, cz_cpf_at, if_pos (by omega), if_pos (by omega)], fun s hs => absurd hs (by omega), fun _ _ _ _ => rfl⟩
  obtain ⟨a1, -, a3, a4, a5⟩ := rz_run (c := cz_v A) (c' := mz_rts ns n f n 0 c) (ba := 0) (ba' := 0) hi2 (fun i hi r hr => by rw [Nat.zero_add, q2 _ (by omega)]) 300 0 0 _ _ _ _ _ _ _ _ 0 r0
  have s0 : rs (mz_fill 32 0 (A 42)) (mz_fill 32 0 (A 42)) (mz_cpf (A 35) 64 0 (A 44)) (mz_cpf (A 35) 64 0 (A 44)) (A 45) (A 45) 0 := ⟨fun _ _ => rfl, fun _ _ => rfl, fun _ _ => rfl⟩
  obtain ⟨b1, -, b3, b4, b5⟩ := rs_run hnv hns hsw 300 0 0 0 _ _ _ _ _ _ (cz_sl (mz_fill 48 0 (A 43))) 0 (Or.inl rfl) s0
  have hS := b1.mp hs
  have hI : n ≤ (mz_rnI n (mz_rts ns n f n 0 c) 0 300 0 0 (mz_fill 32 0 (A 47)) (mz_cpf (A 35) 64 0 (A 44)) (A 45) (cz_sl (mz_fill 48 0 (A 48))) 0).1 := by rw [← a1]; exact hc
  rw [← e1, ← e2, ← e3, ← e4] at hsw hS b3 b4 b5
  obtain ⟨p1, p2, p3⟩ := pz_pres (nv := nv) (ns := ns) (n := n) (A := B) (A1 := B1) (m := 300) (m' := 300) (nw0 := mz_fill 32 0 (A 42)) (hd0 := mz_fill 32 0 (A 47)) (sl0 := cz_sl (mz_fill 48 0 (A 48))) (l := mz_cpf (A 35) 64 0 (A 44)) (sd := A 45) hnv hns hsw (by rw [e5]; exact hcl) hst hcds (by omega) (fun v hv => by rw [mz_fill_at, if_pos (by omega)]; rfl) (fun r hr => by rw [mz_fill_at, if_pos (by omega)]; rfl) (fun r hr => cz_sl_0 hr) hS hI
  rw [e1, e2, e3, e4] at b3 b4 b5 p1 p2 p3
  have t1 : (cz_rn n (cz_c (A 26) (A 27) (A 28) (A 29)) 300 A 47 49 50 48).2.2.2.2.2.2 = (cz_rn ns (cz_c (A 5) (A 6) (A 7) (A 8)) 300 A 42 44 45 43).2.2.2.2.2.2 := a3.trans (p3.trans b3.symm)
  refine ⟨t1, fun s hs2 => ?_, fun s hs2 => ?_⟩
  · have z1 := a5 s hs2
    have z2 := b5 s (by rw [t1] at hs2; exact hs2)
    exact z1.trans ((congrFun p2 s).trans z2.symm)
  · exact (a4 s hs2).trans ((congrFun p1 s).trans (b4 s hs2).symm)
theorem cz_rn_le {n : Nat} {o x y z : Nat → Int32} (hiw : ∀ i, i < n → cz_iw o x y z i) : ∀ (m at_ j : Nat) (hd l sd sl : Nat → Int32) (t : Nat), (mz_rnI n (cz_c o x y z) 0 m at_ j hd l sd sl t).2.2.2.2.2.2 ≤ t + m
  | 0, at_, j, hd, l, sd, sl, t => Nat.le_refl _
  | m + 1, at_, j, hd, l, sd, sl, t => by
    unfold mz_rnI
    by_cases q : n ≤ at_
    · rw [if_pos q]; exact Nat.le_add_right _ _
    · rw [if_neg q]
      have h3 := cz_d1_t (hiw at_ (by omega)) (hd := hd) (l := l) (sd := sd) (sl := sl) (t := t)
      unfold cz_d1 at h3
      have h4 := cz_rn_le hiw m (mz_di1 (cz_c o x y z) 0 at_ hd l sd sl t).2.2.2.2.2 (j + 1) (mz_di1 (cz_c o x y z) 0 at_ hd l sd sl t).1 (mz_di1 (cz_c o x y z) 0 at_ hd l sd sl t).2.1 (mz_di1 (cz_c o x y z) 0 at_ hd l sd sl t).2.2.1 (mz_di1 (cz_c o x y z) 0 at_ hd l sd sl t).2.2.2.1 (mz_di1 (cz_c o x y z) 0 at_ hd l sd sl t).2.2.2.2.1
      omega
theorem cz_rn_t {n : Nat} {o x y z : Nat → Int32} (hiw : ∀ i, i < n → cz_iw o x y z i) (m at_ j : Nat) (hd l sd sl : Nat → Int32) (t : Nat) (h : t + m < 4000 := by omega) : (mz_rnI n (cz_c o x y z) 0 m at_ j hd l sd sl t).2.2.2.2.2.2 < 4000 := Nat.lt_of_le_of_lt (cz_rn_le hiw m at_ j hd l sd sl t) h
/-- what the trials may change -/
def cz_f4 (I A I' A' : Nat → Nat → Int32) : Prop := (∀ a j, ¬ a = 41 → ¬ a = 46 → I' a j = I a j) ∧ ∀ k, k < 41 ∨ 50 < k → A' k = A k
theorem cz_f4_A {I A I' A' : Nat → Nat → Int32} {b : Nat} {g : Nat → Int32} (h : cz_f4 I A I' A') (hb : 41 ≤ b ∧ b ≤ 50) : cz_f4 I A I' (upA A' b g) := ⟨h.1, fun k hk => by rw [upA_n (show k ≠ b by omega)]; exact h.2 k hk⟩
theorem cz_f4_I {I A I' A' : Nat → Nat → Int32} {b j : Nat} {v : Int32} (h : cz_f4 I A I' A') (hb : b = 41 ∨ b = 46) : cz_f4 I A (upI I' b j v) A' := ⟨fun a i h1 h2 => by rw [upI_n (by omega)]; exact h.1 a i h1 h2, h.2⟩
theorem cz_f4_r {I A : Nat → Nat → Int32} : cz_f4 I A I A := ⟨fun _ _ _ _ => rfl, fun _ _ => rfl⟩
set_option maxRecDepth 100000 in
set_option maxHeartbeats 4000000 in
theorem ce_check {G : am_G} (I A : Nat → Nat → Int32) (hst : am_sta G) (nv ns : Nat) (hK : cz_K nv ns I A) (rd : Nat) (hrd : I 0 11 = nI rd) (hr4 : rd ≤ 4) (hL : cz_L rd nv ns I A) : Cm G MX7_check 6 144 [.ref 0] I A (fun r I' A' => r = some (.int (nI 1)) ∧ ∃ I1 A1, cz_Wk rd 3 nv ns I A I1 A1 ∧ cz_f4 I1 A1 I' A') := by
  refine Cm.of (by decide) (Nat.le_of_ble_eq_true rfl) rfl ?_
  show V G MX7_check (am_R 6 144 0 0) _ 0 0 0 [(0, .ref 0)] [] (hp I A)
  refine V.aload_n (j := 0) rfl dX7_check_0 ?_
  refine V.iconst (v := nI 3) (by decide) dX7_check_1 ?_
  refine V.cV (As := [.int (nI 3)]) (st := []) dX7_check_2 sX7_108 iX7_workOut lX7_workOut rfl rfl (cd_work I A hst nv ns hK rd 3 hrd hr4 (by omega) hL) ⟨by decide, by decide⟩ (Nat.le_of_ble_eq_true rfl) rfl (fun r I' A' hq => ?_)
  obtain ⟨rfl, hwk⟩ := hq
  refine V.st (st' := []) rfl ?_
  have hwk : cz_Wk rd 3 nv ns I A I' A' := hwk
  obtain ⟨hn2, hs2, hnv, hns, hsw2, -⟩ := id hwk.2.2.2.1
  have hF1 := hwk.2.2.2.2.1 (by omega)
  have hF2 := hwk.2.2.2.2.2.1 (by omega)
  have hF3 := hwk.2.2.2.2.2.2.1 (by omega)
  obtain ⟨n, hn240, en, hi2, -⟩ := id hF3
  have hiw : ∀ i, i < n → cz_iw (A' 26) (A' 27) (A' 28) (A' 29) i := fun i hi => cz_iw_of (hi2 i hi) (by unfold cz_v; rw [Nat.zero_add, cz_c_0]) (by unfold cz_v; rw [Nat.zero_add, cz_c_1]) (by unfold cz_v; rw [Nat.zero_add, cz_c_2]) (by unfold cz_v; rw [Nat.zero_add, cz_c_3])
  have hiw0 : ∀ i, i < ns → cz_iw (A' 5) (A' 6) (A' 7) (A' 8) i := fun i hi => (cz_iw_sw hnv (hsw2 i hi)).1
  have hi10 : ∀ i, i < ns → ∀ k, A' 5 i = nI k → k ≤ 12 → k ≤ 10 := fun i hi => (cz_iw_sw hnv (hsw2 i hi)).2
  refine V.aload_n (j := 0) rfl dX7_check_5 ?_
  refine V.getr (q := 15) dX7_check_6 fX7_26 rfl rfl ?_
  refine V.aload_n (j := 0) rfl dX7_check_9 ?_
  refine V.getr (q := 1) dX7_check_10 fX7_12 rfl rfl ?_
  refine V.geti (v := nI nv) dX7_check_13 fX7_81 rfl rfl hn2 ?_
  refine V.aload_n (j := 0) rfl dX7_check_16 ?_
  refine V.getr (q := 12) dX7_check_17 fX7_19 rfl rfl ?_
  refine V.getr (q := 14) dX7_check_20 fX7_117 rfl rfl ?_
  refine V.cV (As := [.int (nI nv), .ref 14]) (st := []) dX7_check_23 sX7_164 iX2_clash lX2_clash rfl rfl (cd_clash I' A' nv hnv (cz_apart hwk.2.2.2.1 hF1 hF2)) ⟨by decide, by decide⟩ (Nat.le_of_ble_eq_true rfl) rfl (fun r I' A' hq => ?_)
  obtain ⟨rfl, rfl, rfl⟩ := hq
  refine V.st (st' := [.int (nI 0)]) rfl ?_
  refine V.if_eq (tgt := 31) dX7_check_26 (by decide) (fun _ => ?_) (fun z => absurd z (by decide))
  refine V.aload_n (j := 0) rfl dX7_check_31 ?_
  refine V.getr (q := 41) dX7_check_32 fX7_67 rfl rfl ?_
  refine V.sipush (v := nI 300) (by decide) dX7_check_35 ?_
  refine V.aload_n (j := 0) rfl dX7_check_38 ?_
  refine V.getr (q := 1) dX7_check_39 fX7_12 rfl rfl ?_
  refine V.getr (q := 4) dX7_check_42 fX7_88 rfl rfl ?_
  refine V.aload_n (j := 0) rfl dX7_check_45 ?_
  refine V.getr (q := 35) dX7_check_46 fX7_56 rfl rfl ?_
  refine V.cV (As := [.int (nI 300), .ref 4, .ref 35]) (st := []) dX7_check_49 sX7_144 iX4_endsWithin lX4_endsWithin rfl rfl (cd_ends41_4 I' A' ns hs2 (by omega) hiw0 hi10 300 (by omega)) ⟨by decide, by decide⟩ (Nat.le_of_ble_eq_true rfl) rfl (fun r I' A' hq => ?_)
  obtain ⟨rfl, rfl, s1, rfl⟩ := hq
  by_cases b2 : ns ≤ (cz_rn ns (cz_c (A' 5) (A' 6) (A' 7) (A' 8)) 300 A' 42 44 45 43).1
  · refine V.st (st' := [.int (nI 1)]) (by rw [bI_t b2]; rfl) ?_
    refine V.if_eq (tgt := 80) dX7_check_52 (by decide) (fun z => absurd z (by decide)) (fun _ => ?_)
    refine V.aload_n (j := 0) rfl dX7_check_55 ?_
    refine V.getr (q := 46) dX7_check_56 fX7_70 rfl rfl ?_
    refine V.sipush (v := nI 300) (by decide) dX7_check_59 ?_
    refine V.aload_n (j := 0) rfl dX7_check_62 ?_
    refine V.getr (q := 25) dX7_check_63 fX7_49 rfl rfl ?_
    refine V.aload_n (j := 0) rfl dX7_check_66 ?_
    refine V.getr (q := 35) dX7_check_67 fX7_56 rfl rfl ?_
    refine V.cV (As := [.int (nI 300), .ref 25, .ref 35]) (st := []) dX7_check_70 sX7_144 iX4_endsWithin lX4_endsWithin rfl rfl (cd_ends46_25 (upI (upI I' 41 5 (nI ((cz_rn ns (cz_c (A' 5) (A' 6) (A' 7) (A' 8)) 300 A' 42 44 45 43).2.1))) 41 4 (nI ((cz_rn ns (cz_c (A' 5) (A' 6) (A' 7) (A' 8)) 300 A' 42 44 45 43).2.2.2.2.2.2))) (upA (upA (upA (upA A' 42 ((cz_rn ns (cz_c (A' 5) (A' 6) (A' 7) (A' 8)) 300 A' 42 44 45 43).2.2.1)) 44 ((cz_rn ns (cz_c (A' 5) (A' 6) (A' 7) (A' 8)) 300 A' 42 44 45 43).2.2.2.1)) 45 ((cz_rn ns (cz_c (A' 5) (A' 6) (A' 7) (A' 8)) 300 A' 42 44 45 43).2.2.2.2.1)) 43 (s1)) n en (by omega) hiw 300 (by omega)) ⟨by decide, by decide⟩ (Nat.le_of_ble_eq_true rfl) rfl (fun r I' A' hq => ?_)
    obtain ⟨rfl, rfl, s2, rfl⟩ := hq
    by_cases b4 : n ≤ (cz_rn n (cz_c (A' 26) (A' 27) (A' 28) (A' 29)) 300 A' 47 49 50 48).1
    · refine V.st (st' := [.int (nI 1)]) (show (Value.int (bI (n ≤ (cz_rn n (cz_c (A' 26) (A' 27) (A' 28) (A' 29)) 300 A' 47 49 50 48).1)) :: []) = _ by rw [bI_t b4]; rfl) ?_
      have hck := cz_chk hwk.2.2.2.1 hF1 hF2 hF3 en hn240 b2 b4
      have hlt : (cz_rn ns (cz_c (A' 5) (A' 6) (A' 7) (A' 8)) 300 A' 42 44 45 43).2.2.2.2.2.2 < 4000 := cz_rn_t (n := ns) (fun i hi => hiw0 i hi) 300 0 0 _ _ _ _ 0
      refine V.if_eq (tgt := 80) dX7_check_73 (by decide) (fun z => absurd z (by decide)) (fun _ => ?_)
      refine V.iconst (v := nI 1) (by decide) dX7_check_76 ?_
      refine V.goto (tgt := 81) dX7_check_77 (by decide) ?_
      refine V.istore_n (ls' := [(0, .ref 0), (1, .int (nI 1))]) dX7_check_81 (by decide) rfl ?_
      refine V.iload_n (j := 1) rfl dX7_check_82 ?_
      refine V.if_eq (tgt := 100) dX7_check_83 (by decide) (fun z => absurd z (by decide)) (fun _ => ?_)
      refine V.aload_n (j := 0) rfl dX7_check_86 ?_
      refine V.getr (q := 46) dX7_check_87 fX7_70 rfl rfl ?_
      refine V.aload_n (j := 0) rfl dX7_check_90 ?_
      refine V.getr (q := 41) dX7_check_91 fX7_67 rfl rfl ?_
      refine V.cV (As := [.ref 41]) (st := []) dX7_check_94 sX7_168 iX4_agreesWith lX4_agreesWith rfl rfl (cd_agrees (upI (upI (upI (upI I' 41 5 (nI ((cz_rn ns (cz_c (A' 5) (A' 6) (A' 7) (A' 8)) 300 A' 42 44 45 43).2.1))) 41 4 (nI ((cz_rn ns (cz_c (A' 5) (A' 6) (A' 7) (A' 8)) 300 A' 42 44 45 43).2.2.2.2.2.2))) 46 5 (nI ((cz_rn n (cz_c (A' 26) (A' 27) (A' 28) (A' 29)) 300 A' 47 49 50 48).2.1))) 46 4 (nI ((cz_rn n (cz_c (A' 26) (A' 27) (A' 28) (A' 29)) 300 A' 47 49 50 48).2.2.2.2.2.2))) (upA (upA (upA (upA (upA (upA (upA (upA A' 42 ((cz_rn ns (cz_c (A' 5) (A' 6) (A' 7) (A' 8)) 300 A' 42 44 45 43).2.2.1)) 44 ((cz_rn ns (cz_c (A' 5) (A' 6) (A' 7) (A' 8)) 300 A' 42 44 45 43).2.2.2.1)) 45 ((cz_rn ns (cz_c (A' 5) (A' 6) (A' 7) (A' 8)) 300 A' 42 44 45 43).2.2.2.2.1)) 43 (s1)) 47 ((cz_rn n (cz_c (A' 26) (A' 27) (A' 28) (A' 29)) 300 A' 47 49 50 48).2.2.1)) 49 ((cz_rn n (cz_c (A' 26) (A' 27) (A' 28) (A' 29)) 300 A' 47 49 50 48).2.2.2.1)) 50 ((cz_rn n (cz_c (A' 26) (A' 27) (A' 28) (A' 29)) 300 A' 47 49 50 48).2.2.2.2.1)) 48 (s2)) (cz_rn ns (cz_c (A' 5) (A' 6) (A' 7) (A' 8)) 300 A' 42 44 45 43).2.2.2.2.2.2 (show nI (cz_rn n (cz_c (A' 26) (A' 27) (A' 28) (A' 29)) 300 A' 47 49 50 48).2.2.2.2.2.2 = nI (cz_rn ns (cz_c (A' 5) (A' 6) (A' 7) (A' 8)) 300 A' 42 44 45 43).2.2.2.2.2.2 by rw [hck.1]) hlt rfl (fun k hk => hck.2.1 k (by rw [hck.1]; exact hk)) (fun k hk => hck.2.2 k hk)) ⟨by decide, by decide⟩ (Nat.le_of_ble_eq_true rfl) rfl (fun r I' A' hq => ?_)
      obtain ⟨rfl, rfl, rfl⟩ := hq
      refine V.st (st' := [.int (nI 1)]) rfl ?_
      refine V.if_eq (tgt := 104) dX7_check_97 (by decide) (fun z => absurd z (by decide)) (fun _ => ?_)
      refine V.iconst (v := nI 1) (by decide) dX7_check_100 ?_
      refine V.goto (tgt := 105) dX7_check_101 (by decide) ?_
      refine V.ri dX7_check_105 rfl ?_
      exact ⟨rfl, I', A', hwk, (cz_f4_A (cz_f4_A (cz_f4_A (cz_f4_A (cz_f4_A (cz_f4_A (cz_f4_A (cz_f4_A (cz_f4_I (cz_f4_I (cz_f4_I (cz_f4_I cz_f4_r (by omega)) (by omega)) (by omega)) (by omega)) (by omega)) (by omega)) (by omega)) (by omega)) (by omega)) (by omega)) (by omega)) (by omega))⟩
    · refine V.st (st' := [.int (nI 0)]) (show (Value.int (bI (n ≤ (cz_rn n (cz_c (A' 26) (A' 27) (A' 28) (A' 29)) 300 A' 47 49 50 48).1)) :: []) = _ by rw [bI_f b4]; rfl) ?_
      refine V.if_eq (tgt := 80) dX7_check_73 (by decide) (fun _ => ?_) (fun z => absurd z (by decide))
      refine V.iconst (v := nI 0) (by decide) dX7_check_80 ?_
      refine V.istore_n (ls' := [(0, .ref 0), (1, .int (nI 0))]) dX7_check_81 (by decide) rfl ?_
      refine V.iload_n (j := 1) rfl dX7_check_82 ?_
      refine V.if_eq (tgt := 100) dX7_check_83 (by decide) (fun _ => ?_) (fun z => absurd z (by decide))
      refine V.iconst (v := nI 1) (by decide) dX7_check_100 ?_
      refine V.goto (tgt := 105) dX7_check_101 (by decide) ?_
      refine V.ri dX7_check_105 rfl ?_
      exact ⟨rfl, I', A', hwk, (cz_f4_A (cz_f4_A (cz_f4_A (cz_f4_A (cz_f4_A (cz_f4_A (cz_f4_A (cz_f4_A (cz_f4_I (cz_f4_I (cz_f4_I (cz_f4_I cz_f4_r (by omega)) (by omega)) (by omega)) (by omega)) (by omega)) (by omega)) (by omega)) (by omega)) (by omega)) (by omega)) (by omega)) (by omega))⟩
  · refine V.st (st' := [.int (nI 0)]) (by rw [bI_f b2]; rfl) ?_
    refine V.if_eq (tgt := 80) dX7_check_52 (by decide) (fun _ => ?_) (fun z => absurd z (by decide))
    refine V.iconst (v := nI 0) (by decide) dX7_check_80 ?_
    refine V.istore_n (ls' := [(0, .ref 0), (1, .int (nI 0))]) dX7_check_81 (by decide) rfl ?_
    refine V.iload_n (j := 1) rfl dX7_check_82 ?_
    refine V.if_eq (tgt := 100) dX7_check_83 (by decide) (fun _ => ?_) (fun z => absurd z (by decide))
    refine V.iconst (v := nI 1) (by decide) dX7_check_100 ?_
    refine V.goto (tgt := 105) dX7_check_101 (by decide) ?_
    refine V.ri dX7_check_105 rfl ?_
    exact ⟨rfl, I', A', hwk, (cz_f4_A (cz_f4_A (cz_f4_A (cz_f4_A (cz_f4_I (cz_f4_I cz_f4_r (by omega)) (by omega)) (by omega)) (by omega)) (by omega)) (by omega))⟩
