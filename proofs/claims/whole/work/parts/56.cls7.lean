/-- the code's rows as one row of items, and back -/
def cz_c (o x y z : Nat → Int32) : Nat → Int32 := fun j => if j % 4 = 0 then o (j / 4) else if j % 4 = 1 then x (j / 4) else if j % 4 = 2 then y (j / 4) else z (j / 4)
def cz_v (A : Nat → Nat → Int32) : Nat → Int32 := cz_c (A 26) (A 27) (A 28) (A 29)
def cz_CC (A : Nat → Nat → Int32) (c : Nat → Int32) : Nat → Nat → Int32 := upA (upA (upA (upA A 26 (fun i => c (4 * i))) 27 (fun i => c (4 * i + 1))) 28 (fun i => c (4 * i + 2))) 29 (fun i => c (4 * i + 3))
theorem cz_c_0 {o x y z : Nat → Int32} (i : Nat) : cz_c o x y z (4 * i) = o i := by unfold cz_c; rw [if_pos (by omega), show 4 * i / 4 = i by omega]
theorem cz_c_1 {o x y z : Nat → Int32} (i : Nat) : cz_c o x y z (4 * i + 1) = x i := by unfold cz_c; rw [if_neg (by omega), if_pos (by omega), show (4 * i + 1) / 4 = i by omega]
theorem cz_c_2 {o x y z : Nat → Int32} (i : Nat) : cz_c o x y z (4 * i + 2) = y i := by unfold cz_c; rw [if_neg (by omega), if_neg (by omega), if_pos (by omega), show (4 * i + 2) / 4 = i by omega]
theorem cz_c_3 {o x y z : Nat → Int32} (i : Nat) : cz_c o x y z (4 * i + 3) = z i := by unfold cz_c; rw [if_neg (by omega), if_neg (by omega), if_neg (by omega), show (4 * i + 3) / 4 = i by omega]
theorem cz_c_i (c : Nat → Int32) : cz_c (fun i => c (4 * i)) (fun i => c (4 * i + 1)) (fun i => c (4 * i + 2)) (fun i => c (4 * i + 3)) = c := by
  funext j
  unfold cz_c
  by_cases h0 : j % 4 = 0
  · rw [if_pos h0]; exact congrArg c (by omega)
  · by_cases h1 : j % 4 = 1
    · rw [if_neg h0, if_pos h1]; exact congrArg c (by omega)
    · by_cases h2 : j % 4 = 2
      · rw [if_neg h0, if_neg h1, if_pos h2]; exact congrArg c (by omega)
      · rw [if_neg h0, if_neg h1, if_neg h2]; exact congrArg c (by omega)
theorem cz_vCC {A : Nat → Nat → Int32} {c : Nat → Int32} : cz_v (cz_CC A c) = c := cz_c_i c
theorem cz_CCv {A : Nat → Nat → Int32} : cz_CC A (cz_v A) = A := by
  unfold cz_CC cz_v
  simp only [cz_c_0, cz_c_1, cz_c_2, cz_c_3]
  rw [show (fun i => A 26 i) = A 26 from rfl, show (fun i => A 27 i) = A 27 from rfl, show (fun i => A 28 i) = A 28 from rfl, show (fun i => A 29 i) = A 29 from rfl, upA_i, upA_i, upA_i, upA_i]
theorem cz_CCCC {A : Nat → Nat → Int32} {c c' : Nat → Int32} : cz_CC (cz_CC A c) c' = cz_CC A c' := by
  unfold cz_CC
  rw [upA_r4 (a := 26) (b := 27) (c := 28) (d := 29) (by decide) (by decide) (by decide), upA_r3 (a := 27) (b := 28) (c := 29) (by decide) (by decide), upA_r2 (a := 28) (b := 29) (by decide), upA_u]
theorem cz_lay_c {o x y z : Nat → Int32} {n : Nat} {p a b c : Int32} : cz_c (upd o n p) (upd x n a) (upd y n b) (upd z n c) = mz_lay (cz_c o x y z) n p a b c := by
  funext j
  unfold mz_lay upd cz_c
  by_cases h0 : j % 4 = 0
  · simp only [if_pos h0]
    by_cases q : j / 4 = n
    · rw [if_pos q, if_neg (by omega), if_neg (by omega), if_neg (by omega), if_pos (by omega)]
    · rw [if_neg q, if_neg (by omega), if_neg (by omega), if_neg (by omega), if_neg (by omega)]
  · by_cases h1 : j % 4 = 1
    · simp only [if_neg h0, if_pos h1]
      by_cases q : j / 4 = n
      · rw [if_pos q, if_neg (by omega), if_neg (by omega), if_pos (by omega)]
      · rw [if_neg q, if_neg (by omega), if_neg (by omega), if_neg (by omega), if_neg (by omega)]
    · by_cases h2 : j % 4 = 2
      · simp only [if_neg h0, if_neg h1, if_pos h2]
        by_cases q : j / 4 = n
        · rw [if_pos q, if_neg (by omega), if_pos (by omega)]
        · rw [if_neg q, if_neg (by omega), if_neg (by omega), if_neg (by omega), if_neg (by omega)]
      · simp only [if_neg h0, if_neg h1, if_neg h2]
        by_cases q : j / 4 = n
        · rw [if_pos q, if_pos (by omega)]
        · rw [if_neg q, if_neg (by omega), if_neg (by omega), if_neg (by omega), if_neg (by omega)]
theorem cz_CC_rows {A : Nat → Nat → Int32} {o x y z : Nat → Int32} : upA (upA (upA (upA A 26 o) 27 x) 28 y) 29 z = cz_CC A (cz_c o x y z) := by
  unfold cz_CC
  simp only [cz_c_0, cz_c_1, cz_c_2, cz_c_3]
theorem cd_addC {G : am_G} (I A : Nat → Nat → Int32) (n : Nat) (hn : I 25 4 = nI n) (hN : n < 240) (op x y z : Int32) : Cm G MX3_add 0 0 [.ref 25, .int op, .int x, .int y, .int z] I A (fun r I' A' => r = none ∧ upI I 25 4 (nI (n + 1)) = I' ∧ cz_CC A (mz_lay (cz_v A) n op x y z) = A') := by
  have h := cd_add25 (G := G) I A n hn hN op x y z
  rw [cz_CC_rows, cz_lay_c] at h
  exact h
def cz_R (cl hm : Nat → Int32) (v : Int32) (w : Nat) : Int32 := if v = (-1) then (-1) else mz_reg (cl v.toNatClampNeg) (if hm v.toNatClampNeg < nI 100 then hm v.toNatClampNeg else nI w)
theorem cz_R_m {cl hm : Nat → Int32} {w : Nat} : cz_R cl hm (-1) w = (-1) := if_pos rfl
theorem cz_R_n {cl hm : Nat → Int32} {w v : Nat} (hv : v < 2 ^ 31) : cz_R cl hm (nI v) w = mz_reg (cl v) (if hm v < nI 100 then hm v else nI w) := by
  unfold cz_R
  rw [if_neg (nI_nm1 hv), nI_clamp hv]
abbrev cz_CN : Type := (Nat → Int32) × Nat
def cz_br (cl hm : Nat → Int32) (v : Int32) (w : Nat) (C : cz_CN) : cz_CN := if v = (-1) then C else if hm v.toNatClampNeg < nI 100 then C else (mz_lay C.1 C.2 (nI 11) (mz_reg (cl v.toNatClampNeg) (nI w)) (hm v.toNatClampNeg - nI 100) (nI 0), C.2 + 1)
theorem cz_br_m {cl hm : Nat → Int32} {w : Nat} {C : cz_CN} : cz_br cl hm (-1) w C = C := if_pos rfl
theorem cz_br_r {cl hm : Nat → Int32} {w v : Nat} {C : cz_CN} (hv : v < 2 ^ 31) (h : hm v < nI 100) : cz_br cl hm (nI v) w C = C := by
  unfold cz_br
  rw [if_neg (nI_nm1 hv), nI_clamp hv, if_pos h]
theorem cz_br_s {cl hm : Nat → Int32} {w v : Nat} {C : cz_CN} (hv : v < 2 ^ 31) (h : ¬ hm v < nI 100) : cz_br cl hm (nI v) w C = (mz_lay C.1 C.2 (nI 11) (mz_reg (cl v) (nI w)) (hm v - nI 100) (nI 0), C.2 + 1) := by
  unfold cz_br
  rw [if_neg (nI_nm1 hv), nI_clamp hv, if_neg h]
theorem cz_br_le {cl hm : Nat → Int32} {v : Int32} {w : Nat} {C : cz_CN} : (cz_br cl hm v w C).2 ≤ C.2 + 1 := by
  unfold cz_br
  split
  · omega
  · split
    · omega
    · exact Nat.le_refl _
set_option maxRecDepth 100000 in
set_option maxHeartbeats 4000000 in
theorem cd_regOf {G : am_G} (I A : Nat → Nat → Int32) (v : Nat) (hv : v < 24) (w : Nat) : Cm G MX0_registerOf 1 21 [.ref 1, .ref 15, .int (nI v), .int (nI w)] I A (fun r I' A' => r = some (.int (cz_R (A 2) (A 20) (nI v) w)) ∧ I = I' ∧ A = A') := by
  refine Cm.of (by decide) (Nat.le_of_ble_eq_true rfl) rfl ?_
  show V G MX0_registerOf (am_R 1 21 0 0) _ 0 0 0 [(0, .ref 1), (1, .ref 15), (2, .int (nI v)), (3, .int (nI w))] [] (hp I A)
  refine V.aload_n (j := 1) rfl dX0_registerOf_0 ?_
  refine V.iload_n (j := 2) rfl dX0_registerOf_1 ?_
  refine V.cV (As := [.int (nI v)]) (st := []) dX0_registerOf_2 sX0_89 iX2_inSlot lX2_inSlot rfl rfl (cd_inSlot I A v (by omega)) ⟨by decide, by decide⟩ (Nat.le_of_ble_eq_true rfl) rfl (fun r I' A' hq => ?_)
  obtain ⟨rfl, rfl, rfl⟩ := hq
  by_cases b1 : ¬ A 20 v < nI 100
  · refine V.st (st' := [.int (nI 1)]) (by rw [bI_t b1]; rfl) ?_
    refine V.if_eq (tgt := 12) dX0_registerOf_5 (by decide) (fun z => absurd z (by decide)) (fun _ => ?_)
    refine V.iload_n (j := 3) rfl dX0_registerOf_8 ?_
    refine V.goto (tgt := 18) dX0_registerOf_9 (by decide) ?_
    refine V.istore (ls' := [(0, .ref 1), (1, .ref 15), (2, .int (nI v)), (3, .int (nI w)), (4, .int (nI w))]) dX0_registerOf_18 (by decide) rfl ?_
    refine V.bipush (v := nI 16) (by decide) dX0_registerOf_20 ?_
    refine V.aload_n (j := 0) rfl dX0_registerOf_22 ?_
    refine V.getr (q := 2) dX0_registerOf_23 fX0_57 rfl rfl ?_
    refine V.iload_n (j := 2) rfl dX0_registerOf_26 ?_
    refine V.lda (v := A 2 v) dX0_registerOf_27 rfl (by omega) (by decide) rfl ?_
    refine V.imul dX0_registerOf_28 ?_
    refine V.iload (j := 4) rfl dX0_registerOf_29 ?_
    refine V.iadd dX0_registerOf_31 ?_
    refine V.ri dX0_registerOf_32 rfl ?_
    exact ⟨by rw [cz_R_n (by omega), if_neg b1]; rfl, rfl, rfl⟩
  · refine V.st (st' := [.int (nI 0)]) (by rw [bI_f b1]; rfl) ?_
    refine V.if_eq (tgt := 12) dX0_registerOf_5 (by decide) (fun _ => ?_) (fun z => absurd z (by decide))
    refine V.aload_n (j := 1) rfl dX0_registerOf_12 ?_
    refine V.getr (q := 20) dX0_registerOf_13 fX0_52 rfl rfl ?_
    refine V.iload_n (j := 2) rfl dX0_registerOf_16 ?_
    refine V.lda (v := A 20 v) dX0_registerOf_17 rfl (by omega) (by decide) rfl ?_
    refine V.istore (ls' := [(0, .ref 1), (1, .ref 15), (2, .int (nI v)), (3, .int (nI w)), (4, .int (A 20 v))]) dX0_registerOf_18 (by decide) rfl ?_
    refine V.bipush (v := nI 16) (by decide) dX0_registerOf_20 ?_
    refine V.aload_n (j := 0) rfl dX0_registerOf_22 ?_
    refine V.getr (q := 2) dX0_registerOf_23 fX0_57 rfl rfl ?_
    refine V.iload_n (j := 2) rfl dX0_registerOf_26 ?_
    refine V.lda (v := A 2 v) dX0_registerOf_27 rfl (by omega) (by decide) rfl ?_
    refine V.imul dX0_registerOf_28 ?_
    refine V.iload (j := 4) rfl dX0_registerOf_29 ?_
    refine V.iadd dX0_registerOf_31 ?_
    refine V.ri dX0_registerOf_32 rfl ?_
    exact ⟨by rw [cz_R_n (by omega), if_pos (Classical.not_not.mp b1)]; rfl, rfl, rfl⟩
set_option maxRecDepth 100000 in
set_option maxHeartbeats 4000000 in
theorem cd_bringN {G : am_G} (I A : Nat → Nat → Int32) (n : Nat) (hn : I 25 4 = nI n) (hN : n < 240) (w : Nat) : Cm G MX0_bring 2 45 [.ref 1, .ref 15, .ref 25, .int ((-1)), .int (nI w)] I A (fun r I' A' => r = some (.int (cz_R (A 2) (A 20) (-1) w)) ∧ upI I 25 4 (nI (cz_br (A 2) (A 20) (-1) w (cz_v A, n)).2) = I' ∧ cz_CC A (cz_br (A 2) (A 20) (-1) w (cz_v A, n)).1 = A') := by
  refine Cm.of (by decide) (Nat.le_of_ble_eq_true rfl) rfl ?_
  show V G MX0_bring (am_R 2 45 0 0) _ 0 0 0 [(0, .ref 1), (1, .ref 15), (2, .ref 25), (3, .int ((-1))), (4, .int (nI w))] [] (hp I A)
  refine V.iload_n (j := 3) rfl dX0_bring_0 ?_
  refine V.iconst (v := (-1)) (by decide) dX0_bring_1 ?_
  refine V.icmp_ne (tgt := 7) dX0_bring_2 (by decide) (fun z => absurd rfl z) (fun _ => ?_)
  refine V.iconst (v := (-1)) (by decide) dX0_bring_5 ?_
  refine V.ri dX0_bring_6 rfl ?_
  exact ⟨by rw [cz_R_m], by rw [cz_br_m]; show upI I 25 4 (nI n) = I; rw [← hn, upI_i], by rw [cz_br_m]; exact cz_CCv⟩
set_option maxRecDepth 100000 in
set_option maxHeartbeats 4000000 in
theorem cd_bringV {G : am_G} (I A : Nat → Nat → Int32) (n : Nat) (hn : I 25 4 = nI n) (hN : n < 240) (v : Nat) (hv : v < 24) (w : Nat) : Cm G MX0_bring 2 45 [.ref 1, .ref 15, .ref 25, .int (nI v), .int (nI w)] I A (fun r I' A' => r = some (.int (cz_R (A 2) (A 20) (nI v) w)) ∧ upI I 25 4 (nI (cz_br (A 2) (A 20) (nI v) w (cz_v A, n)).2) = I' ∧ cz_CC A (cz_br (A 2) (A 20) (nI v) w (cz_v A, n)).1 = A') := by
  refine Cm.of (by decide) (Nat.le_of_ble_eq_true rfl) rfl ?_
  show V G MX0_bring (am_R 2 45 0 0) _ 0 0 0 [(0, .ref 1), (1, .ref 15), (2, .ref 25), (3, .int (nI v)), (4, .int (nI w))] [] (hp I A)
  refine V.iload_n (j := 3) rfl dX0_bring_0 ?_
  refine V.iconst (v := (-1)) (by decide) dX0_bring_1 ?_
  refine V.icmp_ne (tgt := 7) dX0_bring_2 (by decide) (fun _ => ?_) (fun z => absurd z (nI_nm1 (by omega)))
  refine V.aload_n (j := 0) rfl dX0_bring_7 ?_
  refine V.aload_n (j := 1) rfl dX0_bring_8 ?_
  refine V.iload_n (j := 3) rfl dX0_bring_9 ?_
  refine V.iload (j := 4) rfl dX0_bring_10 ?_
  refine V.cS (As := [.ref 1, .ref 15, .int (nI v), .int (nI w)]) (st := []) dX0_bring_12 sX0_81 zX0_registerOf (cd_regOf I A v (by omega) _) ⟨by decide, by decide⟩ (Nat.le_of_ble_eq_true rfl) rfl (fun r I' A' hq => ?_)
  obtain ⟨rfl, rfl, rfl⟩ := hq
  refine V.st (st' := [.int (cz_R (A 2) (A 20) (nI v) w)]) rfl ?_
  refine V.istore (ls' := [(0, .ref 1), (1, .ref 15), (2, .ref 25), (3, .int (nI v)), (4, .int (nI w)), (5, .int (cz_R (A 2) (A 20) (nI v) w))]) dX0_bring_15 (by decide) rfl ?_
  refine V.aload_n (j := 1) rfl dX0_bring_17 ?_
  refine V.iload_n (j := 3) rfl dX0_bring_18 ?_
  refine V.cV (As := [.int (nI v)]) (st := []) dX0_bring_19 sX0_89 iX2_inSlot lX2_inSlot rfl rfl (cd_inSlot I A v (by omega)) ⟨by decide, by decide⟩ (Nat.le_of_ble_eq_true rfl) rfl (fun r I' A' hq => ?_)
  obtain ⟨rfl, rfl, rfl⟩ := hq
  by_cases b2 : ¬ A 20 v < nI 100
  · refine V.st (st' := [.int (nI 1)]) (by rw [bI_t b2]; rfl) ?_
    refine V.if_eq (tgt := 43) dX0_bring_22 (by decide) (fun z => absurd z (by decide)) (fun _ => ?_)
    refine V.aload_n (j := 2) rfl dX0_bring_25 ?_
    refine V.bipush (v := nI 11) (by decide) dX0_bring_26 ?_
    refine V.iload (j := 5) rfl dX0_bring_28 ?_
    refine V.aload_n (j := 1) rfl dX0_bring_30 ?_
    refine V.getr (q := 20) dX0_bring_31 fX0_52 rfl rfl ?_
    refine V.iload_n (j := 3) rfl dX0_bring_34 ?_
    refine V.lda (v := A 20 v) dX0_bring_35 rfl (by omega) (by decide) rfl ?_
    refine V.bipush (v := nI 100) (by decide) dX0_bring_36 ?_
    refine V.isub dX0_bring_38 ?_
    refine V.iconst (v := nI 0) (by decide) dX0_bring_39 ?_
    refine V.cV (As := [.int (nI 11), .int (cz_R (A 2) (A 20) (nI v) w), .int ((A 20 v) - (nI 100)), .int (nI 0)]) (st := []) dX0_bring_40 sX0_93 iX3_add lX3_add rfl rfl (cd_addC I A n hn (by omega) _ _ _ _) ⟨by decide, by decide⟩ (Nat.le_of_ble_eq_true rfl) rfl (fun r I' A' hq => ?_)
    obtain ⟨rfl, rfl, rfl⟩ := hq
    refine V.st (st' := []) rfl ?_
    refine V.iload (j := 5) rfl dX0_bring_43 ?_
    refine V.ri dX0_bring_45 rfl ?_
    exact ⟨rfl, by rw [cz_br_s (by omega) b2], by rw [cz_br_s (by omega) b2, cz_R_n (by omega), if_neg b2]⟩
  · refine V.st (st' := [.int (nI 0)]) (by rw [bI_f b2]; rfl) ?_
    refine V.if_eq (tgt := 43) dX0_bring_22 (by decide) (fun _ => ?_) (fun z => absurd z (by decide))
    refine V.iload (j := 5) rfl dX0_bring_43 ?_
    refine V.ri dX0_bring_45 rfl ?_
    exact ⟨rfl, by rw [cz_br_r (by omega) (Classical.not_not.mp b2)]; show upI I 25 4 (nI n) = I; rw [← hn, upI_i], by rw [cz_br_r (by omega) (Classical.not_not.mp b2)]; exact cz_CCv⟩
set_option maxRecDepth 100000 in
set_option maxHeartbeats 4000000 in
theorem cd_holdsV {G : am_G} (I A : Nat → Nat → Int32) (f g : Nat) (hf : f < 24) (hg : g < 24) : Cm G MX0_firstHolds8 1 21 [.ref 1, .ref 15, .int (nI f), .int (nI g)] I A (fun r I' A' => r = some (.int (bI (¬ A 20 f < nI 100 ∧ A 2 f = A 2 g))) ∧ I = I' ∧ A = A') := by
  refine Cm.of (by decide) (Nat.le_of_ble_eq_true rfl) rfl ?_
  show V G MX0_firstHolds8 (am_R 1 21 0 0) _ 0 0 0 [(0, .ref 1), (1, .ref 15), (2, .int (nI f)), (3, .int (nI g))] [] (hp I A)
  refine V.iload_n (j := 3) rfl dX0_firstHolds8_0 ?_
  refine V.iconst (v := (-1)) (by decide) dX0_firstHolds8_1 ?_
  refine V.icmp_eq (tgt := 32) dX0_firstHolds8_2 (by decide) (fun z => absurd z (nI_nm1 (by omega))) (fun _ => ?_)
  refine V.aload_n (j := 1) rfl dX0_firstHolds8_5 ?_
  refine V.iload_n (j := 2) rfl dX0_firstHolds8_6 ?_
  refine V.cV (As := [.int (nI f)]) (st := []) dX0_firstHolds8_7 sX0_89 iX2_inSlot lX2_inSlot rfl rfl (cd_inSlot I A f (by omega)) ⟨by decide, by decide⟩ (Nat.le_of_ble_eq_true rfl) rfl (fun r I' A' hq => ?_)
  obtain ⟨rfl, rfl, rfl⟩ := hq
  by_cases b2 : ¬ A 20 f < nI 100
  · refine V.st (st' := [.int (nI 1)]) (by rw [bI_t b2]; rfl) ?_
    refine V.if_eq (tgt := 32) dX0_firstHolds8_10 (by decide) (fun z => absurd z (by decide)) (fun _ => ?_)
    refine V.aload_n (j := 0) rfl dX0_firstHolds8_13 ?_
    refine V.getr (q := 2) dX0_firstHolds8_14 fX0_57 rfl rfl ?_
    refine V.iload_n (j := 2) rfl dX0_firstHolds8_17 ?_
    refine V.lda (v := A 2 f) dX0_firstHolds8_18 rfl (by omega) (by decide) rfl ?_
    refine V.aload_n (j := 0) rfl dX0_firstHolds8_19 ?_
    refine V.getr (q := 2) dX0_firstHolds8_20 fX0_57 rfl rfl ?_
    refine V.iload_n (j := 3) rfl dX0_firstHolds8_23 ?_
    refine V.lda (v := A 2 g) dX0_firstHolds8_24 rfl (by omega) (by decide) rfl ?_
    refine V.icmp_ne (tgt := 32) dX0_firstHolds8_25 (by decide) (fun c4 => ?_) (fun c4 => ?_)
    · refine V.iconst (v := nI 0) (by decide) dX0_firstHolds8_32 ?_
      refine V.rz dX0_firstHolds8_33 rfl (by decide) ?_
      exact ⟨am_s0 (fun z => c4 z.2), rfl, rfl⟩
    · refine V.iconst (v := nI 1) (by decide) dX0_firstHolds8_28 ?_
      refine V.goto (tgt := 33) dX0_firstHolds8_29 (by decide) ?_
      refine V.rz dX0_firstHolds8_33 rfl (by decide) ?_
      exact ⟨am_s1 ⟨b2, c4⟩, rfl, rfl⟩
  · refine V.st (st' := [.int (nI 0)]) (by rw [bI_f b2]; rfl) ?_
    refine V.if_eq (tgt := 32) dX0_firstHolds8_10 (by decide) (fun _ => ?_) (fun z => absurd z (by decide))
    refine V.iconst (v := nI 0) (by decide) dX0_firstHolds8_32 ?_
    refine V.rz dX0_firstHolds8_33 rfl (by decide) ?_
    exact ⟨am_s0 (fun z => b2 z.1), rfl, rfl⟩
set_option maxRecDepth 100000 in
set_option maxHeartbeats 4000000 in
theorem cd_holdsN {G : am_G} (I A : Nat → Nat → Int32) (f : Int32) : Cm G MX0_firstHolds8 1 21 [.ref 1, .ref 15, .int f, .int ((-1))] I A (fun r I' A' => r = some (.int (nI 0)) ∧ I = I' ∧ A = A') := by
  refine Cm.of (by decide) (Nat.le_of_ble_eq_true rfl) rfl ?_
  show V G MX0_firstHolds8 (am_R 1 21 0 0) _ 0 0 0 [(0, .ref 1), (1, .ref 15), (2, .int f), (3, .int ((-1)))] [] (hp I A)
  refine V.iload_n (j := 3) rfl dX0_firstHolds8_0 ?_
  refine V.iconst (v := (-1)) (by decide) dX0_firstHolds8_1 ?_
  refine V.icmp_eq (tgt := 32) dX0_firstHolds8_2 (by decide) (fun _ => ?_) (fun z => absurd rfl z)
  refine V.iconst (v := nI 0) (by decide) dX0_firstHolds8_32 ?_
  refine V.rz dX0_firstHolds8_33 rfl (by decide) ?_
  exact ⟨rfl, rfl, rfl⟩
set_option maxRecDepth 100000 in
set_option maxHeartbeats 4000000 in
theorem cd_ndl1 {G : am_G} (I A : Nat → Nat → Int32) (s : Nat) (hs : s < 60) (ho : A 5 s = nI 1) (a b : Nat) (ha : a < 24) (hb : b < 24) (ea : A 6 s = nI a) (eb : A 7 s = nI b) : Cm G MX0_isNeedless 0 0 [.ref 1, .ref 15, .int (nI s)] I A (fun r I' A' => r = some (.int (bI (mz_ndl (A 5) (A 6) (A 7) (A 2) (A 20) s))) ∧ I = I' ∧ A = A') := by
  refine Cm.of (by decide) (Nat.le_of_ble_eq_true rfl) rfl ?_
  show V G MX0_isNeedless (am_R 0 0 0 0) _ 0 0 0 [(0, .ref 1), (1, .ref 15), (2, .int (nI s))] [] (hp I A)
  refine V.aload_n (j := 0) rfl dX0_isNeedless_0 ?_
  refine V.getr (q := 4) dX0_isNeedless_1 fX0_21 rfl rfl ?_
  refine V.getr (q := 6) dX0_isNeedless_4 fX0_43 rfl rfl ?_
  refine V.iload_n (j := 2) rfl dX0_isNeedless_7 ?_
  refine V.lda (v := nI a) dX0_isNeedless_8 rfl (by omega) (by decide) ea ?_
  refine V.istore_n (ls' := [(0, .ref 1), (1, .ref 15), (2, .int (nI s)), (3, .int (nI a))]) dX0_isNeedless_9 (by decide) rfl ?_
  refine V.aload_n (j := 0) rfl dX0_isNeedless_10 ?_
  refine V.getr (q := 4) dX0_isNeedless_11 fX0_21 rfl rfl ?_
  refine V.getr (q := 7) dX0_isNeedless_14 fX0_46 rfl rfl ?_
  refine V.iload_n (j := 2) rfl dX0_isNeedless_17 ?_
  refine V.lda (v := nI b) dX0_isNeedless_18 rfl (by omega) (by decide) eb ?_
  refine V.istore (ls' := [(0, .ref 1), (1, .ref 15), (2, .int (nI s)), (3, .int (nI a)), (4, .int (nI b))]) dX0_isNeedless_19 (by decide) rfl ?_
  refine V.aload_n (j := 0) rfl dX0_isNeedless_21 ?_
  refine V.getr (q := 4) dX0_isNeedless_22 fX0_21 rfl rfl ?_
  refine V.getr (q := 5) dX0_isNeedless_25 fX0_49 rfl rfl ?_
  refine V.iload_n (j := 2) rfl dX0_isNeedless_28 ?_
  refine V.lda (v := A 5 s) dX0_isNeedless_29 rfl (by omega) (by decide) rfl ?_
  refine V.iconst (v := nI 1) (by decide) dX0_isNeedless_30 ?_
  refine V.icmp_ne (tgt := 70) dX0_isNeedless_31 (by decide) (fun c1 => ?_) (fun c1 => ?_)
  · exact absurd ho c1
  · refine V.aload_n (j := 1) rfl dX0_isNeedless_34 ?_
    refine V.getr (q := 20) dX0_isNeedless_35 fX0_52 rfl rfl ?_
    refine V.iload_n (j := 3) rfl dX0_isNeedless_38 ?_
    refine V.lda (v := A 20 a) dX0_isNeedless_39 rfl (by omega) (by decide) rfl ?_
    refine V.aload_n (j := 1) rfl dX0_isNeedless_40 ?_
    refine V.getr (q := 20) dX0_isNeedless_41 fX0_52 rfl rfl ?_
    refine V.iload (j := 4) rfl dX0_isNeedless_44 ?_
    refine V.lda (v := A 20 b) dX0_isNeedless_46 rfl (by omega) (by decide) rfl ?_
    refine V.icmp_ne (tgt := 70) dX0_isNeedless_47 (by decide) (fun c2 => ?_) (fun c2 => ?_)
    · refine V.iconst (v := nI 0) (by decide) dX0_isNeedless_70 ?_
      refine V.rz dX0_isNeedless_71 rfl (by decide) ?_
      exact ⟨am_s0 (fun z => c2 (by have z2 := z.2.2; rw [ea, eb, nI_clamp (show a < 2 ^ 31 by omega), nI_clamp (show b < 2 ^ 31 by omega)] at z2; exact z2)), rfl, rfl⟩
    · refine V.aload_n (j := 0) rfl dX0_isNeedless_50 ?_
      refine V.getr (q := 2) dX0_isNeedless_51 fX0_57 rfl rfl ?_
      refine V.iload_n (j := 3) rfl dX0_isNeedless_54 ?_
      refine V.lda (v := A 2 a) dX0_isNeedless_55 rfl (by omega) (by decide) rfl ?_
      refine V.aload_n (j := 0) rfl dX0_isNeedless_56 ?_
      refine V.getr (q := 2) dX0_isNeedless_57 fX0_57 rfl rfl ?_
      refine V.iload (j := 4) rfl dX0_isNeedless_60 ?_
      refine V.lda (v := A 2 b) dX0_isNeedless_62 rfl (by omega) (by decide) rfl ?_
      refine V.icmp_ne (tgt := 70) dX0_isNeedless_63 (by decide) (fun c3 => ?_) (fun c3 => ?_)
      · refine V.iconst (v := nI 0) (by decide) dX0_isNeedless_70 ?_
        refine V.rz dX0_isNeedless_71 rfl (by decide) ?_
        exact ⟨am_s0 (fun z => c3 (by have z2 := z.2.1; rw [ea, eb, nI_clamp (show a < 2 ^ 31 by omega), nI_clamp (show b < 2 ^ 31 by omega)] at z2; exact z2)), rfl, rfl⟩
      · refine V.iconst (v := nI 1) (by decide) dX0_isNeedless_66 ?_
        refine V.goto (tgt := 71) dX0_isNeedless_67 (by decide) ?_
        refine V.rz dX0_isNeedless_71 rfl (by decide) ?_
        exact ⟨am_s1 ⟨ho, by rw [ea, eb, nI_clamp (show a < 2 ^ 31 by omega), nI_clamp (show b < 2 ^ 31 by omega)]; exact c3, by rw [ea, eb, nI_clamp (show a < 2 ^ 31 by omega), nI_clamp (show b < 2 ^ 31 by omega)]; exact c2⟩, rfl, rfl⟩
set_option maxRecDepth 100000 in
set_option maxHeartbeats 4000000 in
theorem cd_ndl0 {G : am_G} (I A : Nat → Nat → Int32) (s : Nat) (hs : s < 60) (ho : ¬ A 5 s = nI 1) : Cm G MX0_isNeedless 0 0 [.ref 1, .ref 15, .int (nI s)] I A (fun r I' A' => r = some (.int (bI (mz_ndl (A 5) (A 6) (A 7) (A 2) (A 20) s))) ∧ I = I' ∧ A = A') := by
  refine Cm.of (by decide) (Nat.le_of_ble_eq_true rfl) rfl ?_
  show V G MX0_isNeedless (am_R 0 0 0 0) _ 0 0 0 [(0, .ref 1), (1, .ref 15), (2, .int (nI s))] [] (hp I A)
  refine V.aload_n (j := 0) rfl dX0_isNeedless_0 ?_
  refine V.getr (q := 4) dX0_isNeedless_1 fX0_21 rfl rfl ?_
  refine V.getr (q := 6) dX0_isNeedless_4 fX0_43 rfl rfl ?_
  refine V.iload_n (j := 2) rfl dX0_isNeedless_7 ?_
  refine V.lda (v := A 6 s) dX0_isNeedless_8 rfl (by omega) (by decide) rfl ?_
  refine V.istore_n (ls' := [(0, .ref 1), (1, .ref 15), (2, .int (nI s)), (3, .int (A 6 s))]) dX0_isNeedless_9 (by decide) rfl ?_
  refine V.aload_n (j := 0) rfl dX0_isNeedless_10 ?_
  refine V.getr (q := 4) dX0_isNeedless_11 fX0_21 rfl rfl ?_
  refine V.getr (q := 7) dX0_isNeedless_14 fX0_46 rfl rfl ?_
  refine V.iload_n (j := 2) rfl dX0_isNeedless_17 ?_
  refine V.lda (v := A 7 s) dX0_isNeedless_18 rfl (by omega) (by decide) rfl ?_
  refine V.istore (ls' := [(0, .ref 1), (1, .ref 15), (2, .int (nI s)), (3, .int (A 6 s)), (4, .int (A 7 s))]) dX0_isNeedless_19 (by decide) rfl ?_
  refine V.aload_n (j := 0) rfl dX0_isNeedless_21 ?_
  refine V.getr (q := 4) dX0_isNeedless_22 fX0_21 rfl rfl ?_
  refine V.getr (q := 5) dX0_isNeedless_25 fX0_49 rfl rfl ?_
  refine V.iload_n (j := 2) rfl dX0_isNeedless_28 ?_
  refine V.lda (v := A 5 s) dX0_isNeedless_29 rfl (by omega) (by decide) rfl ?_
  refine V.iconst (v := nI 1) (by decide) dX0_isNeedless_30 ?_
  refine V.icmp_ne (tgt := 70) dX0_isNeedless_31 (by decide) (fun c1 => ?_) (fun c1 => ?_)
  · refine V.iconst (v := nI 0) (by decide) dX0_isNeedless_70 ?_
    refine V.rz dX0_isNeedless_71 rfl (by decide) ?_
    exact ⟨am_s0 (fun z => ho z.1), rfl, rfl⟩
  · exact absurd c1 ho
theorem cd_ndl {G : am_G} (I A : Nat → Nat → Int32) (nv : Nat) (hnv : nv ≤ 24) (s : Nat) (hs : s < 60) (hsw : mz_sw nv (A 5 s) (A 6 s) (A 7 s) (A 8 s)) : Cm G MX0_isNeedless 0 0 [.ref 1, .ref 15, .int (nI s)] I A (fun r I' A' => r = some (.int (bI (mz_ndl (A 5) (A 6) (A 7) (A 2) (A 20) s))) ∧ I = I' ∧ A = A') := by
  by_cases ho : A 5 s = nI 1
  · obtain ⟨k, hk10, ek, h3, h4, -⟩ := hsw
    have hk1 : k = 1 := (nI_eq (by omega) (by omega)).mp (ek.symm.trans ho)
    obtain ⟨a, ha, ea⟩ := h3 (by omega)
    obtain ⟨b, hb, eb⟩ := h4 (by omega)
    exact cd_ndl1 I A s hs ho a b (by omega) (by omega) ea eb
  · exact cd_ndl0 I A s hs ho
/-- the three numbers of a step's own item -/
def cz_x3 (k : Nat) (t f g a b c : Int32) : Int32 × Int32 × Int32 := match k with
  | 0 => (t, b, nI 0)
  | 1 => (t, f, nI 0)
  | 2 => (t, f, g)
  | 3 => (t, f, g)
  | 4 => (t, f, g)
  | 5 => (t, f, c)
  | 6 => (f, g, c)
  | 7 => (f, g, c)
  | 8 => (a, nI 0, nI 0)
  | 9 => (f, nI 0, nI 0)
  | _ => (nI 0, nI 0, nI 0)
set_option maxRecDepth 100000 in
set_option maxHeartbeats 4000000 in
theorem cd_maker0 {G : am_G} (I A : Nat → Nat → Int32) (s : Nat) (hs : s < 60) (ek : A 5 s = nI 0) (n : Nat) (hn : I 25 4 = nI n) (hN : n < 240) (t f g : Int32) : Cm G MX0_addMaker 1 24 [.ref 4, .ref 25, .int (nI s), .int t, .int f, .int g] I A (fun r I' A' => r = none ∧ upI I 25 4 (nI (n + 1)) = I' ∧ cz_CC A (mz_lay (cz_v A) n (nI 0) (cz_x3 0 t f g (A 6 s) (A 7 s) (A 8 s)).1 (cz_x3 0 t f g (A 6 s) (A 7 s) (A 8 s)).2.1 (cz_x3 0 t f g (A 6 s) (A 7 s) (A 8 s)).2.2) = A') := by
  refine Cm.of (by decide) (Nat.le_of_ble_eq_true rfl) rfl ?_
  show V G MX0_addMaker (am_R 1 24 0 0) _ 0 0 0 [(0, .ref 4), (1, .ref 25), (2, .int (nI s)), (3, .int t), (4, .int f), (5, .int g)] [] (hp I A)
  refine V.aload_n (j := 0) rfl dX0_addMaker_0 ?_
  refine V.getr (q := 5) dX0_addMaker_1 fX0_49 rfl rfl ?_
  refine V.iload_n (j := 2) rfl dX0_addMaker_4 ?_
  refine V.lda (v := nI 0) dX0_addMaker_5 rfl (by omega) (by decide) ek ?_
  refine V.istore (ls' := [(0, .ref 4), (1, .ref 25), (2, .int (nI s)), (3, .int t), (4, .int f), (5, .int g), (6, .int (nI 0))]) dX0_addMaker_6 (by decide) rfl ?_
  refine V.iload (j := 6) rfl dX0_addMaker_8 ?_
  refine V.lookup (tgt := 44) (off := 34) dX0_addMaker_10 (by decide) (by decide) (by decide) ?_
  refine V.aload_n (j := 1) rfl dX0_addMaker_44 ?_
  refine V.iload (j := 6) rfl dX0_addMaker_45 ?_
  refine V.iload_n (j := 3) rfl dX0_addMaker_47 ?_
  refine V.aload_n (j := 0) rfl dX0_addMaker_48 ?_
  refine V.getr (q := 7) dX0_addMaker_49 fX0_46 rfl rfl ?_
  refine V.iload_n (j := 2) rfl dX0_addMaker_52 ?_
  refine V.lda (v := A 7 s) dX0_addMaker_53 rfl (by omega) (by decide) rfl ?_
  refine V.iconst (v := nI 0) (by decide) dX0_addMaker_54 ?_
  refine V.cV (As := [.int (nI 0), .int t, .int (A 7 s), .int (nI 0)]) (st := []) dX0_addMaker_55 sX0_93 iX3_add lX3_add rfl rfl (cd_addC I A n hn (by omega) _ _ _ _) ⟨by decide, by decide⟩ (Nat.le_of_ble_eq_true rfl) rfl (fun r I' A' hq => ?_)
  obtain ⟨rfl, rfl, rfl⟩ := hq
  refine V.st (st' := []) rfl ?_
  refine V.goto (tgt := 103) dX0_addMaker_58 (by decide) ?_
  refine V.rv dX0_addMaker_103 rfl ?_
  exact ⟨rfl, rfl, rfl⟩
set_option maxRecDepth 100000 in
set_option maxHeartbeats 4000000 in
theorem cd_maker1 {G : am_G} (I A : Nat → Nat → Int32) (s : Nat) (hs : s < 60) (ek : A 5 s = nI 1) (n : Nat) (hn : I 25 4 = nI n) (hN : n < 240) (t f g : Int32) : Cm G MX0_addMaker 1 24 [.ref 4, .ref 25, .int (nI s), .int t, .int f, .int g] I A (fun r I' A' => r = none ∧ upI I 25 4 (nI (n + 1)) = I' ∧ cz_CC A (mz_lay (cz_v A) n (nI 1) (cz_x3 1 t f g (A 6 s) (A 7 s) (A 8 s)).1 (cz_x3 1 t f g (A 6 s) (A 7 s) (A 8 s)).2.1 (cz_x3 1 t f g (A 6 s) (A 7 s) (A 8 s)).2.2) = A') := by
  refine Cm.of (by decide) (Nat.le_of_ble_eq_true rfl) rfl ?_
  show V G MX0_addMaker (am_R 1 24 0 0) _ 0 0 0 [(0, .ref 4), (1, .ref 25), (2, .int (nI s)), (3, .int t), (4, .int f), (5, .int g)] [] (hp I A)
  refine V.aload_n (j := 0) rfl dX0_addMaker_0 ?_
  refine V.getr (q := 5) dX0_addMaker_1 fX0_49 rfl rfl ?_
  refine V.iload_n (j := 2) rfl dX0_addMaker_4 ?_
  refine V.lda (v := nI 1) dX0_addMaker_5 rfl (by omega) (by decide) ek ?_
  refine V.istore (ls' := [(0, .ref 4), (1, .ref 25), (2, .int (nI s)), (3, .int t), (4, .int f), (5, .int g), (6, .int (nI 1))]) dX0_addMaker_6 (by decide) rfl ?_
  refine V.iload (j := 6) rfl dX0_addMaker_8 ?_
  refine V.lookup (tgt := 61) (off := 51) dX0_addMaker_10 (by decide) (by decide) (by decide) ?_
  refine V.aload_n (j := 1) rfl dX0_addMaker_61 ?_
  refine V.iload (j := 6) rfl dX0_addMaker_62 ?_
  refine V.iload_n (j := 3) rfl dX0_addMaker_64 ?_
  refine V.iload (j := 4) rfl dX0_addMaker_65 ?_
  refine V.iconst (v := nI 0) (by decide) dX0_addMaker_67 ?_
  refine V.cV (As := [.int (nI 1), .int t, .int f, .int (nI 0)]) (st := []) dX0_addMaker_68 sX0_93 iX3_add lX3_add rfl rfl (cd_addC I A n hn (by omega) _ _ _ _) ⟨by decide, by decide⟩ (Nat.le_of_ble_eq_true rfl) rfl (fun r I' A' hq => ?_)
  obtain ⟨rfl, rfl, rfl⟩ := hq
  refine V.st (st' := []) rfl ?_
  refine V.goto (tgt := 103) dX0_addMaker_71 (by decide) ?_
  refine V.rv dX0_addMaker_103 rfl ?_
  exact ⟨rfl, rfl, rfl⟩
set_option maxRecDepth 100000 in
set_option maxHeartbeats 4000000 in
theorem cd_maker2 {G : am_G} (I A : Nat → Nat → Int32) (s : Nat) (hs : s < 60) (ek : A 5 s = nI 2) (n : Nat) (hn : I 25 4 = nI n) (hN : n < 240) (t f g : Int32) : Cm G MX0_addMaker 1 24 [.ref 4, .ref 25, .int (nI s), .int t, .int f, .int g] I A (fun r I' A' => r = none ∧ upI I 25 4 (nI (n + 1)) = I' ∧ cz_CC A (mz_lay (cz_v A) n (nI 2) (cz_x3 2 t f g (A 6 s) (A 7 s) (A 8 s)).1 (cz_x3 2 t f g (A 6 s) (A 7 s) (A 8 s)).2.1 (cz_x3 2 t f g (A 6 s) (A 7 s) (A 8 s)).2.2) = A') := by
  refine Cm.of (by decide) (Nat.le_of_ble_eq_true rfl) rfl ?_
  show V G MX0_addMaker (am_R 1 24 0 0) _ 0 0 0 [(0, .ref 4), (1, .ref 25), (2, .int (nI s)), (3, .int t), (4, .int f), (5, .int g)] [] (hp I A)
  refine V.aload_n (j := 0) rfl dX0_addMaker_0 ?_
  refine V.getr (q := 5) dX0_addMaker_1 fX0_49 rfl rfl ?_
  refine V.iload_n (j := 2) rfl dX0_addMaker_4 ?_
  refine V.lda (v := nI 2) dX0_addMaker_5 rfl (by omega) (by decide) ek ?_
  refine V.istore (ls' := [(0, .ref 4), (1, .ref 25), (2, .int (nI s)), (3, .int t), (4, .int f), (5, .int g), (6, .int (nI 2))]) dX0_addMaker_6 (by decide) rfl ?_
  refine V.iload (j := 6) rfl dX0_addMaker_8 ?_
  refine V.lookup (tgt := 92) (off := 82) dX0_addMaker_10 (by decide) (by decide) (by decide) ?_
  refine V.aload_n (j := 1) rfl dX0_addMaker_92 ?_
  refine V.iload (j := 6) rfl dX0_addMaker_93 ?_
  refine V.iload_n (j := 3) rfl dX0_addMaker_95 ?_
  refine V.iload (j := 4) rfl dX0_addMaker_96 ?_
  refine V.iload (j := 5) rfl dX0_addMaker_98 ?_
  refine V.cV (As := [.int (nI 2), .int t, .int f, .int g]) (st := []) dX0_addMaker_100 sX0_93 iX3_add lX3_add rfl rfl (cd_addC I A n hn (by omega) _ _ _ _) ⟨by decide, by decide⟩ (Nat.le_of_ble_eq_true rfl) rfl (fun r I' A' hq => ?_)
  obtain ⟨rfl, rfl, rfl⟩ := hq
  refine V.st (st' := []) rfl ?_
  refine V.rv dX0_addMaker_103 rfl ?_
  exact ⟨rfl, rfl, rfl⟩
set_option maxRecDepth 100000 in
set_option maxHeartbeats 4000000 in
theorem cd_maker3 {G : am_G} (I A : Nat → Nat → Int32) (s : Nat) (hs : s < 60) (ek : A 5 s = nI 3) (n : Nat) (hn : I 25 4 = nI n) (hN : n < 240) (t f g : Int32) : Cm G MX0_addMaker 1 24 [.ref 4, .ref 25, .int (nI s), .int t, .int f, .int g] I A (fun r I' A' => r = none ∧ upI I 25 4 (nI (n + 1)) = I' ∧ cz_CC A (mz_lay (cz_v A) n (nI 3) (cz_x3 3 t f g (A 6 s) (A 7 s) (A 8 s)).1 (cz_x3 3 t f g (A 6 s) (A 7 s) (A 8 s)).2.1 (cz_x3 3 t f g (A 6 s) (A 7 s) (A 8 s)).2.2) = A') := by
  refine Cm.of (by decide) (Nat.le_of_ble_eq_true rfl) rfl ?_
  show V G MX0_addMaker (am_R 1 24 0 0) _ 0 0 0 [(0, .ref 4), (1, .ref 25), (2, .int (nI s)), (3, .int t), (4, .int f), (5, .int g)] [] (hp I A)
  refine V.aload_n (j := 0) rfl dX0_addMaker_0 ?_
  refine V.getr (q := 5) dX0_addMaker_1 fX0_49 rfl rfl ?_
  refine V.iload_n (j := 2) rfl dX0_addMaker_4 ?_
  refine V.lda (v := nI 3) dX0_addMaker_5 rfl (by omega) (by decide) ek ?_
  refine V.istore (ls' := [(0, .ref 4), (1, .ref 25), (2, .int (nI s)), (3, .int t), (4, .int f), (5, .int g), (6, .int (nI 3))]) dX0_addMaker_6 (by decide) rfl ?_
  refine V.iload (j := 6) rfl dX0_addMaker_8 ?_
  refine V.lookup (tgt := 92) (off := 82) dX0_addMaker_10 (by decide) (by decide) (by decide) ?_
  refine V.aload_n (j := 1) rfl dX0_addMaker_92 ?_
  refine V.iload (j := 6) rfl dX0_addMaker_93 ?_
  refine V.iload_n (j := 3) rfl dX0_addMaker_95 ?_
  refine V.iload (j := 4) rfl dX0_addMaker_96 ?_
  refine V.iload (j := 5) rfl dX0_addMaker_98 ?_
  refine V.cV (As := [.int (nI 3), .int t, .int f, .int g]) (st := []) dX0_addMaker_100 sX0_93 iX3_add lX3_add rfl rfl (cd_addC I A n hn (by omega) _ _ _ _) ⟨by decide, by decide⟩ (Nat.le_of_ble_eq_true rfl) rfl (fun r I' A' hq => ?_)
  obtain ⟨rfl, rfl, rfl⟩ := hq
  refine V.st (st' := []) rfl ?_
  refine V.rv dX0_addMaker_103 rfl ?_
  exact ⟨rfl, rfl, rfl⟩
set_option maxRecDepth 100000 in
set_option maxHeartbeats 4000000 in
theorem cd_maker4 {G : am_G} (I A : Nat → Nat → Int32) (s : Nat) (hs : s < 60) (ek : A 5 s = nI 4) (n : Nat) (hn : I 25 4 = nI n) (hN : n < 240) (t f g : Int32) : Cm G MX0_addMaker 1 24 [.ref 4, .ref 25, .int (nI s), .int t, .int f, .int g] I A (fun r I' A' => r = none ∧ upI I 25 4 (nI (n + 1)) = I' ∧ cz_CC A (mz_lay (cz_v A) n (nI 4) (cz_x3 4 t f g (A 6 s) (A 7 s) (A 8 s)).1 (cz_x3 4 t f g (A 6 s) (A 7 s) (A 8 s)).2.1 (cz_x3 4 t f g (A 6 s) (A 7 s) (A 8 s)).2.2) = A') := by
  refine Cm.of (by decide) (Nat.le_of_ble_eq_true rfl) rfl ?_
  show V G MX0_addMaker (am_R 1 24 0 0) _ 0 0 0 [(0, .ref 4), (1, .ref 25), (2, .int (nI s)), (3, .int t), (4, .int f), (5, .int g)] [] (hp I A)
  refine V.aload_n (j := 0) rfl dX0_addMaker_0 ?_
  refine V.getr (q := 5) dX0_addMaker_1 fX0_49 rfl rfl ?_
  refine V.iload_n (j := 2) rfl dX0_addMaker_4 ?_
  refine V.lda (v := nI 4) dX0_addMaker_5 rfl (by omega) (by decide) ek ?_
  refine V.istore (ls' := [(0, .ref 4), (1, .ref 25), (2, .int (nI s)), (3, .int t), (4, .int f), (5, .int g), (6, .int (nI 4))]) dX0_addMaker_6 (by decide) rfl ?_
  refine V.iload (j := 6) rfl dX0_addMaker_8 ?_
  refine V.lookup (tgt := 92) (off := 82) dX0_addMaker_10 (by decide) (by decide) (by decide) ?_
  refine V.aload_n (j := 1) rfl dX0_addMaker_92 ?_
  refine V.iload (j := 6) rfl dX0_addMaker_93 ?_
  refine V.iload_n (j := 3) rfl dX0_addMaker_95 ?_
  refine V.iload (j := 4) rfl dX0_addMaker_96 ?_
  refine V.iload (j := 5) rfl dX0_addMaker_98 ?_
  refine V.cV (As := [.int (nI 4), .int t, .int f, .int g]) (st := []) dX0_addMaker_100 sX0_93 iX3_add lX3_add rfl rfl (cd_addC I A n hn (by omega) _ _ _ _) ⟨by decide, by decide⟩ (Nat.le_of_ble_eq_true rfl) rfl (fun r I' A' hq => ?_)
  obtain ⟨rfl, rfl, rfl⟩ := hq
  refine V.st (st' := []) rfl ?_
  refine V.rv dX0_addMaker_103 rfl ?_
  exact ⟨rfl, rfl, rfl⟩
set_option maxRecDepth 100000 in
set_option maxHeartbeats 4000000 in
theorem cd_maker5 {G : am_G} (I A : Nat → Nat → Int32) (s : Nat) (hs : s < 60) (ek : A 5 s = nI 5) (n : Nat) (hn : I 25 4 = nI n) (hN : n < 240) (t f g : Int32) : Cm G MX0_addMaker 1 24 [.ref 4, .ref 25, .int (nI s), .int t, .int f, .int g] I A (fun r I' A' => r = none ∧ upI I 25 4 (nI (n + 1)) = I' ∧ cz_CC A (mz_lay (cz_v A) n (nI 5) (cz_x3 5 t f g (A 6 s) (A 7 s) (A 8 s)).1 (cz_x3 5 t f g (A 6 s) (A 7 s) (A 8 s)).2.1 (cz_x3 5 t f g (A 6 s) (A 7 s) (A 8 s)).2.2) = A') := by
  refine Cm.of (by decide) (Nat.le_of_ble_eq_true rfl) rfl ?_
  show V G MX0_addMaker (am_R 1 24 0 0) _ 0 0 0 [(0, .ref 4), (1, .ref 25), (2, .int (nI s)), (3, .int t), (4, .int f), (5, .int g)] [] (hp I A)
  refine V.aload_n (j := 0) rfl dX0_addMaker_0 ?_
  refine V.getr (q := 5) dX0_addMaker_1 fX0_49 rfl rfl ?_
  refine V.iload_n (j := 2) rfl dX0_addMaker_4 ?_
  refine V.lda (v := nI 5) dX0_addMaker_5 rfl (by omega) (by decide) ek ?_
  refine V.istore (ls' := [(0, .ref 4), (1, .ref 25), (2, .int (nI s)), (3, .int t), (4, .int f), (5, .int g), (6, .int (nI 5))]) dX0_addMaker_6 (by decide) rfl ?_
  refine V.iload (j := 6) rfl dX0_addMaker_8 ?_
  refine V.lookup (tgt := 74) (off := 64) dX0_addMaker_10 (by decide) (by decide) (by decide) ?_
  refine V.aload_n (j := 1) rfl dX0_addMaker_74 ?_
  refine V.iload (j := 6) rfl dX0_addMaker_75 ?_
  refine V.iload_n (j := 3) rfl dX0_addMaker_77 ?_
  refine V.iload (j := 4) rfl dX0_addMaker_78 ?_
  refine V.aload_n (j := 0) rfl dX0_addMaker_80 ?_
  refine V.getr (q := 8) dX0_addMaker_81 fX0_97 rfl rfl ?_
  refine V.iload_n (j := 2) rfl dX0_addMaker_84 ?_
  refine V.lda (v := A 8 s) dX0_addMaker_85 rfl (by omega) (by decide) rfl ?_
  refine V.cV (As := [.int (nI 5), .int t, .int f, .int (A 8 s)]) (st := []) dX0_addMaker_86 sX0_93 iX3_add lX3_add rfl rfl (cd_addC I A n hn (by omega) _ _ _ _) ⟨by decide, by decide⟩ (Nat.le_of_ble_eq_true rfl) rfl (fun r I' A' hq => ?_)
  obtain ⟨rfl, rfl, rfl⟩ := hq
  refine V.st (st' := []) rfl ?_
  refine V.goto (tgt := 103) dX0_addMaker_89 (by decide) ?_
  refine V.rv dX0_addMaker_103 rfl ?_
  exact ⟨rfl, rfl, rfl⟩
set_option maxRecDepth 100000 in
set_option maxHeartbeats 4000000 in
theorem cd_user6 {G : am_G} (I A : Nat → Nat → Int32) (s : Nat) (hs : s < 60) (ek : A 5 s = nI 6) (n : Nat) (hn : I 25 4 = nI n) (hN : n < 240) (t f g : Int32) : Cm G MX0_addUser 1 24 [.ref 4, .ref 25, .int (nI s), .int f, .int g] I A (fun r I' A' => r = none ∧ upI I 25 4 (nI (n + 1)) = I' ∧ cz_CC A (mz_lay (cz_v A) n (nI 6) (cz_x3 6 t f g (A 6 s) (A 7 s) (A 8 s)).1 (cz_x3 6 t f g (A 6 s) (A 7 s) (A 8 s)).2.1 (cz_x3 6 t f g (A 6 s) (A 7 s) (A 8 s)).2.2) = A') := by
  refine Cm.of (by decide) (Nat.le_of_ble_eq_true rfl) rfl ?_
  show V G MX0_addUser (am_R 1 24 0 0) _ 0 0 0 [(0, .ref 4), (1, .ref 25), (2, .int (nI s)), (3, .int f), (4, .int g)] [] (hp I A)
  refine V.aload_n (j := 0) rfl dX0_addUser_0 ?_
  refine V.getr (q := 5) dX0_addUser_1 fX0_49 rfl rfl ?_
  refine V.iload_n (j := 2) rfl dX0_addUser_4 ?_
  refine V.lda (v := nI 6) dX0_addUser_5 rfl (by omega) (by decide) ek ?_
  refine V.istore (ls' := [(0, .ref 4), (1, .ref 25), (2, .int (nI s)), (3, .int f), (4, .int g), (5, .int (nI 6))]) dX0_addUser_6 (by decide) rfl ?_
  refine V.iload (j := 5) rfl dX0_addUser_8 ?_
  refine V.tableIn (tgt := 40) dX0_addUser_10 (by decide) (by decide) rfl (by decide) ?_
  refine V.aload_n (j := 1) rfl dX0_addUser_40 ?_
  refine V.iload (j := 5) rfl dX0_addUser_41 ?_
  refine V.iload_n (j := 3) rfl dX0_addUser_43 ?_
  refine V.iload (j := 4) rfl dX0_addUser_44 ?_
  refine V.aload_n (j := 0) rfl dX0_addUser_46 ?_
  refine V.getr (q := 8) dX0_addUser_47 fX0_97 rfl rfl ?_
  refine V.iload_n (j := 2) rfl dX0_addUser_50 ?_
  refine V.lda (v := A 8 s) dX0_addUser_51 rfl (by omega) (by decide) rfl ?_
  refine V.cV (As := [.int (nI 6), .int f, .int g, .int (A 8 s)]) (st := []) dX0_addUser_52 sX0_93 iX3_add lX3_add rfl rfl (cd_addC I A n hn (by omega) _ _ _ _) ⟨by decide, by decide⟩ (Nat.le_of_ble_eq_true rfl) rfl (fun r I' A' hq => ?_)
  obtain ⟨rfl, rfl, rfl⟩ := hq
  refine V.st (st' := []) rfl ?_
  refine V.goto (tgt := 96) dX0_addUser_55 (by decide) ?_
  refine V.rv dX0_addUser_96 rfl ?_
  exact ⟨rfl, rfl, rfl⟩
set_option maxRecDepth 100000 in
set_option maxHeartbeats 4000000 in
theorem cd_user7 {G : am_G} (I A : Nat → Nat → Int32) (s : Nat) (hs : s < 60) (ek : A 5 s = nI 7) (n : Nat) (hn : I 25 4 = nI n) (hN : n < 240) (t f g : Int32) : Cm G MX0_addUser 1 24 [.ref 4, .ref 25, .int (nI s), .int f, .int g] I A (fun r I' A' => r = none ∧ upI I 25 4 (nI (n + 1)) = I' ∧ cz_CC A (mz_lay (cz_v A) n (nI 7) (cz_x3 7 t f g (A 6 s) (A 7 s) (A 8 s)).1 (cz_x3 7 t f g (A 6 s) (A 7 s) (A 8 s)).2.1 (cz_x3 7 t f g (A 6 s) (A 7 s) (A 8 s)).2.2) = A') := by
  refine Cm.of (by decide) (Nat.le_of_ble_eq_true rfl) rfl ?_
  show V G MX0_addUser (am_R 1 24 0 0) _ 0 0 0 [(0, .ref 4), (1, .ref 25), (2, .int (nI s)), (3, .int f), (4, .int g)] [] (hp I A)
  refine V.aload_n (j := 0) rfl dX0_addUser_0 ?_
  refine V.getr (q := 5) dX0_addUser_1 fX0_49 rfl rfl ?_
  refine V.iload_n (j := 2) rfl dX0_addUser_4 ?_
  refine V.lda (v := nI 7) dX0_addUser_5 rfl (by omega) (by decide) ek ?_
  refine V.istore (ls' := [(0, .ref 4), (1, .ref 25), (2, .int (nI s)), (3, .int f), (4, .int g), (5, .int (nI 7))]) dX0_addUser_6 (by decide) rfl ?_
  refine V.iload (j := 5) rfl dX0_addUser_8 ?_
  refine V.tableIn (tgt := 40) dX0_addUser_10 (by decide) (by decide) rfl (by decide) ?_
  refine V.aload_n (j := 1) rfl dX0_addUser_40 ?_
  refine V.iload (j := 5) rfl dX0_addUser_41 ?_
  refine V.iload_n (j := 3) rfl dX0_addUser_43 ?_
  refine V.iload (j := 4) rfl dX0_addUser_44 ?_
  refine V.aload_n (j := 0) rfl dX0_addUser_46 ?_
  refine V.getr (q := 8) dX0_addUser_47 fX0_97 rfl rfl ?_
  refine V.iload_n (j := 2) rfl dX0_addUser_50 ?_
  refine V.lda (v := A 8 s) dX0_addUser_51 rfl (by omega) (by decide) rfl ?_
  refine V.cV (As := [.int (nI 7), .int f, .int g, .int (A 8 s)]) (st := []) dX0_addUser_52 sX0_93 iX3_add lX3_add rfl rfl (cd_addC I A n hn (by omega) _ _ _ _) ⟨by decide, by decide⟩ (Nat.le_of_ble_eq_true rfl) rfl (fun r I' A' hq => ?_)
  obtain ⟨rfl, rfl, rfl⟩ := hq
  refine V.st (st' := []) rfl ?_
  refine V.goto (tgt := 96) dX0_addUser_55 (by decide) ?_
  refine V.rv dX0_addUser_96 rfl ?_
  exact ⟨rfl, rfl, rfl⟩
set_option maxRecDepth 100000 in
set_option maxHeartbeats 4000000 in
theorem cd_user8 {G : am_G} (I A : Nat → Nat → Int32) (s : Nat) (hs : s < 60) (ek : A 5 s = nI 8) (n : Nat) (hn : I 25 4 = nI n) (hN : n < 240) (t f g : Int32) : Cm G MX0_addUser 1 24 [.ref 4, .ref 25, .int (nI s), .int f, .int g] I A (fun r I' A' => r = none ∧ upI I 25 4 (nI (n + 1)) = I' ∧ cz_CC A (mz_lay (cz_v A) n (nI 8) (cz_x3 8 t f g (A 6 s) (A 7 s) (A 8 s)).1 (cz_x3 8 t f g (A 6 s) (A 7 s) (A 8 s)).2.1 (cz_x3 8 t f g (A 6 s) (A 7 s) (A 8 s)).2.2) = A') := by
  refine Cm.of (by decide) (Nat.le_of_ble_eq_true rfl) rfl ?_
  show V G MX0_addUser (am_R 1 24 0 0) _ 0 0 0 [(0, .ref 4), (1, .ref 25), (2, .int (nI s)), (3, .int f), (4, .int g)] [] (hp I A)
  refine V.aload_n (j := 0) rfl dX0_addUser_0 ?_
  refine V.getr (q := 5) dX0_addUser_1 fX0_49 rfl rfl ?_
  refine V.iload_n (j := 2) rfl dX0_addUser_4 ?_
  refine V.lda (v := nI 8) dX0_addUser_5 rfl (by omega) (by decide) ek ?_
  refine V.istore (ls' := [(0, .ref 4), (1, .ref 25), (2, .int (nI s)), (3, .int f), (4, .int g), (5, .int (nI 8))]) dX0_addUser_6 (by decide) rfl ?_
  refine V.iload (j := 5) rfl dX0_addUser_8 ?_
  refine V.tableIn (tgt := 58) dX0_addUser_10 (by decide) (by decide) rfl (by decide) ?_
  refine V.aload_n (j := 1) rfl dX0_addUser_58 ?_
  refine V.iload (j := 5) rfl dX0_addUser_59 ?_
  refine V.aload_n (j := 0) rfl dX0_addUser_61 ?_
  refine V.getr (q := 6) dX0_addUser_62 fX0_43 rfl rfl ?_
  refine V.iload_n (j := 2) rfl dX0_addUser_65 ?_
  refine V.lda (v := A 6 s) dX0_addUser_66 rfl (by omega) (by decide) rfl ?_
  refine V.iconst (v := nI 0) (by decide) dX0_addUser_67 ?_
  refine V.iconst (v := nI 0) (by decide) dX0_addUser_68 ?_
  refine V.cV (As := [.int (nI 8), .int (A 6 s), .int (nI 0), .int (nI 0)]) (st := []) dX0_addUser_69 sX0_93 iX3_add lX3_add rfl rfl (cd_addC I A n hn (by omega) _ _ _ _) ⟨by decide, by decide⟩ (Nat.le_of_ble_eq_true rfl) rfl (fun r I' A' hq => ?_)
  obtain ⟨rfl, rfl, rfl⟩ := hq
  refine V.st (st' := []) rfl ?_
  refine V.goto (tgt := 96) dX0_addUser_72 (by decide) ?_
  refine V.rv dX0_addUser_96 rfl ?_
  exact ⟨rfl, rfl, rfl⟩
set_option maxRecDepth 100000 in
set_option maxHeartbeats 4000000 in
theorem cd_user9 {G : am_G} (I A : Nat → Nat → Int32) (s : Nat) (hs : s < 60) (ek : A 5 s = nI 9) (n : Nat) (hn : I 25 4 = nI n) (hN : n < 240) (t f g : Int32) : Cm G MX0_addUser 1 24 [.ref 4, .ref 25, .int (nI s), .int f, .int g] I A (fun r I' A' => r = none ∧ upI I 25 4 (nI (n + 1)) = I' ∧ cz_CC A (mz_lay (cz_v A) n (nI 9) (cz_x3 9 t f g (A 6 s) (A 7 s) (A 8 s)).1 (cz_x3 9 t f g (A 6 s) (A 7 s) (A 8 s)).2.1 (cz_x3 9 t f g (A 6 s) (A 7 s) (A 8 s)).2.2) = A') := by
  refine Cm.of (by decide) (Nat.le_of_ble_eq_true rfl) rfl ?_
  show V G MX0_addUser (am_R 1 24 0 0) _ 0 0 0 [(0, .ref 4), (1, .ref 25), (2, .int (nI s)), (3, .int f), (4, .int g)] [] (hp I A)
  refine V.aload_n (j := 0) rfl dX0_addUser_0 ?_
  refine V.getr (q := 5) dX0_addUser_1 fX0_49 rfl rfl ?_
  refine V.iload_n (j := 2) rfl dX0_addUser_4 ?_
  refine V.lda (v := nI 9) dX0_addUser_5 rfl (by omega) (by decide) ek ?_
  refine V.istore (ls' := [(0, .ref 4), (1, .ref 25), (2, .int (nI s)), (3, .int f), (4, .int g), (5, .int (nI 9))]) dX0_addUser_6 (by decide) rfl ?_
  refine V.iload (j := 5) rfl dX0_addUser_8 ?_
  refine V.tableIn (tgt := 75) dX0_addUser_10 (by decide) (by decide) rfl (by decide) ?_
  refine V.aload_n (j := 1) rfl dX0_addUser_75 ?_
  refine V.iload (j := 5) rfl dX0_addUser_76 ?_
  refine V.iload_n (j := 3) rfl dX0_addUser_78 ?_
  refine V.iconst (v := nI 0) (by decide) dX0_addUser_79 ?_
  refine V.iconst (v := nI 0) (by decide) dX0_addUser_80 ?_
  refine V.cV (As := [.int (nI 9), .int f, .int (nI 0), .int (nI 0)]) (st := []) dX0_addUser_81 sX0_93 iX3_add lX3_add rfl rfl (cd_addC I A n hn (by omega) _ _ _ _) ⟨by decide, by decide⟩ (Nat.le_of_ble_eq_true rfl) rfl (fun r I' A' hq => ?_)
  obtain ⟨rfl, rfl, rfl⟩ := hq
  refine V.st (st' := []) rfl ?_
  refine V.goto (tgt := 96) dX0_addUser_84 (by decide) ?_
  refine V.rv dX0_addUser_96 rfl ?_
  exact ⟨rfl, rfl, rfl⟩
set_option maxRecDepth 100000 in
set_option maxHeartbeats 4000000 in
theorem cd_user10 {G : am_G} (I A : Nat → Nat → Int32) (s : Nat) (hs : s < 60) (ek : A 5 s = nI 10) (n : Nat) (hn : I 25 4 = nI n) (hN : n < 240) (t f g : Int32) : Cm G MX0_addUser 1 24 [.ref 4, .ref 25, .int (nI s), .int f, .int g] I A (fun r I' A' => r = none ∧ upI I 25 4 (nI (n + 1)) = I' ∧ cz_CC A (mz_lay (cz_v A) n (nI 10) (cz_x3 10 t f g (A 6 s) (A 7 s) (A 8 s)).1 (cz_x3 10 t f g (A 6 s) (A 7 s) (A 8 s)).2.1 (cz_x3 10 t f g (A 6 s) (A 7 s) (A 8 s)).2.2) = A') := by
  refine Cm.of (by decide) (Nat.le_of_ble_eq_true rfl) rfl ?_
  show V G MX0_addUser (am_R 1 24 0 0) _ 0 0 0 [(0, .ref 4), (1, .ref 25), (2, .int (nI s)), (3, .int f), (4, .int g)] [] (hp I A)
  refine V.aload_n (j := 0) rfl dX0_addUser_0 ?_
  refine V.getr (q := 5) dX0_addUser_1 fX0_49 rfl rfl ?_
  refine V.iload_n (j := 2) rfl dX0_addUser_4 ?_
  refine V.lda (v := nI 10) dX0_addUser_5 rfl (by omega) (by decide) ek ?_
  refine V.istore (ls' := [(0, .ref 4), (1, .ref 25), (2, .int (nI s)), (3, .int f), (4, .int g), (5, .int (nI 10))]) dX0_addUser_6 (by decide) rfl ?_
  refine V.iload (j := 5) rfl dX0_addUser_8 ?_
  refine V.tableOut (tgt := 87) dX0_addUser_10 (by decide) (by decide) ?_
  refine V.aload_n (j := 1) rfl dX0_addUser_87 ?_
  refine V.iload (j := 5) rfl dX0_addUser_88 ?_
  refine V.iconst (v := nI 0) (by decide) dX0_addUser_90 ?_
  refine V.iconst (v := nI 0) (by decide) dX0_addUser_91 ?_
  refine V.iconst (v := nI 0) (by decide) dX0_addUser_92 ?_
  refine V.cV (As := [.int (nI 10), .int (nI 0), .int (nI 0), .int (nI 0)]) (st := []) dX0_addUser_93 sX0_93 iX3_add lX3_add rfl rfl (cd_addC I A n hn (by omega) _ _ _ _) ⟨by decide, by decide⟩ (Nat.le_of_ble_eq_true rfl) rfl (fun r I' A' hq => ?_)
  obtain ⟨rfl, rfl, rfl⟩ := hq
  refine V.st (st' := []) rfl ?_
  refine V.rv dX0_addUser_96 rfl ?_
  exact ⟨rfl, rfl, rfl⟩
theorem cd_maker {G : am_G} (I A : Nat → Nat → Int32) (k : Nat) (hk : 0 ≤ k ∧ k ≤ 5) (s : Nat) (hs : s < 60) (ek : A 5 s = nI k) (n : Nat) (hn : I 25 4 = nI n) (hN : n < 240) (t f g : Int32) : Cm G MX0_addMaker 1 24 [.ref 4, .ref 25, .int (nI s), .int t, .int f, .int g] I A (fun r I' A' => r = none ∧ upI I 25 4 (nI (n + 1)) = I' ∧ cz_CC A (mz_lay (cz_v A) n (nI k) (cz_x3 k t f g (A 6 s) (A 7 s) (A 8 s)).1 (cz_x3 k t f g (A 6 s) (A 7 s) (A 8 s)).2.1 (cz_x3 k t f g (A 6 s) (A 7 s) (A 8 s)).2.2) = A') := by
  rcases (show k = 0 ∨ k = 1 ∨ k = 2 ∨ k = 3 ∨ k = 4 ∨ k = 5 by omega) with rfl | rfl | rfl | rfl | rfl | rfl
  · exact cd_maker0 I A s hs ek n hn hN t f g
  · exact cd_maker1 I A s hs ek n hn hN t f g
  · exact cd_maker2 I A s hs ek n hn hN t f g
  · exact cd_maker3 I A s hs ek n hn hN t f g
  · exact cd_maker4 I A s hs ek n hn hN t f g
  · exact cd_maker5 I A s hs ek n hn hN t f g
theorem cd_user {G : am_G} (I A : Nat → Nat → Int32) (k : Nat) (hk : 6 ≤ k ∧ k ≤ 10) (s : Nat) (hs : s < 60) (ek : A 5 s = nI k) (n : Nat) (hn : I 25 4 = nI n) (hN : n < 240) (t f g : Int32) : Cm G MX0_addUser 1 24 [.ref 4, .ref 25, .int (nI s), .int f, .int g] I A (fun r I' A' => r = none ∧ upI I 25 4 (nI (n + 1)) = I' ∧ cz_CC A (mz_lay (cz_v A) n (nI k) (cz_x3 k t f g (A 6 s) (A 7 s) (A 8 s)).1 (cz_x3 k t f g (A 6 s) (A 7 s) (A 8 s)).2.1 (cz_x3 k t f g (A 6 s) (A 7 s) (A 8 s)).2.2) = A') := by
  rcases (show k = 6 ∨ k = 7 ∨ k = 8 ∨ k = 9 ∨ k = 10 by omega) with rfl | rfl | rfl | rfl | rfl
  · exact cd_user6 I A s hs ek n hn hN t f g
  · exact cd_user7 I A s hs ek n hn hN t f g
  · exact cd_user8 I A s hs ek n hn hN t f g
  · exact cd_user9 I A s hs ek n hn hN t f g
  · exact cd_user10 I A s hs ek n hn hN t f g
