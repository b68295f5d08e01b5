/-- the tidied code's rows, out of a row of items that begins at 1600 -/
def cz_TT (A : Nat → Nat → Int32) (c : Nat → Int32) : Nat → Nat → Int32 := upA (upA (upA (upA A 31 (fun i => c (1600 + 4 * i))) 32 (fun i => c (1600 + 4 * i + 1))) 33 (fun i => c (1600 + 4 * i + 2))) 34 (fun i => c (1600 + 4 * i + 3))
def cz_u (o x y z : Nat → Int32) : Nat → Int32 := fun j => cz_c o x y z (j - 1600)
theorem cz_TT_rows {A : Nat → Nat → Int32} {o x y z : Nat → Int32} : upA (upA (upA (upA A 31 o) 32 x) 33 y) 34 z = cz_TT A (cz_u o x y z) := by
  unfold cz_TT cz_u
  simp only [show ∀ i, 1600 + 4 * i - 1600 = 4 * i from fun i => by omega, show ∀ i, 1600 + 4 * i + 1 - 1600 = 4 * i + 1 from fun i => by omega, show ∀ i, 1600 + 4 * i + 2 - 1600 = 4 * i + 2 from fun i => by omega, show ∀ i, 1600 + 4 * i + 3 - 1600 = 4 * i + 3 from fun i => by omega, cz_c_0, cz_c_1, cz_c_2, cz_c_3]
theorem cz_TTTT {A : Nat → Nat → Int32} {c c' : Nat → Int32} : cz_TT (cz_TT A c) c' = cz_TT A c' := by
  unfold cz_TT
  rw [upA_r4 (a := 31) (b := 32) (c := 33) (d := 34) (by decide) (by decide) (by decide), upA_r3 (a := 32) (b := 33) (c := 34) (by decide) (by decide), upA_r2 (a := 33) (b := 34) (by decide), upA_u]
theorem cz_TT_24 {A : Nat → Nat → Int32} {c g : Nat → Int32} : upA (cz_TT A c) 24 g = cz_TT (upA A 24 g) c := by
  unfold cz_TT
  rw [upA_c (a := 34) (b := 24) (by decide), upA_c (a := 33) (b := 24) (by decide), upA_c (a := 32) (b := 24) (by decide), upA_c (a := 31) (b := 24) (by decide)]
set_option maxRecDepth 100000 in
set_option maxHeartbeats 4000000 in
theorem cl_copy {G : am_G} {Fn : Array Value → State → List Frame → State → Prop} (I A : Nat → Nat → Int32) (n : Nat) (hn : I 25 4 = nI n) (hN : n ≤ 240) : ∀ (m : Nat) (i : Nat) (o : Nat → Int32) (x : Nat → Int32) (y : Nat → Int32) (z : Nat → Int32), i + m = n → (∀ j, j < i → o j = A 26 j ∧ x j = A 27 j ∧ y j = A 28 j ∧ z j = A 29 j) → (∀ o' x' y' z' : Nat → Int32, (∀ j, j < n → o' j = A 26 j ∧ x' j = A 27 j ∧ y' j = A 28 j ∧ z' j = A 29 j) → V G MX3_copy (am_R 1 24 0 0) Fn 0 0 49 [(0, .ref 30)] [] (hp (upI I 30 4 (nI n)) (upA (upA (upA (upA A 31 o') 32 x') 33 y') 34 z'))) → V G MX3_copy (am_R 1 24 0 0) Fn 0 0 7 [(0, .ref 30), (1, .ref 25), (2, .int (nI i))] [] (hp (upI I 30 4 (nI i)) (upA (upA (upA (upA A 31 (o)) 32 (x)) 33 (y)) 34 (z))) := by
  intro m
  induction m with
  | zero =>
    intro i o x y z hi0 hi1 hk
    obtain rfl : n = i := by omega
    refine V.iload_n (j := 2) rfl dX3_copy_7 ?_
    refine V.aload_n (j := 1) rfl dX3_copy_8 ?_
    refine V.geti (v := nI n) dX3_copy_9 fX3_24 rfl rfl hn ?_
    refine V.icmp_geN (tgt := 49) dX3_copy_12 (by decide) (by omega) (by omega) (fun c1 => ?_) (fun c1 => ?_)
    · refine V.fewer [0] rfl ?_
      exact hk _ _ _ _ hi1
    · exact absurd c1 (by omega)
  | succ m ih =>
    intro i o x y z hi0 hi1 hk
    refine V.iload_n (j := 2) rfl dX3_copy_7 ?_
    refine V.aload_n (j := 1) rfl dX3_copy_8 ?_
    refine V.geti (v := nI n) dX3_copy_9 fX3_24 rfl rfl hn ?_
    refine V.icmp_geN (tgt := 49) dX3_copy_12 (by decide) (by omega) (by omega) (fun c2 => ?_) (fun c2 => ?_)
    · exact absurd c2 (by omega)
    · refine V.aload_n (j := 0) rfl dX3_copy_15 ?_
      refine V.aload_n (j := 1) rfl dX3_copy_16 ?_
      refine V.getr (q := 26) dX3_copy_17 fX3_9 rfl rfl ?_
      refine V.iload_n (j := 2) rfl dX3_copy_20 ?_
      refine V.lda (v := A 26 i) dX3_copy_21 rfl (by omega) (by decide) rfl ?_
      refine V.aload_n (j := 1) rfl dX3_copy_22 ?_
      refine V.getr (q := 27) dX3_copy_23 fX3_15 rfl rfl ?_
      refine V.iload_n (j := 2) rfl dX3_copy_26 ?_
      refine V.lda (v := A 27 i) dX3_copy_27 rfl (by omega) (by decide) rfl ?_
      refine V.aload_n (j := 1) rfl dX3_copy_28 ?_
      refine V.getr (q := 28) dX3_copy_29 fX3_18 rfl rfl ?_
      refine V.iload_n (j := 2) rfl dX3_copy_32 ?_
      refine V.lda (v := A 28 i) dX3_copy_33 rfl (by omega) (by decide) rfl ?_
      refine V.aload_n (j := 1) rfl dX3_copy_34 ?_
      refine V.getr (q := 29) dX3_copy_35 fX3_21 rfl rfl ?_
      refine V.iload_n (j := 2) rfl dX3_copy_38 ?_
      refine V.lda (v := A 29 i) dX3_copy_39 rfl (by omega) (by decide) rfl ?_
      refine V.cV (As := [.int (A 26 i), .int (A 27 i), .int (A 28 i), .int (A 29 i)]) (st := []) dX3_copy_40 sX3_28 iX3_add lX3_add rfl rfl (cd_add30 (upI I 30 4 (nI i)) (upA (upA (upA (upA A 31 (o)) 32 (x)) 33 (y)) 34 (z)) i rfl (by omega) _ _ _ _) ⟨by decide, by decide⟩ (Nat.le_of_ble_eq_true rfl) rfl (fun r I' A' hq => ?_)
      obtain ⟨rfl, rfl, rfl⟩ := hq
      refine V.hpe (I' := (upI I 30 4 (nI (i + 1)))) (A' := (upA (upA (upA (upA A 31 (upd o i (A 26 i))) 32 (upd x i (A 27 i))) 33 (upd y i (A 28 i))) 34 (upd z i (A 29 i)))) upI_u (by show upA (upA (upA (upA (upA (upA (upA (upA A 31 o) 32 x) 33 y) 34 z) 31 (upd o i (A 26 i))) 32 (upd x i (A 27 i))) 33 (upd y i (A 28 i))) 34 (upd z i (A 29 i)) = _; rw [upA_r4 (a := 31) (b := 32) (c := 33) (d := 34) (by decide) (by decide) (by decide), upA_r3 (a := 32) (b := 33) (c := 34) (by decide) (by decide), upA_r2 (a := 33) (b := 34) (by decide), upA_u]) ?_
      refine V.st (st' := []) rfl ?_
      refine V.iincN (ls' := [(0, .ref 30), (1, .ref 25), (2, .int (nI (i + 1)))]) dX3_copy_43 (j := 2) rfl (by decide) rfl ?_
      refine V.goto (tgt := 7) dX3_copy_46 (by decide) ?_
      refine ih (i + 1) _ _ _ _ (by omega) (fun j hj => ?_) hk
      by_cases q : j = i
      · subst q; exact ⟨pk_us, pk_us, pk_us, pk_us⟩
      · rw [pk_un q, pk_un q, pk_un q, pk_un q]; exact hi1 j (by omega)
set_option maxRecDepth 100000 in
set_option maxHeartbeats 4000000 in
theorem cd_copy {G : am_G} (I A : Nat → Nat → Int32) (n : Nat) (hn : I 25 4 = nI n) (hN : n ≤ 240) : Cm G MX3_copy 1 24 [.ref 30, .ref 25] I A (fun r I' A' => r = none ∧ ∃ c', (∀ k, k < 4 * n → c' (1600 + k) = cz_v A k) ∧ upI I 30 4 (nI n) = I' ∧ cz_TT A c' = A') := by
  refine Cm.of (by decide) (Nat.le_of_ble_eq_true rfl) rfl ?_
  show V G MX3_copy (am_R 1 24 0 0) _ 0 0 0 [(0, .ref 30), (1, .ref 25)] [] (hp I A)
  refine V.aload_n (j := 0) rfl dX3_copy_0 ?_
  refine V.iconst (v := nI 0) (by decide) dX3_copy_1 ?_
  refine V.puti dX3_copy_2 pX3_24 rfl rfl ?_
  refine V.iconst (v := nI 0) (by decide) dX3_copy_5 ?_
  refine V.istore_n (ls' := [(0, .ref 30), (1, .ref 25), (2, .int (nI 0))]) dX3_copy_6 (by decide) rfl ?_
  refine V.hpe (I' := (upI I 30 4 (nI 0))) (A' := (upA (upA (upA (upA A 31 (A 31)) 32 (A 32)) 33 (A 33)) 34 (A 34))) rfl (by rw [upA_i, upA_i, upA_i, upA_i]) ?_
  refine cl_copy I A n hn hN n 0 _ _ _ _ (by omega) (fun j hj => absurd hj (Nat.not_lt_zero _)) (fun o x y z hq => ?_)
  refine V.rv dX3_copy_49 rfl ?_
  refine ⟨rfl, cz_u o x y z, fun k hk => ?_, rfl, cz_TT_rows.symm⟩
  obtain ⟨q1, q2, q3, q4⟩ := hq (k / 4) (by omega)
  unfold cz_u cz_v cz_c
  rw [show 1600 + k - 1600 = k by omega, q1, q2, q3, q4]
theorem cz_sh4 {A : Nat → Nat → Int32} {c : Nat → Int32} {i : Nat} : upA (upA (upA (upA (cz_TT A c) 31 (upd (fun i => c (1600 + 4 * i)) i (c (1600 + 4 * (i + 1))))) 32 (upd (fun i => c (1600 + 4 * i + 1)) i (c (1600 + 4 * (i + 1) + 1)))) 33 (upd (fun i => c (1600 + 4 * i + 2)) i (c (1600 + 4 * (i + 1) + 2)))) 34 (upd (fun i => c (1600 + 4 * i + 3)) i (c (1600 + 4 * (i + 1) + 3))) = cz_TT A (mz_shl 4 (1600 + 4 * i) c) := by
  have e : ∀ j, mz_shl 4 (1600 + 4 * i) c j = if 1600 + 4 * i ≤ j ∧ j < 1600 + 4 * i + 4 then c (j + 4) else c j := by
    intro j
    show upd (upd (upd (upd c (1600 + 4 * i) _) (1600 + 4 * i + 1) _) (1600 + 4 * i + 1 + 1) _) (1600 + 4 * i + 1 + 1 + 1) _ j = _
    simp only [upd]
    by_cases h : 1600 + 4 * i ≤ j ∧ j < 1600 + 4 * i + 4
    · rw [if_pos h]
      rcases (show j = 1600 + 4 * i ∨ j = 1600 + 4 * i + 1 ∨ j = 1600 + 4 * i + 1 + 1 ∨ j = 1600 + 4 * i + 1 + 1 + 1 by omega) with rfl | rfl | rfl | rfl
      · rw [if_neg (by omega), if_neg (by omega), if_neg (by omega), if_pos rfl]
      · rw [if_neg (by omega), if_neg (by omega), if_pos rfl, if_neg (by omega)]
      · rw [if_neg (by omega), if_pos rfl, if_neg (by omega), if_neg (by omega)]
      · rw [if_pos rfl, if_neg (by omega), if_neg (by omega), if_neg (by omega)]
    · rw [if_neg h, if_neg (by omega), if_neg (by omega), if_neg (by omega), if_neg (by omega)]
  have row : ∀ k, k < 4 → upd (fun i => c (1600 + 4 * i + k)) i (c (1600 + 4 * (i + 1) + k)) = fun j => mz_shl 4 (1600 + 4 * i) c (1600 + 4 * j + k) := by
    intro k hk
    funext j
    rw [e]
    by_cases q : j = i
    · subst q; rw [pk_us, if_pos (by omega)]; exact congrArg c (by omega)
    · rw [pk_un q, if_neg (by omega)]
  have r0 := row 0 (by omega)
  have r1 := row 1 (by omega)
  have r2 := row 2 (by omega)
  have r3 := row 3 (by omega)
  simp only [Nat.add_zero] at r0
  rw [r0, r1, r2, r3]
  unfold cz_TT
  rw [upA_r4 (a := 31) (b := 32) (c := 33) (d := 34) (by decide) (by decide) (by decide), upA_r3 (a := 32) (b := 33) (c := 34) (by decide) (by decide), upA_r2 (a := 33) (b := 34) (by decide), upA_u]
theorem mz_shl_4 {m k : Nat} {c : Nat → Int32} : mz_shl (4 * (m + 1)) k c = mz_shl (4 * m) (k + 4) (mz_shl 4 k c) := rfl
theorem cz_tt_z {A : Nat → Nat → Int32} {c : Nat → Int32} {i : Nat} {t : Int32} : upA (cz_TT A c) 34 (upd (fun i => c (1600 + 4 * i + 3)) i t) = cz_TT A (upd c (1600 + 4 * i + 3) t) := by
  unfold cz_TT
  rw [upA_u, show (fun j => upd c (1600 + 4 * i + 3) t (1600 + 4 * j)) = fun j => c (1600 + 4 * j) from funext fun j => pk_un (by omega), show (fun j => upd c (1600 + 4 * i + 3) t (1600 + 4 * j + 1)) = fun j => c (1600 + 4 * j + 1) from funext fun j => pk_un (by omega), show (fun j => upd c (1600 + 4 * i + 3) t (1600 + 4 * j + 2)) = fun j => c (1600 + 4 * j + 2) from funext fun j => pk_un (by omega)]
  congr 1
  funext j
  by_cases h : j = i
  · subst h; rw [pk_us, pk_us]
  · rw [pk_un h, pk_un (by omega)]
theorem cz_tt_x {A : Nat → Nat → Int32} {c : Nat → Int32} {i : Nat} {t : Int32} : upA (cz_TT A c) 32 (upd (fun i => c (1600 + 4 * i + 1)) i t) = cz_TT A (upd c (1600 + 4 * i + 1) t) := by
  unfold cz_TT
  rw [upA_r3 (a := 32) (b := 33) (c := 34) (by decide) (by decide), show (fun j => upd c (1600 + 4 * i + 1) t (1600 + 4 * j)) = fun j => c (1600 + 4 * j) from funext fun j => pk_un (by omega), show (fun j => upd c (1600 + 4 * i + 1) t (1600 + 4 * j + 3)) = fun j => c (1600 + 4 * j + 3) from funext fun j => pk_un (by omega), show (fun j => upd c (1600 + 4 * i + 1) t (1600 + 4 * j + 2)) = fun j => c (1600 + 4 * j + 2) from funext fun j => pk_un (by omega)]
  congr 3
  funext j
  by_cases h : j = i
  · subst h; rw [pk_us, pk_us]
  · rw [pk_un h, pk_un (by omega)]
theorem cz_ld_e {c : Nat → Int32} {k : Nat} (h : c (1600 + 4 * k) = nI 7 ∨ c (1600 + 4 * k) = nI 8) : mz_leads c k = c (1600 + 4 * k + mz_off c k) := by
  unfold mz_leads mz_off
  by_cases h7 : c (1600 + 4 * k) = nI 7
  · rw [if_pos h7, if_pos h7]
  · rw [if_neg h7, if_neg h7, if_pos (h.resolve_left h7)]
theorem cz_ld_n {c : Nat → Int32} {k : Nat} (h : ¬ (c (1600 + 4 * k) = nI 7 ∨ c (1600 + 4 * k) = nI 8)) : mz_leads c k = (-1) := by
  unfold mz_leads
  rw [if_neg (fun z => h (Or.inl z)), if_neg (fun z => h (Or.inr z))]
theorem cz_tt_aim {A : Nat → Nat → Int32} {c : Nat → Int32} {i : Nat} {t : Int32} (h : c (1600 + 4 * i) = nI 7 ∨ c (1600 + 4 * i) = nI 8) : (if (cz_TT A c) 31 i = nI 7 then upA (cz_TT A c) 34 (upd ((cz_TT A c) 34) i t) else if (cz_TT A c) 31 i = nI 8 then upA (cz_TT A c) 32 (upd ((cz_TT A c) 32) i t) else cz_TT A c) = cz_TT A (upd c (1600 + 4 * i + mz_off c i) t) := by
  show (if c (1600 + 4 * i) = nI 7 then upA (cz_TT A c) 34 (upd (fun i => c (1600 + 4 * i + 3)) i t) else if c (1600 + 4 * i) = nI 8 then upA (cz_TT A c) 32 (upd (fun i => c (1600 + 4 * i + 1)) i t) else cz_TT A c) = _
  unfold mz_off
  by_cases h7 : c (1600 + 4 * i) = nI 7
  · rw [if_pos h7, if_pos h7, cz_tt_z]
  · rw [if_neg h7, if_neg h7, if_pos (h.resolve_left h7), cz_tt_x]
theorem cz_m1_le {i : Nat} (h : i < 2 ^ 31) : (-1 : Int32) ≤ nI i := by
  rw [Int32.le_iff_toInt_le, nI_toInt h, show (-1 : Int32).toInt = -1 from by decide]
  omega
set_option maxRecDepth 100000 in
set_option maxHeartbeats 4000000 in
theorem cl_take1 {G : am_G} {Fn : Array Value → State → List Frame → State → Prop} (I A : Nat → Nat → Int32) (n : Nat) (hn : I 30 4 = nI n) (hN : n < 240) (g : Nat) : ∀ (m : Nat) (i : Nat) (c : Nat → Int32), i + m = n → V G MX3_takeAway (am_R 1 22 0 0) Fn 0 0 82 [(0, .ref 30), (1, .int (nI g))] [] (hp I (cz_TT A (mz_shl (4 * m) (1600 + 4 * i) c))) → V G MX3_takeAway (am_R 1 22 0 0) Fn 0 0 12 [(0, .ref 30), (1, .int (nI g)), (2, .int (nI i))] [] (hp I (cz_TT A c)) := by
  intro m
  induction m with
  | zero =>
    intro i c hi0 hk
    refine V.iload_n (j := 2) rfl dX3_takeAway_12 ?_
    refine V.aload_n (j := 0) rfl dX3_takeAway_13 ?_
    refine V.geti (v := nI n) dX3_takeAway_14 fX3_24 rfl rfl hn ?_
    refine V.icmp_geN (tgt := 82) dX3_takeAway_17 (by decide) (by omega) (by omega) (fun c1 => ?_) (fun c1 => ?_)
    · refine V.fewer [0, 1] rfl ?_
      exact hk
    · exact absurd c1 (by omega)
  | succ m ih =>
    intro i c hi0 hk
    refine V.iload_n (j := 2) rfl dX3_takeAway_12 ?_
    refine V.aload_n (j := 0) rfl dX3_takeAway_13 ?_
    refine V.geti (v := nI n) dX3_takeAway_14 fX3_24 rfl rfl hn ?_
    refine V.icmp_geN (tgt := 82) dX3_takeAway_17 (by decide) (by omega) (by omega) (fun c2 => ?_) (fun c2 => ?_)
    · exact absurd c2 (by omega)
    · refine V.aload_n (j := 0) rfl dX3_takeAway_20 ?_
      refine V.getr (q := 31) dX3_takeAway_21 fX3_9 rfl rfl ?_
      refine V.iload_n (j := 2) rfl dX3_takeAway_24 ?_
      refine V.aload_n (j := 0) rfl dX3_takeAway_25 ?_
      refine V.getr (q := 31) dX3_takeAway_26 fX3_9 rfl rfl ?_
      refine V.iload_n (j := 2) rfl dX3_takeAway_29 ?_
      refine V.iconst (v := nI 1) (by decide) dX3_takeAway_30 ?_
      refine V.iaddN dX3_takeAway_31 ?_
      refine V.lda (v := (cz_TT A c) 31 (i + 1)) dX3_takeAway_32 rfl (by omega) (by decide) rfl ?_
      refine V.sta (g := upd ((cz_TT A c) 31) i ((cz_TT A c) 31 (i + 1))) dX3_takeAway_33 rfl (by omega) (by decide) rfl ?_
      refine V.aload_n (j := 0) rfl dX3_takeAway_34 ?_
      refine V.getr (q := 32) dX3_takeAway_35 fX3_15 rfl rfl ?_
      refine V.iload_n (j := 2) rfl dX3_takeAway_38 ?_
      refine V.aload_n (j := 0) rfl dX3_takeAway_39 ?_
      refine V.getr (q := 32) dX3_takeAway_40 fX3_15 rfl rfl ?_
      refine V.iload_n (j := 2) rfl dX3_takeAway_43 ?_
      refine V.iconst (v := nI 1) (by decide) dX3_takeAway_44 ?_
      refine V.iaddN dX3_takeAway_45 ?_
      refine V.lda (v := (cz_TT A c) 32 (i + 1)) dX3_takeAway_46 rfl (by omega) (by decide) rfl ?_
      refine V.sta (g := upd ((cz_TT A c) 32) i ((cz_TT A c) 32 (i + 1))) dX3_takeAway_47 rfl (by omega) (by decide) rfl ?_
      refine V.aload_n (j := 0) rfl dX3_takeAway_48 ?_
      refine V.getr (q := 33) dX3_takeAway_49 fX3_18 rfl rfl ?_
      refine V.iload_n (j := 2) rfl dX3_takeAway_52 ?_
      refine V.aload_n (j := 0) rfl dX3_takeAway_53 ?_
      refine V.getr (q := 33) dX3_takeAway_54 fX3_18 rfl rfl ?_
      refine V.iload_n (j := 2) rfl dX3_takeAway_57 ?_
      refine V.iconst (v := nI 1) (by decide) dX3_takeAway_58 ?_
      refine V.iaddN dX3_takeAway_59 ?_
      refine V.lda (v := (cz_TT A c) 33 (i + 1)) dX3_takeAway_60 rfl (by omega) (by decide) rfl ?_
      refine V.sta (g := upd ((cz_TT A c) 33) i ((cz_TT A c) 33 (i + 1))) dX3_takeAway_61 rfl (by omega) (by decide) rfl ?_
      refine V.aload_n (j := 0) rfl dX3_takeAway_62 ?_
      refine V.getr (q := 34) dX3_takeAway_63 fX3_21 rfl rfl ?_
      refine V.iload_n (j := 2) rfl dX3_takeAway_66 ?_
      refine V.aload_n (j := 0) rfl dX3_takeAway_67 ?_
      refine V.getr (q := 34) dX3_takeAway_68 fX3_21 rfl rfl ?_
      refine V.iload_n (j := 2) rfl dX3_takeAway_71 ?_
      refine V.iconst (v := nI 1) (by decide) dX3_takeAway_72 ?_
      refine V.iaddN dX3_takeAway_73 ?_
      refine V.lda (v := (cz_TT A c) 34 (i + 1)) dX3_takeAway_74 rfl (by omega) (by decide) rfl ?_
      refine V.sta (g := upd ((cz_TT A c) 34) i ((cz_TT A c) 34 (i + 1))) dX3_takeAway_75 rfl (by omega) (by decide) rfl ?_
      refine V.iincN (ls' := [(0, .ref 30), (1, .int (nI g)), (2, .int (nI (i + 1)))]) dX3_takeAway_76 (j := 2) rfl (by decide) rfl ?_
      refine V.goto (tgt := 12) dX3_takeAway_79 (by decide) ?_
      refine V.hpe (A' := (cz_TT A (mz_shl 4 (1600 + 4 * i) c))) rfl cz_sh4 ?_
      exact ih (i + 1) _ (by omega) hk
set_option maxRecDepth 100000 in
set_option maxHeartbeats 4000000 in
theorem cl_take2 {G : am_G} {Fn : Array Value → State → List Frame → State → Prop} (I A : Nat → Nat → Int32) (n : Nat) (hn : I 30 4 = nI n) (hN : n < 240) (g : Nat) (hg : g < 240) : ∀ (m : Nat) (k : Nat) (c : Nat → Int32), k + m = n → V G MX3_takeAway (am_R 1 22 0 0) Fn 0 0 119 [(0, .ref 30)] [] (hp I (cz_TT A (mz_dec g m k c))) → V G MX3_takeAway (am_R 1 22 0 0) Fn 0 0 84 [(0, .ref 30), (1, .int (nI g)), (2, .int (nI k))] [] (hp I (cz_TT A c)) := by
  intro m
  induction m with
  | zero =>
    intro k c hi0 hk
    refine V.iload_n (j := 2) rfl dX3_takeAway_84 ?_
    refine V.aload_n (j := 0) rfl dX3_takeAway_85 ?_
    refine V.geti (v := nI n) dX3_takeAway_86 fX3_24 rfl rfl hn ?_
    refine V.icmp_geN (tgt := 119) dX3_takeAway_89 (by decide) (by omega) (by omega) (fun c1 => ?_) (fun c1 => ?_)
    · refine V.fewer [0] rfl ?_
      exact hk
    · exact absurd c1 (by omega)
  | succ m ih =>
    intro k c hi0 hk
    refine V.iload_n (j := 2) rfl dX3_takeAway_84 ?_
    refine V.aload_n (j := 0) rfl dX3_takeAway_85 ?_
    refine V.geti (v := nI n) dX3_takeAway_86 fX3_24 rfl rfl hn ?_
    refine V.icmp_geN (tgt := 119) dX3_takeAway_89 (by decide) (by omega) (by omega) (fun c2 => ?_) (fun c2 => ?_)
    · exact absurd c2 (by omega)
    · refine V.aload_n (j := 0) rfl dX3_takeAway_92 ?_
      refine V.iload_n (j := 2) rfl dX3_takeAway_93 ?_
      refine V.cV (As := [.int (nI k)]) (st := []) dX3_takeAway_94 sX3_32 iX3_target lX3_target rfl rfl (cd_target30 I (cz_TT A c) k (by omega)) ⟨by decide, by decide⟩ (Nat.le_of_ble_eq_true rfl) rfl (fun r I' A' hq => ?_)
      obtain ⟨rfl, rfl, rfl⟩ := hq
      refine V.st (st' := [.int (mz_leads c k)]) rfl ?_
      refine V.iload_n (j := 1) rfl dX3_takeAway_97 ?_
      refine V.icmp_le (tgt := 113) dX3_takeAway_98 (by decide) (fun c3 => ?_) (fun c3 => ?_)
      · refine V.iincN (ls' := [(0, .ref 30), (1, .int (nI g)), (2, .int (nI (k + 1)))]) dX3_takeAway_113 (j := 2) rfl (by decide) rfl ?_
        refine V.goto (tgt := 84) dX3_takeAway_116 (by decide) ?_
        refine V.hpe (A' := (cz_TT A (mz_dc c g k))) rfl (congrArg (cz_TT A) (show c = mz_dc c g k by unfold mz_dc; rw [if_pos c3])) ?_
        exact ih (k + 1) _ (by omega) hk
      · have hj : c (1600 + 4 * k) = nI 7 ∨ c (1600 + 4 * k) = nI 8 := Classical.byContradiction fun z => c3 (by rw [cz_ld_n z]; exact cz_m1_le (by omega))
        refine V.aload_n (j := 0) rfl dX3_takeAway_101 ?_
        refine V.iload_n (j := 2) rfl dX3_takeAway_102 ?_
        refine V.aload_n (j := 0) rfl dX3_takeAway_103 ?_
        refine V.iload_n (j := 2) rfl dX3_takeAway_104 ?_
        refine V.cV (As := [.int (nI k)]) (st := [.int (nI k), .ref 30]) dX3_takeAway_105 sX3_32 iX3_target lX3_target rfl rfl (cd_target30 I (cz_TT A c) k (by omega)) ⟨by decide, by decide⟩ (Nat.le_of_ble_eq_true rfl) rfl (fun r I' A' hq => ?_)
        obtain ⟨rfl, rfl, rfl⟩ := hq
        refine V.st (st' := [.int (mz_leads c k), .int (nI k), .ref 30]) rfl ?_
        refine V.iconst (v := nI 1) (by decide) dX3_takeAway_108 ?_
        refine V.isub dX3_takeAway_109 ?_
        refine V.cV (As := [.int (nI k), .int ((mz_leads c k) - (nI 1))]) (st := []) dX3_takeAway_110 sX3_36 iX3_aim lX3_aim rfl rfl (cd_aim30 I (cz_TT A c) k (by omega) _) ⟨by decide, by decide⟩ (Nat.le_of_ble_eq_true rfl) rfl (fun r I' A' hq => ?_)
        obtain ⟨rfl, rfl, rfl⟩ := hq
        refine V.hpe (A' := (cz_TT A (mz_dc c g k))) rfl ((cz_tt_aim hj).trans (congrArg (cz_TT A) (show _ = mz_dc c g k by unfold mz_dc; rw [if_neg c3, cz_ld_e hj]))) ?_
        refine V.st (st' := []) rfl ?_
        refine V.iincN (ls' := [(0, .ref 30), (1, .int (nI g)), (2, .int (nI (k + 1)))]) dX3_takeAway_113 (j := 2) rfl (by decide) rfl ?_
        refine V.goto (tgt := 84) dX3_takeAway_116 (by decide) ?_
        exact ih (k + 1) _ (by omega) hk
set_option maxRecDepth 100000 in
set_option maxHeartbeats 4000000 in
theorem cd_take {G : am_G} (I A : Nat → Nat → Int32) (c : Nat → Int32) (n : Nat) (hn : I 30 4 = nI (n + 1)) (hN : n < 240) (g : Nat) (hg : g < n + 1) : Cm G MX3_takeAway 1 22 [.ref 30, .int (nI g)] I (cz_TT A c) (fun r I' A' => r = none ∧ upI I 30 4 (nI n) = I' ∧ cz_TT A (mz_take c n g) = A') := by
  refine Cm.of (by decide) (Nat.le_of_ble_eq_true rfl) rfl ?_
  show V G MX3_takeAway (am_R 1 22 0 0) _ 0 0 0 [(0, .ref 30), (1, .int (nI g))] [] (hp I (cz_TT A c))
  refine V.aload_n (j := 0) rfl dX3_takeAway_0 ?_
  refine V.dup rfl dX3_takeAway_1 ?_
  refine V.geti (v := nI (n + 1)) dX3_takeAway_2 fX3_24 rfl rfl hn ?_
  refine V.iconst (v := nI 1) (by decide) dX3_takeAway_5 ?_
  refine V.isubN dX3_takeAway_6 (by omega) ?_
  refine V.st (st' := [.int (nI n), .ref 30]) rfl ?_
  refine V.puti dX3_takeAway_7 pX3_24 rfl rfl ?_
  refine V.iload_n (j := 1) rfl dX3_takeAway_10 ?_
  refine V.istore_n (ls' := [(0, .ref 30), (1, .int (nI g)), (2, .int (nI g))]) dX3_takeAway_11 (by decide) rfl ?_
  refine cl_take1 (upI I 30 4 (nI n)) A n rfl hN g (n - g) g c (by omega) ?_
  refine V.iconst (v := nI 0) (by decide) dX3_takeAway_82 ?_
  refine V.istore_n (ls' := [(0, .ref 30), (1, .int (nI g)), (2, .int (nI 0))]) dX3_takeAway_83 (by decide) rfl ?_
  refine cl_take2 (upI I 30 4 (nI n)) A n rfl hN g (by omega) n 0 _ (by omega) ?_
  refine V.rv dX3_takeAway_119 rfl ?_
  exact ⟨rfl, rfl, by unfold mz_take; rw [show 4 * n - 4 * g = 4 * (n - g) by omega]⟩
