/-- a line is done: as the reference does an item, over the four rows -/
def cz_d1 (o x y z : Nat → Int32) (i : Nat) (hd l sd sl : Nat → Int32) (t : Nat) : mz_IS := mz_di1 (cz_c o x y z) 0 i hd l sd sl t
/-- a line that the machine can do -/
def cz_iw (o x y z : Nat → Int32) (i : Nat) : Prop := ∃ k, k ≤ 12 ∧ o i = nI k ∧ (k ≤ 7 ∨ k = 9 ∨ 11 ≤ k → ∃ q, q < 32 ∧ x i = nI q) ∧ (1 ≤ k ∧ k ≤ 7 → ∃ q, q < 32 ∧ y i = nI q) ∧ (11 ≤ k → ∃ q, q < 24 ∧ y i = nI q) ∧ (2 ≤ k ∧ k ≤ 4 → ∃ q, q < 32 ∧ z i = nI q) ∧ (k = 7 → ∃ q, q ≤ 400 ∧ z i = nI q) ∧ (k = 8 → ∃ q, q ≤ 400 ∧ x i = nI q)
theorem cz_M36_37 {A : Nat → Nat → Int32} {f : Nat → Int32} : upA (upA (upA (upA A 37 f) 39 (A 39)) 40 (A 40)) 38 (A 38) = upA A 37 f := by rw [show A 39 = (upA A 37 f) 39 from rfl, upA_i, show A 40 = (upA A 37 f) 40 from rfl, upA_i, show A 38 = (upA A 37 f) 38 from rfl, upA_i]
theorem cz_M36_39 {A : Nat → Nat → Int32} {f : Nat → Int32} : upA (upA (upA (upA A 37 (A 37)) 39 f) 40 (A 40)) 38 (A 38) = upA A 39 f := by rw [upA_i, show A 40 = (upA A 39 f) 40 from rfl, upA_i, show A 38 = (upA A 39 f) 38 from rfl, upA_i]
theorem cz_M36_40 {A : Nat → Nat → Int32} {f : Nat → Int32} : upA (upA (upA (upA A 37 (A 37)) 39 (A 39)) 40 f) 38 (A 38) = upA A 40 f := by rw [upA_i, upA_i, show A 38 = (upA A 40 f) 38 from rfl, upA_i]
theorem cz_M36_38 {A : Nat → Nat → Int32} {f : Nat → Int32} : upA (upA (upA (upA A 37 (A 37)) 39 (A 39)) 40 (A 40)) 38 f = upA A 38 f := by rw [upA_i, upA_i, upA_i]
theorem cz_M36_0 {A : Nat → Nat → Int32} : upA (upA (upA (upA A 37 (A 37)) 39 (A 39)) 40 (A 40)) 38 (A 38) = A := by rw [upA_i, upA_i, upA_i, upA_i]
theorem cz_M41_42 {A : Nat → Nat → Int32} {f : Nat → Int32} : upA (upA (upA (upA A 42 f) 44 (A 44)) 45 (A 45)) 43 (A 43) = upA A 42 f := by rw [show A 44 = (upA A 42 f) 44 from rfl, upA_i, show A 45 = (upA A 42 f) 45 from rfl, upA_i, show A 43 = (upA A 42 f) 43 from rfl, upA_i]
theorem cz_M41_44 {A : Nat → Nat → Int32} {f : Nat → Int32} : upA (upA (upA (upA A 42 (A 42)) 44 f) 45 (A 45)) 43 (A 43) = upA A 44 f := by rw [upA_i, show A 45 = (upA A 44 f) 45 from rfl, upA_i, show A 43 = (upA A 44 f) 43 from rfl, upA_i]
theorem cz_M41_45 {A : Nat → Nat → Int32} {f : Nat → Int32} : upA (upA (upA (upA A 42 (A 42)) 44 (A 44)) 45 f) 43 (A 43) = upA A 45 f := by rw [upA_i, upA_i, show A 43 = (upA A 45 f) 43 from rfl, upA_i]
theorem cz_M41_43 {A : Nat → Nat → Int32} {f : Nat → Int32} : upA (upA (upA (upA A 42 (A 42)) 44 (A 44)) 45 (A 45)) 43 f = upA A 43 f := by rw [upA_i, upA_i, upA_i]
theorem cz_M41_0 {A : Nat → Nat → Int32} : upA (upA (upA (upA A 42 (A 42)) 44 (A 44)) 45 (A 45)) 43 (A 43) = A := by rw [upA_i, upA_i, upA_i, upA_i]
theorem cz_M46_47 {A : Nat → Nat → Int32} {f : Nat → Int32} : upA (upA (upA (upA A 47 f) 49 (A 49)) 50 (A 50)) 48 (A 48) = upA A 47 f := by rw [show A 49 = (upA A 47 f) 49 from rfl, upA_i, show A 50 = (upA A 47 f) 50 from rfl, upA_i, show A 48 = (upA A 47 f) 48 from rfl, upA_i]
theorem cz_M46_49 {A : Nat → Nat → Int32} {f : Nat → Int32} : upA (upA (upA (upA A 47 (A 47)) 49 f) 50 (A 50)) 48 (A 48) = upA A 49 f := by rw [upA_i, show A 50 = (upA A 49 f) 50 from rfl, upA_i, show A 48 = (upA A 49 f) 48 from rfl, upA_i]
theorem cz_M46_50 {A : Nat → Nat → Int32} {f : Nat → Int32} : upA (upA (upA (upA A 47 (A 47)) 49 (A 49)) 50 f) 48 (A 48) = upA A 50 f := by rw [upA_i, upA_i, show A 48 = (upA A 50 f) 48 from rfl, upA_i]
theorem cz_M46_48 {A : Nat → Nat → Int32} {f : Nat → Int32} : upA (upA (upA (upA A 47 (A 47)) 49 (A 49)) 50 (A 50)) 48 f = upA A 48 f := by rw [upA_i, upA_i, upA_i]
theorem cz_M46_0 {A : Nat → Nat → Int32} : upA (upA (upA (upA A 47 (A 47)) 49 (A 49)) 50 (A 50)) 48 (A 48) = A := by rw [upA_i, upA_i, upA_i, upA_i]
set_option maxRecDepth 100000 in
set_option maxHeartbeats 4000000 in
theorem cd_line36_4_0 {G : am_G} (I A : Nat → Nat → Int32) (n : Nat) (hn : I 4 4 = nI n) (hN : n ≤ 60) (i : Nat) (hi : i < n) (t : Nat) (ht : I 36 4 = nI t) (ht2 : t < 4000) (ek : A 5 i = nI 0) (x : Nat) (hx : x < 32) (ex : A 6 i = nI x) : Cm G MX4_lineBehind 3 68 [.ref 36, .ref 4, .int (nI i)] I A (fun r I' A' => ∃ q s', q ≤ 401 ∧ r = some (.int (nI q)) ∧ (q = (cz_d1 (A 5) (A 6) (A 7) (A 8) i (A 37) (A 39) (A 40) (cz_sl (A 38)) t).2.2.2.2.2 ∨ (n ≤ q ∧ n ≤ (cz_d1 (A 5) (A 6) (A 7) (A 8) i (A 37) (A 39) (A 40) (cz_sl (A 38)) t).2.2.2.2.2)) ∧ cz_sl s' = (cz_d1 (A 5) (A 6) (A 7) (A 8) i (A 37) (A 39) (A 40) (cz_sl (A 38)) t).2.2.2.1 ∧ upI I 36 4 (nI (cz_d1 (A 5) (A 6) (A 7) (A 8) i (A 37) (A 39) (A 40) (cz_sl (A 38)) t).2.2.2.2.1) = I' ∧ upA (upA (upA (upA A 37 (cz_d1 (A 5) (A 6) (A 7) (A 8) i (A 37) (A 39) (A 40) (cz_sl (A 38)) t).1) 39 (cz_d1 (A 5) (A 6) (A 7) (A 8) i (A 37) (A 39) (A 40) (cz_sl (A 38)) t).2.1) 40 (cz_d1 (A 5) (A 6) (A 7) (A 8) i (A 37) (A 39) (A 40) (cz_sl (A 38)) t).2.2.1) 38 s' = A') := by
  refine Cm.of (by decide) (Nat.le_of_ble_eq_true rfl) rfl ?_
  show V G MX4_lineBehind (am_R 3 68 0 0) _ 0 0 0 [(0, .ref 36), (1, .ref 4), (2, .int (nI i))] [] (hp I A)
  refine V.aload_n (j := 1) rfl dX4_lineBehind_0 ?_
  refine V.getr (q := 6) dX4_lineBehind_1 fX4_44 rfl rfl ?_
  refine V.iload_n (j := 2) rfl dX4_lineBehind_4 ?_
  refine V.lda (v := nI x) dX4_lineBehind_5 rfl (by omega) (by decide) ex ?_
  refine V.istore_n (ls' := [(0, .ref 36), (1, .ref 4), (2, .int (nI i)), (3, .int (nI x))]) dX4_lineBehind_6 (by decide) rfl ?_
  refine V.aload_n (j := 1) rfl dX4_lineBehind_7 ?_
  refine V.getr (q := 5) dX4_lineBehind_8 fX4_47 rfl rfl ?_
  refine V.iload_n (j := 2) rfl dX4_lineBehind_11 ?_
  refine V.lda (v := nI 0) dX4_lineBehind_12 rfl (by omega) (by decide) ek ?_
  refine V.tableOut (tgt := 84) dX4_lineBehind_13 (by decide) (by decide) ?_
  refine V.aload_n (j := 0) rfl dX4_lineBehind_84 ?_
  refine V.aload_n (j := 1) rfl dX4_lineBehind_85 ?_
  refine V.getr (q := 5) dX4_lineBehind_86 fX4_47 rfl rfl ?_
  refine V.iload_n (j := 2) rfl dX4_lineBehind_89 ?_
  refine V.lda (v := nI 0) dX4_lineBehind_90 rfl (by omega) (by decide) ek ?_
  refine V.iload_n (j := 3) rfl dX4_lineBehind_91 ?_
  refine V.aload_n (j := 1) rfl dX4_lineBehind_92 ?_
  refine V.getr (q := 7) dX4_lineBehind_93 fX4_50 rfl rfl ?_
  refine V.iload_n (j := 2) rfl dX4_lineBehind_96 ?_
  refine V.lda (v := A 7 i) dX4_lineBehind_97 rfl (by omega) (by decide) rfl ?_
  refine V.aload_n (j := 1) rfl dX4_lineBehind_98 ?_
  refine V.getr (q := 8) dX4_lineBehind_99 fX4_53 rfl rfl ?_
  refine V.iload_n (j := 2) rfl dX4_lineBehind_102 ?_
  refine V.lda (v := A 8 i) dX4_lineBehind_103 rfl (by omega) (by decide) rfl ?_
  refine V.cV (As := [.int (nI 0), .int (nI x), .int (A 7 i), .int (A 8 i)]) (st := []) dX4_lineBehind_104 sX4_56 iX4_act lX4_act rfl rfl (cd_act36_0 I A x hx _ _) ⟨by decide, by decide⟩ (Nat.le_of_ble_eq_true rfl) rfl (fun r I' A' hq => ?_)
  obtain ⟨rfl, rfl, rfl⟩ := hq
  refine V.st (st' := []) rfl ?_
  refine V.iload_n (j := 2) rfl dX4_lineBehind_107 ?_
  refine V.iconst (v := nI 1) (by decide) dX4_lineBehind_108 ?_
  refine V.iaddN dX4_lineBehind_109 ?_
  refine V.ri dX4_lineBehind_110 rfl ?_
  have ed : (A 5 i).toNatClampNeg = 0 := by rw [ek, nI_clamp (by omega)]
  have eD : cz_d1 (A 5) (A 6) (A 7) (A 8) i (A 37) (A 39) (A 40) (cz_sl (A 38)) t = (upd (A 37) x (A 7 i), A 39, A 40, cz_sl (A 38), t, i + 1) := by unfold cz_d1 mz_di1; rw [Nat.zero_add, cz_c_0, ed]; simp only [cz_c_1, cz_c_2, cz_c_3, ex, nI_clamp (show x < 2 ^ 31 by omega)]
  rw [eD]
  exact ⟨i + 1, A 38, by omega, rfl, Or.inl rfl, rfl, by rw [← ht, upI_i], cz_M36_37⟩
set_option maxRecDepth 100000 in
set_option maxHeartbeats 4000000 in
theorem cd_line36_4_1 {G : am_G} (I A : Nat → Nat → Int32) (n : Nat) (hn : I 4 4 = nI n) (hN : n ≤ 60) (i : Nat) (hi : i < n) (t : Nat) (ht : I 36 4 = nI t) (ht2 : t < 4000) (ek : A 5 i = nI 1) (x : Nat) (hx : x < 32) (ex : A 6 i = nI x) (y : Nat) (hy : y < 32) (ey : A 7 i = nI y) : Cm G MX4_lineBehind 3 68 [.ref 36, .ref 4, .int (nI i)] I A (fun r I' A' => ∃ q s', q ≤ 401 ∧ r = some (.int (nI q)) ∧ (q = (cz_d1 (A 5) (A 6) (A 7) (A 8) i (A 37) (A 39) (A 40) (cz_sl (A 38)) t).2.2.2.2.2 ∨ (n ≤ q ∧ n ≤ (cz_d1 (A 5) (A 6) (A 7) (A 8) i (A 37) (A 39) (A 40) (cz_sl (A 38)) t).2.2.2.2.2)) ∧ cz_sl s' = (cz_d1 (A 5) (A 6) (A 7) (A 8) i (A 37) (A 39) (A 40) (cz_sl (A 38)) t).2.2.2.1 ∧ upI I 36 4 (nI (cz_d1 (A 5) (A 6) (A 7) (A 8) i (A 37) (A 39) (A 40) (cz_sl (A 38)) t).2.2.2.2.1) = I' ∧ upA (upA (upA (upA A 37 (cz_d1 (A 5) (A 6) (A 7) (A 8) i (A 37) (A 39) (A 40) (cz_sl (A 38)) t).1) 39 (cz_d1 (A 5) (A 6) (A 7) (A 8) i (A 37) (A 39) (A 40) (cz_sl (A 38)) t).2.1) 40 (cz_d1 (A 5) (A 6) (A 7) (A 8) i (A 37) (A 39) (A 40) (cz_sl (A 38)) t).2.2.1) 38 s' = A') := by
  refine Cm.of (by decide) (Nat.le_of_ble_eq_true rfl) rfl ?_
  show V G MX4_lineBehind (am_R 3 68 0 0) _ 0 0 0 [(0, .ref 36), (1, .ref 4), (2, .int (nI i))] [] (hp I A)
  refine V.aload_n (j := 1) rfl dX4_lineBehind_0 ?_
  refine V.getr (q := 6) dX4_lineBehind_1 fX4_44 rfl rfl ?_
  refine V.iload_n (j := 2) rfl dX4_lineBehind_4 ?_
  refine V.lda (v := nI x) dX4_lineBehind_5 rfl (by omega) (by decide) ex ?_
  refine V.istore_n (ls' := [(0, .ref 36), (1, .ref 4), (2, .int (nI i)), (3, .int (nI x))]) dX4_lineBehind_6 (by decide) rfl ?_
  refine V.aload_n (j := 1) rfl dX4_lineBehind_7 ?_
  refine V.getr (q := 5) dX4_lineBehind_8 fX4_47 rfl rfl ?_
  refine V.iload_n (j := 2) rfl dX4_lineBehind_11 ?_
  refine V.lda (v := nI 1) dX4_lineBehind_12 rfl (by omega) (by decide) ek ?_
  refine V.tableOut (tgt := 84) dX4_lineBehind_13 (by decide) (by decide) ?_
  refine V.aload_n (j := 0) rfl dX4_lineBehind_84 ?_
  refine V.aload_n (j := 1) rfl dX4_lineBehind_85 ?_
  refine V.getr (q := 5) dX4_lineBehind_86 fX4_47 rfl rfl ?_
  refine V.iload_n (j := 2) rfl dX4_lineBehind_89 ?_
  refine V.lda (v := nI 1) dX4_lineBehind_90 rfl (by omega) (by decide) ek ?_
  refine V.iload_n (j := 3) rfl dX4_lineBehind_91 ?_
  refine V.aload_n (j := 1) rfl dX4_lineBehind_92 ?_
  refine V.getr (q := 7) dX4_lineBehind_93 fX4_50 rfl rfl ?_
  refine V.iload_n (j := 2) rfl dX4_lineBehind_96 ?_
  refine V.lda (v := nI y) dX4_lineBehind_97 rfl (by omega) (by decide) ey ?_
  refine V.aload_n (j := 1) rfl dX4_lineBehind_98 ?_
  refine V.getr (q := 8) dX4_lineBehind_99 fX4_53 rfl rfl ?_
  refine V.iload_n (j := 2) rfl dX4_lineBehind_102 ?_
  refine V.lda (v := A 8 i) dX4_lineBehind_103 rfl (by omega) (by decide) rfl ?_
  refine V.cV (As := [.int (nI 1), .int (nI x), .int (nI y), .int (A 8 i)]) (st := []) dX4_lineBehind_104 sX4_56 iX4_act lX4_act rfl rfl (cd_act36_1 I A x hx y hy _) ⟨by decide, by decide⟩ (Nat.le_of_ble_eq_true rfl) rfl (fun r I' A' hq => ?_)
  obtain ⟨rfl, rfl, rfl⟩ := hq
  refine V.st (st' := []) rfl ?_
  refine V.iload_n (j := 2) rfl dX4_lineBehind_107 ?_
  refine V.iconst (v := nI 1) (by decide) dX4_lineBehind_108 ?_
  refine V.iaddN dX4_lineBehind_109 ?_
  refine V.ri dX4_lineBehind_110 rfl ?_
  have ed : (A 5 i).toNatClampNeg = 1 := by rw [ek, nI_clamp (by omega)]
  have eD : cz_d1 (A 5) (A 6) (A 7) (A 8) i (A 37) (A 39) (A 40) (cz_sl (A 38)) t = (upd (A 37) x (A 37 y), A 39, A 40, cz_sl (A 38), t, i + 1) := by unfold cz_d1 mz_di1; rw [Nat.zero_add, cz_c_0, ed]; simp only [cz_c_1, cz_c_2, cz_c_3, ex, ey, nI_clamp (show x < 2 ^ 31 by omega), nI_clamp (show y < 2 ^ 31 by omega)]
  rw [eD]
  exact ⟨i + 1, A 38, by omega, rfl, Or.inl rfl, rfl, by rw [← ht, upI_i], cz_M36_37⟩
set_option maxRecDepth 100000 in
set_option maxHeartbeats 4000000 in
theorem cd_line36_4_2 {G : am_G} (I A : Nat → Nat → Int32) (n : Nat) (hn : I 4 4 = nI n) (hN : n ≤ 60) (i : Nat) (hi : i < n) (t : Nat) (ht : I 36 4 = nI t) (ht2 : t < 4000) (ek : A 5 i = nI 2) (x : Nat) (hx : x < 32) (ex : A 6 i = nI x) (y : Nat) (hy : y < 32) (ey : A 7 i = nI y) (z : Nat) (hz : z < 32) (ez : A 8 i = nI z) : Cm G MX4_lineBehind 3 68 [.ref 36, .ref 4, .int (nI i)] I A (fun r I' A' => ∃ q s', q ≤ 401 ∧ r = some (.int (nI q)) ∧ (q = (cz_d1 (A 5) (A 6) (A 7) (A 8) i (A 37) (A 39) (A 40) (cz_sl (A 38)) t).2.2.2.2.2 ∨ (n ≤ q ∧ n ≤ (cz_d1 (A 5) (A 6) (A 7) (A 8) i (A 37) (A 39) (A 40) (cz_sl (A 38)) t).2.2.2.2.2)) ∧ cz_sl s' = (cz_d1 (A 5) (A 6) (A 7) (A 8) i (A 37) (A 39) (A 40) (cz_sl (A 38)) t).2.2.2.1 ∧ upI I 36 4 (nI (cz_d1 (A 5) (A 6) (A 7) (A 8) i (A 37) (A 39) (A 40) (cz_sl (A 38)) t).2.2.2.2.1) = I' ∧ upA (upA (upA (upA A 37 (cz_d1 (A 5) (A 6) (A 7) (A 8) i (A 37) (A 39) (A 40) (cz_sl (A 38)) t).1) 39 (cz_d1 (A 5) (A 6) (A 7) (A 8) i (A 37) (A 39) (A 40) (cz_sl (A 38)) t).2.1) 40 (cz_d1 (A 5) (A 6) (A 7) (A 8) i (A 37) (A 39) (A 40) (cz_sl (A 38)) t).2.2.1) 38 s' = A') := by
  refine Cm.of (by decide) (Nat.le_of_ble_eq_true rfl) rfl ?_
  show V G MX4_lineBehind (am_R 3 68 0 0) _ 0 0 0 [(0, .ref 36), (1, .ref 4), (2, .int (nI i))] [] (hp I A)
  refine V.aload_n (j := 1) rfl dX4_lineBehind_0 ?_
  refine V.getr (q := 6) dX4_lineBehind_1 fX4_44 rfl rfl ?_
  refine V.iload_n (j := 2) rfl dX4_lineBehind_4 ?_
  refine V.lda (v := nI x) dX4_lineBehind_5 rfl (by omega) (by decide) ex ?_
  refine V.istore_n (ls' := [(0, .ref 36), (1, .ref 4), (2, .int (nI i)), (3, .int (nI x))]) dX4_lineBehind_6 (by decide) rfl ?_
  refine V.aload_n (j := 1) rfl dX4_lineBehind_7 ?_
  refine V.getr (q := 5) dX4_lineBehind_8 fX4_47 rfl rfl ?_
  refine V.iload_n (j := 2) rfl dX4_lineBehind_11 ?_
  refine V.lda (v := nI 2) dX4_lineBehind_12 rfl (by omega) (by decide) ek ?_
  refine V.tableOut (tgt := 84) dX4_lineBehind_13 (by decide) (by decide) ?_
  refine V.aload_n (j := 0) rfl dX4_lineBehind_84 ?_
  refine V.aload_n (j := 1) rfl dX4_lineBehind_85 ?_
  refine V.getr (q := 5) dX4_lineBehind_86 fX4_47 rfl rfl ?_
  refine V.iload_n (j := 2) rfl dX4_lineBehind_89 ?_
  refine V.lda (v := nI 2) dX4_lineBehind_90 rfl (by omega) (by decide) ek ?_
  refine V.iload_n (j := 3) rfl dX4_lineBehind_91 ?_
  refine V.aload_n (j := 1) rfl dX4_lineBehind_92 ?_
  refine V.getr (q := 7) dX4_lineBehind_93 fX4_50 rfl rfl ?_
  refine V.iload_n (j := 2) rfl dX4_lineBehind_96 ?_
  refine V.lda (v := nI y) dX4_lineBehind_97 rfl (by omega) (by decide) ey ?_
  refine V.aload_n (j := 1) rfl dX4_lineBehind_98 ?_
  refine V.getr (q := 8) dX4_lineBehind_99 fX4_53 rfl rfl ?_
  refine V.iload_n (j := 2) rfl dX4_lineBehind_102 ?_
  refine V.lda (v := nI z) dX4_lineBehind_103 rfl (by omega) (by decide) ez ?_
  refine V.cV (As := [.int (nI 2), .int (nI x), .int (nI y), .int (nI z)]) (st := []) dX4_lineBehind_104 sX4_56 iX4_act lX4_act rfl rfl (cd_act36_2 I A x hx y hy z hz) ⟨by decide, by decide⟩ (Nat.le_of_ble_eq_true rfl) rfl (fun r I' A' hq => ?_)
  obtain ⟨rfl, rfl, rfl⟩ := hq
  refine V.st (st' := []) rfl ?_
  refine V.iload_n (j := 2) rfl dX4_lineBehind_107 ?_
  refine V.iconst (v := nI 1) (by decide) dX4_lineBehind_108 ?_
  refine V.iaddN dX4_lineBehind_109 ?_
  refine V.ri dX4_lineBehind_110 rfl ?_
  have ed : (A 5 i).toNatClampNeg = 2 := by rw [ek, nI_clamp (by omega)]
  have eD : cz_d1 (A 5) (A 6) (A 7) (A 8) i (A 37) (A 39) (A 40) (cz_sl (A 38)) t = (upd (A 37) x (mz_rk (nI 2) (A 37 y) (A 37 z)), A 39, A 40, cz_sl (A 38), t, i + 1) := by unfold cz_d1 mz_di1; rw [Nat.zero_add, cz_c_0, ed]; simp only [cz_c_1, cz_c_2, cz_c_3, ex, ey, ez, nI_clamp (show x < 2 ^ 31 by omega), nI_clamp (show y < 2 ^ 31 by omega), nI_clamp (show z < 2 ^ 31 by omega)]
  rw [eD]
  exact ⟨i + 1, A 38, by omega, rfl, Or.inl rfl, rfl, by rw [← ht, upI_i], (by rw [mz_rk2]; exact cz_M36_37)⟩
set_option maxRecDepth 100000 in
set_option maxHeartbeats 4000000 in
theorem cd_line36_4_3 {G : am_G} (I A : Nat → Nat → Int32) (n : Nat) (hn : I 4 4 = nI n) (hN : n ≤ 60) (i : Nat) (hi : i < n) (t : Nat) (ht : I 36 4 = nI t) (ht2 : t < 4000) (ek : A 5 i = nI 3) (x : Nat) (hx : x < 32) (ex : A 6 i = nI x) (y : Nat) (hy : y < 32) (ey : A 7 i = nI y) (z : Nat) (hz : z < 32) (ez : A 8 i = nI z) : Cm G MX4_lineBehind 3 68 [.ref 36, .ref 4, .int (nI i)] I A (fun r I' A' => ∃ q s', q ≤ 401 ∧ r = some (.int (nI q)) ∧ (q = (cz_d1 (A 5) (A 6) (A 7) (A 8) i (A 37) (A 39) (A 40) (cz_sl (A 38)) t).2.2.2.2.2 ∨ (n ≤ q ∧ n ≤ (cz_d1 (A 5) (A 6) (A 7) (A 8) i (A 37) (A 39) (A 40) (cz_sl (A 38)) t).2.2.2.2.2)) ∧ cz_sl s' = (cz_d1 (A 5) (A 6) (A 7) (A 8) i (A 37) (A 39) (A 40) (cz_sl (A 38)) t).2.2.2.1 ∧ upI I 36 4 (nI (cz_d1 (A 5) (A 6) (A 7) (A 8) i (A 37) (A 39) (A 40) (cz_sl (A 38)) t).2.2.2.2.1) = I' ∧ upA (upA (upA (upA A 37 (cz_d1 (A 5) (A 6) (A 7) (A 8) i (A 37) (A 39) (A 40) (cz_sl (A 38)) t).1) 39 (cz_d1 (A 5) (A 6) (A 7) (A 8) i (A 37) (A 39) (A 40) (cz_sl (A 38)) t).2.1) 40 (cz_d1 (A 5) (A 6) (A 7) (A 8) i (A 37) (A 39) (A 40) (cz_sl (A 38)) t).2.2.1) 38 s' = A') := by
  refine Cm.of (by decide) (Nat.le_of_ble_eq_true rfl) rfl ?_
  show V G MX4_lineBehind (am_R 3 68 0 0) _ 0 0 0 [(0, .ref 36), (1, .ref 4), (2, .int (nI i))] [] (hp I A)
  refine V.aload_n (j := 1) rfl dX4_lineBehind_0 ?_
  refine V.getr (q := 6) dX4_lineBehind_1 fX4_44 rfl rfl ?_
  refine V.iload_n (j := 2) rfl dX4_lineBehind_4 ?_
  refine V.lda (v := nI x) dX4_lineBehind_5 rfl (by omega) (by decide) ex ?_
  refine V.istore_n (ls' := [(0, .ref 36), (1, .ref 4), (2, .int (nI i)), (3, .int (nI x))]) dX4_lineBehind_6 (by decide) rfl ?_
  refine V.aload_n (j := 1) rfl dX4_lineBehind_7 ?_
  refine V.getr (q := 5) dX4_lineBehind_8 fX4_47 rfl rfl ?_
  refine V.iload_n (j := 2) rfl dX4_lineBehind_11 ?_
  refine V.lda (v := nI 3) dX4_lineBehind_12 rfl (by omega) (by decide) ek ?_
  refine V.tableOut (tgt := 84) dX4_lineBehind_13 (by decide) (by decide) ?_
  refine V.aload_n (j := 0) rfl dX4_lineBehind_84 ?_
  refine V.aload_n (j := 1) rfl dX4_lineBehind_85 ?_
  refine V.getr (q := 5) dX4_lineBehind_86 fX4_47 rfl rfl ?_
  refine V.iload_n (j := 2) rfl dX4_lineBehind_89 ?_
  refine V.lda (v := nI 3) dX4_lineBehind_90 rfl (by omega) (by decide) ek ?_
  refine V.iload_n (j := 3) rfl dX4_lineBehind_91 ?_
  refine V.aload_n (j := 1) rfl dX4_lineBehind_92 ?_
  refine V.getr (q := 7) dX4_lineBehind_93 fX4_50 rfl rfl ?_
  refine V.iload_n (j := 2) rfl dX4_lineBehind_96 ?_
  refine V.lda (v := nI y) dX4_lineBehind_97 rfl (by omega) (by decide) ey ?_
  refine V.aload_n (j := 1) rfl dX4_lineBehind_98 ?_
  refine V.getr (q := 8) dX4_lineBehind_99 fX4_53 rfl rfl ?_
  refine V.iload_n (j := 2) rfl dX4_lineBehind_102 ?_
  refine V.lda (v := nI z) dX4_lineBehind_103 rfl (by omega) (by decide) ez ?_
  refine V.cV (As := [.int (nI 3), .int (nI x), .int (nI y), .int (nI z)]) (st := []) dX4_lineBehind_104 sX4_56 iX4_act lX4_act rfl rfl (cd_act36_3 I A x hx y hy z hz) ⟨by decide, by decide⟩ (Nat.le_of_ble_eq_true rfl) rfl (fun r I' A' hq => ?_)
  obtain ⟨rfl, rfl, rfl⟩ := hq
  refine V.st (st' := []) rfl ?_
  refine V.iload_n (j := 2) rfl dX4_lineBehind_107 ?_
  refine V.iconst (v := nI 1) (by decide) dX4_lineBehind_108 ?_
  refine V.iaddN dX4_lineBehind_109 ?_
  refine V.ri dX4_lineBehind_110 rfl ?_
  have ed : (A 5 i).toNatClampNeg = 3 := by rw [ek, nI_clamp (by omega)]
  have eD : cz_d1 (A 5) (A 6) (A 7) (A 8) i (A 37) (A 39) (A 40) (cz_sl (A 38)) t = (upd (A 37) x (mz_rk (nI 3) (A 37 y) (A 37 z)), A 39, A 40, cz_sl (A 38), t, i + 1) := by unfold cz_d1 mz_di1; rw [Nat.zero_add, cz_c_0, ed]; simp only [cz_c_1, cz_c_2, cz_c_3, ex, ey, ez, nI_clamp (show x < 2 ^ 31 by omega), nI_clamp (show y < 2 ^ 31 by omega), nI_clamp (show z < 2 ^ 31 by omega)]
  rw [eD]
  exact ⟨i + 1, A 38, by omega, rfl, Or.inl rfl, rfl, by rw [← ht, upI_i], (by rw [mz_rk3]; exact cz_M36_37)⟩
set_option maxRecDepth 100000 in
set_option maxHeartbeats 4000000 in
theorem cd_line36_4_4 {G : am_G} (I A : Nat → Nat → Int32) (n : Nat) (hn : I 4 4 = nI n) (hN : n ≤ 60) (i : Nat) (hi : i < n) (t : Nat) (ht : I 36 4 = nI t) (ht2 : t < 4000) (ek : A 5 i = nI 4) (x : Nat) (hx : x < 32) (ex : A 6 i = nI x) (y : Nat) (hy : y < 32) (ey : A 7 i = nI y) (z : Nat) (hz : z < 32) (ez : A 8 i = nI z) : Cm G MX4_lineBehind 3 68 [.ref 36, .ref 4, .int (nI i)] I A (fun r I' A' => ∃ q s', q ≤ 401 ∧ r = some (.int (nI q)) ∧ (q = (cz_d1 (A 5) (A 6) (A 7) (A 8) i (A 37) (A 39) (A 40) (cz_sl (A 38)) t).2.2.2.2.2 ∨ (n ≤ q ∧ n ≤ (cz_d1 (A 5) (A 6) (A 7) (A 8) i (A 37) (A 39) (A 40) (cz_sl (A 38)) t).2.2.2.2.2)) ∧ cz_sl s' = (cz_d1 (A 5) (A 6) (A 7) (A 8) i (A 37) (A 39) (A 40) (cz_sl (A 38)) t).2.2.2.1 ∧ upI I 36 4 (nI (cz_d1 (A 5) (A 6) (A 7) (A 8) i (A 37) (A 39) (A 40) (cz_sl (A 38)) t).2.2.2.2.1) = I' ∧ upA (upA (upA (upA A 37 (cz_d1 (A 5) (A 6) (A 7) (A 8) i (A 37) (A 39) (A 40) (cz_sl (A 38)) t).1) 39 (cz_d1 (A 5) (A 6) (A 7) (A 8) i (A 37) (A 39) (A 40) (cz_sl (A 38)) t).2.1) 40 (cz_d1 (A 5) (A 6) (A 7) (A 8) i (A 37) (A 39) (A 40) (cz_sl (A 38)) t).2.2.1) 38 s' = A') := by
  refine Cm.of (by decide) (Nat.le_of_ble_eq_true rfl) rfl ?_
  show V G MX4_lineBehind (am_R 3 68 0 0) _ 0 0 0 [(0, .ref 36), (1, .ref 4), (2, .int (nI i))] [] (hp I A)
  refine V.aload_n (j := 1) rfl dX4_lineBehind_0 ?_
  refine V.getr (q := 6) dX4_lineBehind_1 fX4_44 rfl rfl ?_
  refine V.iload_n (j := 2) rfl dX4_lineBehind_4 ?_
  refine V.lda (v := nI x) dX4_lineBehind_5 rfl (by omega) (by decide) ex ?_
  refine V.istore_n (ls' := [(0, .ref 36), (1, .ref 4), (2, .int (nI i)), (3, .int (nI x))]) dX4_lineBehind_6 (by decide) rfl ?_
  refine V.aload_n (j := 1) rfl dX4_lineBehind_7 ?_
  refine V.getr (q := 5) dX4_lineBehind_8 fX4_47 rfl rfl ?_
  refine V.iload_n (j := 2) rfl dX4_lineBehind_11 ?_
  refine V.lda (v := nI 4) dX4_lineBehind_12 rfl (by omega) (by decide) ek ?_
  refine V.tableOut (tgt := 84) dX4_lineBehind_13 (by decide) (by decide) ?_
  refine V.aload_n (j := 0) rfl dX4_lineBehind_84 ?_
  refine V.aload_n (j := 1) rfl dX4_lineBehind_85 ?_
  refine V.getr (q := 5) dX4_lineBehind_86 fX4_47 rfl rfl ?_
  refine V.iload_n (j := 2) rfl dX4_lineBehind_89 ?_
  refine V.lda (v := nI 4) dX4_lineBehind_90 rfl (by omega) (by decide) ek ?_
  refine V.iload_n (j := 3) rfl dX4_lineBehind_91 ?_
  refine V.aload_n (j := 1) rfl dX4_lineBehind_92 ?_
  refine V.getr (q := 7) dX4_lineBehind_93 fX4_50 rfl rfl ?_
  refine V.iload_n (j := 2) rfl dX4_lineBehind_96 ?_
  refine V.lda (v := nI y) dX4_lineBehind_97 rfl (by omega) (by decide) ey ?_
  refine V.aload_n (j := 1) rfl dX4_lineBehind_98 ?_
  refine V.getr (q := 8) dX4_lineBehind_99 fX4_53 rfl rfl ?_
  refine V.iload_n (j := 2) rfl dX4_lineBehind_102 ?_
  refine V.lda (v := nI z) dX4_lineBehind_103 rfl (by omega) (by decide) ez ?_
  refine V.cV (As := [.int (nI 4), .int (nI x), .int (nI y), .int (nI z)]) (st := []) dX4_lineBehind_104 sX4_56 iX4_act lX4_act rfl rfl (cd_act36_4 I A x hx y hy z hz) ⟨by decide, by decide⟩ (Nat.le_of_ble_eq_true rfl) rfl (fun r I' A' hq => ?_)
  obtain ⟨rfl, rfl, rfl⟩ := hq
  refine V.st (st' := []) rfl ?_
  refine V.iload_n (j := 2) rfl dX4_lineBehind_107 ?_
  refine V.iconst (v := nI 1) (by decide) dX4_lineBehind_108 ?_
  refine V.iaddN dX4_lineBehind_109 ?_
  refine V.ri dX4_lineBehind_110 rfl ?_
  have ed : (A 5 i).toNatClampNeg = 4 := by rw [ek, nI_clamp (by omega)]
  have eD : cz_d1 (A 5) (A 6) (A 7) (A 8) i (A 37) (A 39) (A 40) (cz_sl (A 38)) t = (upd (A 37) x (mz_rk (nI 4) (A 37 y) (A 37 z)), A 39, A 40, cz_sl (A 38), t, i + 1) := by unfold cz_d1 mz_di1; rw [Nat.zero_add, cz_c_0, ed]; simp only [cz_c_1, cz_c_2, cz_c_3, ex, ey, ez, nI_clamp (show x < 2 ^ 31 by omega), nI_clamp (show y < 2 ^ 31 by omega), nI_clamp (show z < 2 ^ 31 by omega)]
  rw [eD]
  exact ⟨i + 1, A 38, by omega, rfl, Or.inl rfl, rfl, by rw [← ht, upI_i], (by rw [mz_rk4]; exact cz_M36_37)⟩
set_option maxRecDepth 100000 in
set_option maxHeartbeats 4000000 in
theorem cd_line36_4_5 {G : am_G} (I A : Nat → Nat → Int32) (n : Nat) (hn : I 4 4 = nI n) (hN : n ≤ 60) (i : Nat) (hi : i < n) (t : Nat) (ht : I 36 4 = nI t) (ht2 : t < 4000) (ek : A 5 i = nI 5) (x : Nat) (hx : x < 32) (ex : A 6 i = nI x) (y : Nat) (hy : y < 32) (ey : A 7 i = nI y) : Cm G MX4_lineBehind 3 68 [.ref 36, .ref 4, .int (nI i)] I A (fun r I' A' => ∃ q s', q ≤ 401 ∧ r = some (.int (nI q)) ∧ (q = (cz_d1 (A 5) (A 6) (A 7) (A 8) i (A 37) (A 39) (A 40) (cz_sl (A 38)) t).2.2.2.2.2 ∨ (n ≤ q ∧ n ≤ (cz_d1 (A 5) (A 6) (A 7) (A 8) i (A 37) (A 39) (A 40) (cz_sl (A 38)) t).2.2.2.2.2)) ∧ cz_sl s' = (cz_d1 (A 5) (A 6) (A 7) (A 8) i (A 37) (A 39) (A 40) (cz_sl (A 38)) t).2.2.2.1 ∧ upI I 36 4 (nI (cz_d1 (A 5) (A 6) (A 7) (A 8) i (A 37) (A 39) (A 40) (cz_sl (A 38)) t).2.2.2.2.1) = I' ∧ upA (upA (upA (upA A 37 (cz_d1 (A 5) (A 6) (A 7) (A 8) i (A 37) (A 39) (A 40) (cz_sl (A 38)) t).1) 39 (cz_d1 (A 5) (A 6) (A 7) (A 8) i (A 37) (A 39) (A 40) (cz_sl (A 38)) t).2.1) 40 (cz_d1 (A 5) (A 6) (A 7) (A 8) i (A 37) (A 39) (A 40) (cz_sl (A 38)) t).2.2.1) 38 s' = A') := by
  refine Cm.of (by decide) (Nat.le_of_ble_eq_true rfl) rfl ?_
  show V G MX4_lineBehind (am_R 3 68 0 0) _ 0 0 0 [(0, .ref 36), (1, .ref 4), (2, .int (nI i))] [] (hp I A)
  refine V.aload_n (j := 1) rfl dX4_lineBehind_0 ?_
  refine V.getr (q := 6) dX4_lineBehind_1 fX4_44 rfl rfl ?_
  refine V.iload_n (j := 2) rfl dX4_lineBehind_4 ?_
  refine V.lda (v := nI x) dX4_lineBehind_5 rfl (by omega) (by decide) ex ?_
  refine V.istore_n (ls' := [(0, .ref 36), (1, .ref 4), (2, .int (nI i)), (3, .int (nI x))]) dX4_lineBehind_6 (by decide) rfl ?_
  refine V.aload_n (j := 1) rfl dX4_lineBehind_7 ?_
  refine V.getr (q := 5) dX4_lineBehind_8 fX4_47 rfl rfl ?_
  refine V.iload_n (j := 2) rfl dX4_lineBehind_11 ?_
  refine V.lda (v := nI 5) dX4_lineBehind_12 rfl (by omega) (by decide) ek ?_
  refine V.tableOut (tgt := 84) dX4_lineBehind_13 (by decide) (by decide) ?_
  refine V.aload_n (j := 0) rfl dX4_lineBehind_84 ?_
  refine V.aload_n (j := 1) rfl dX4_lineBehind_85 ?_
  refine V.getr (q := 5) dX4_lineBehind_86 fX4_47 rfl rfl ?_
  refine V.iload_n (j := 2) rfl dX4_lineBehind_89 ?_
  refine V.lda (v := nI 5) dX4_lineBehind_90 rfl (by omega) (by decide) ek ?_
  refine V.iload_n (j := 3) rfl dX4_lineBehind_91 ?_
  refine V.aload_n (j := 1) rfl dX4_lineBehind_92 ?_
  refine V.getr (q := 7) dX4_lineBehind_93 fX4_50 rfl rfl ?_
  refine V.iload_n (j := 2) rfl dX4_lineBehind_96 ?_
  refine V.lda (v := nI y) dX4_lineBehind_97 rfl (by omega) (by decide) ey ?_
  refine V.aload_n (j := 1) rfl dX4_lineBehind_98 ?_
  refine V.getr (q := 8) dX4_lineBehind_99 fX4_53 rfl rfl ?_
  refine V.iload_n (j := 2) rfl dX4_lineBehind_102 ?_
  refine V.lda (v := A 8 i) dX4_lineBehind_103 rfl (by omega) (by decide) rfl ?_
  refine V.cV (As := [.int (nI 5), .int (nI x), .int (nI y), .int (A 8 i)]) (st := []) dX4_lineBehind_104 sX4_56 iX4_act lX4_act rfl rfl (cd_act36_5 I A x hx y hy _) ⟨by decide, by decide⟩ (Nat.le_of_ble_eq_true rfl) rfl (fun r I' A' hq => ?_)
  obtain ⟨rfl, rfl, rfl⟩ := hq
  refine V.st (st' := []) rfl ?_
  refine V.iload_n (j := 2) rfl dX4_lineBehind_107 ?_
  refine V.iconst (v := nI 1) (by decide) dX4_lineBehind_108 ?_
  refine V.iaddN dX4_lineBehind_109 ?_
  refine V.ri dX4_lineBehind_110 rfl ?_
  have ed : (A 5 i).toNatClampNeg = 5 := by rw [ek, nI_clamp (by omega)]
  have eD : cz_d1 (A 5) (A 6) (A 7) (A 8) i (A 37) (A 39) (A 40) (cz_sl (A 38)) t = (upd (A 37) x (A 39 (mz_cl (A 37 y + A 8 i))), A 39, A 40, cz_sl (A 38), t, i + 1) := by unfold cz_d1 mz_di1; rw [Nat.zero_add, cz_c_0, ed]; simp only [cz_c_1, cz_c_2, cz_c_3, ex, ey, nI_clamp (show x < 2 ^ 31 by omega), nI_clamp (show y < 2 ^ 31 by omega)]
  rw [eD]
  exact ⟨i + 1, A 38, by omega, rfl, Or.inl rfl, rfl, by rw [← ht, upI_i], cz_M36_37⟩
set_option maxRecDepth 100000 in
set_option maxHeartbeats 4000000 in
theorem cd_line36_4_6 {G : am_G} (I A : Nat → Nat → Int32) (n : Nat) (hn : I 4 4 = nI n) (hN : n ≤ 60) (i : Nat) (hi : i < n) (t : Nat) (ht : I 36 4 = nI t) (ht2 : t < 4000) (ek : A 5 i = nI 6) (x : Nat) (hx : x < 32) (ex : A 6 i = nI x) (y : Nat) (hy : y < 32) (ey : A 7 i = nI y) : Cm G MX4_lineBehind 3 68 [.ref 36, .ref 4, .int (nI i)] I A (fun r I' A' => ∃ q s', q ≤ 401 ∧ r = some (.int (nI q)) ∧ (q = (cz_d1 (A 5) (A 6) (A 7) (A 8) i (A 37) (A 39) (A 40) (cz_sl (A 38)) t).2.2.2.2.2 ∨ (n ≤ q ∧ n ≤ (cz_d1 (A 5) (A 6) (A 7) (A 8) i (A 37) (A 39) (A 40) (cz_sl (A 38)) t).2.2.2.2.2)) ∧ cz_sl s' = (cz_d1 (A 5) (A 6) (A 7) (A 8) i (A 37) (A 39) (A 40) (cz_sl (A 38)) t).2.2.2.1 ∧ upI I 36 4 (nI (cz_d1 (A 5) (A 6) (A 7) (A 8) i (A 37) (A 39) (A 40) (cz_sl (A 38)) t).2.2.2.2.1) = I' ∧ upA (upA (upA (upA A 37 (cz_d1 (A 5) (A 6) (A 7) (A 8) i (A 37) (A 39) (A 40) (cz_sl (A 38)) t).1) 39 (cz_d1 (A 5) (A 6) (A 7) (A 8) i (A 37) (A 39) (A 40) (cz_sl (A 38)) t).2.1) 40 (cz_d1 (A 5) (A 6) (A 7) (A 8) i (A 37) (A 39) (A 40) (cz_sl (A 38)) t).2.2.1) 38 s' = A') := by
  refine Cm.of (by decide) (Nat.le_of_ble_eq_true rfl) rfl ?_
  show V G MX4_lineBehind (am_R 3 68 0 0) _ 0 0 0 [(0, .ref 36), (1, .ref 4), (2, .int (nI i))] [] (hp I A)
  refine V.aload_n (j := 1) rfl dX4_lineBehind_0 ?_
  refine V.getr (q := 6) dX4_lineBehind_1 fX4_44 rfl rfl ?_
  refine V.iload_n (j := 2) rfl dX4_lineBehind_4 ?_
  refine V.lda (v := nI x) dX4_lineBehind_5 rfl (by omega) (by decide) ex ?_
  refine V.istore_n (ls' := [(0, .ref 36), (1, .ref 4), (2, .int (nI i)), (3, .int (nI x))]) dX4_lineBehind_6 (by decide) rfl ?_
  refine V.aload_n (j := 1) rfl dX4_lineBehind_7 ?_
  refine V.getr (q := 5) dX4_lineBehind_8 fX4_47 rfl rfl ?_
  refine V.iload_n (j := 2) rfl dX4_lineBehind_11 ?_
  refine V.lda (v := nI 6) dX4_lineBehind_12 rfl (by omega) (by decide) ek ?_
  refine V.tableOut (tgt := 84) dX4_lineBehind_13 (by decide) (by decide) ?_
  refine V.aload_n (j := 0) rfl dX4_lineBehind_84 ?_
  refine V.aload_n (j := 1) rfl dX4_lineBehind_85 ?_
  refine V.getr (q := 5) dX4_lineBehind_86 fX4_47 rfl rfl ?_
  refine V.iload_n (j := 2) rfl dX4_lineBehind_89 ?_
  refine V.lda (v := nI 6) dX4_lineBehind_90 rfl (by omega) (by decide) ek ?_
  refine V.iload_n (j := 3) rfl dX4_lineBehind_91 ?_
  refine V.aload_n (j := 1) rfl dX4_lineBehind_92 ?_
  refine V.getr (q := 7) dX4_lineBehind_93 fX4_50 rfl rfl ?_
  refine V.iload_n (j := 2) rfl dX4_lineBehind_96 ?_
  refine V.lda (v := nI y) dX4_lineBehind_97 rfl (by omega) (by decide) ey ?_
  refine V.aload_n (j := 1) rfl dX4_lineBehind_98 ?_
  refine V.getr (q := 8) dX4_lineBehind_99 fX4_53 rfl rfl ?_
  refine V.iload_n (j := 2) rfl dX4_lineBehind_102 ?_
  refine V.lda (v := A 8 i) dX4_lineBehind_103 rfl (by omega) (by decide) rfl ?_
  refine V.cV (As := [.int (nI 6), .int (nI x), .int (nI y), .int (A 8 i)]) (st := []) dX4_lineBehind_104 sX4_56 iX4_act lX4_act rfl rfl (cd_act36_6 I A x hx y hy _) ⟨by decide, by decide⟩ (Nat.le_of_ble_eq_true rfl) rfl (fun r I' A' hq => ?_)
  obtain ⟨rfl, rfl, rfl⟩ := hq
  refine V.st (st' := []) rfl ?_
  refine V.iload_n (j := 2) rfl dX4_lineBehind_107 ?_
  refine V.iconst (v := nI 1) (by decide) dX4_lineBehind_108 ?_
  refine V.iaddN dX4_lineBehind_109 ?_
  refine V.ri dX4_lineBehind_110 rfl ?_
  have ed : (A 5 i).toNatClampNeg = 6 := by rw [ek, nI_clamp (by omega)]
  have eD : cz_d1 (A 5) (A 6) (A 7) (A 8) i (A 37) (A 39) (A 40) (cz_sl (A 38)) t = (A 37, upd (A 39) (mz_cl (A 37 y + A 8 i)) (A 37 x), A 40, cz_sl (A 38), t, i + 1) := by unfold cz_d1 mz_di1; rw [Nat.zero_add, cz_c_0, ed]; simp only [cz_c_1, cz_c_2, cz_c_3, ex, ey, nI_clamp (show x < 2 ^ 31 by omega), nI_clamp (show y < 2 ^ 31 by omega)]
  rw [eD]
  exact ⟨i + 1, A 38, by omega, rfl, Or.inl rfl, rfl, by rw [← ht, upI_i], cz_M36_39⟩
set_option maxRecDepth 100000 in
set_option maxHeartbeats 4000000 in
theorem cd_line36_4_7 {G : am_G} (I A : Nat → Nat → Int32) (n : Nat) (hn : I 4 4 = nI n) (hN : n ≤ 60) (i : Nat) (hi : i < n) (t : Nat) (ht : I 36 4 = nI t) (ht2 : t < 4000) (ek : A 5 i = nI 7) (x : Nat) (hx : x < 32) (ex : A 6 i = nI x) (y : Nat) (hy : y < 32) (ey : A 7 i = nI y) (z : Nat) (hz : z ≤ 400) (ez : A 8 i = nI z) : Cm G MX4_lineBehind 3 68 [.ref 36, .ref 4, .int (nI i)] I A (fun r I' A' => ∃ q s', q ≤ 401 ∧ r = some (.int (nI q)) ∧ (q = (cz_d1 (A 5) (A 6) (A 7) (A 8) i (A 37) (A 39) (A 40) (cz_sl (A 38)) t).2.2.2.2.2 ∨ (n ≤ q ∧ n ≤ (cz_d1 (A 5) (A 6) (A 7) (A 8) i (A 37) (A 39) (A 40) (cz_sl (A 38)) t).2.2.2.2.2)) ∧ cz_sl s' = (cz_d1 (A 5) (A 6) (A 7) (A 8) i (A 37) (A 39) (A 40) (cz_sl (A 38)) t).2.2.2.1 ∧ upI I 36 4 (nI (cz_d1 (A 5) (A 6) (A 7) (A 8) i (A 37) (A 39) (A 40) (cz_sl (A 38)) t).2.2.2.2.1) = I' ∧ upA (upA (upA (upA A 37 (cz_d1 (A 5) (A 6) (A 7) (A 8) i (A 37) (A 39) (A 40) (cz_sl (A 38)) t).1) 39 (cz_d1 (A 5) (A 6) (A 7) (A 8) i (A 37) (A 39) (A 40) (cz_sl (A 38)) t).2.1) 40 (cz_d1 (A 5) (A 6) (A 7) (A 8) i (A 37) (A 39) (A 40) (cz_sl (A 38)) t).2.2.1) 38 s' = A') := by
  refine Cm.of (by decide) (Nat.le_of_ble_eq_true rfl) rfl ?_
  show V G MX4_lineBehind (am_R 3 68 0 0) _ 0 0 0 [(0, .ref 36), (1, .ref 4), (2, .int (nI i))] [] (hp I A)
  refine V.aload_n (j := 1) rfl dX4_lineBehind_0 ?_
  refine V.getr (q := 6) dX4_lineBehind_1 fX4_44 rfl rfl ?_
  refine V.iload_n (j := 2) rfl dX4_lineBehind_4 ?_
  refine V.lda (v := nI x) dX4_lineBehind_5 rfl (by omega) (by decide) ex ?_
  refine V.istore_n (ls' := [(0, .ref 36), (1, .ref 4), (2, .int (nI i)), (3, .int (nI x))]) dX4_lineBehind_6 (by decide) rfl ?_
  refine V.aload_n (j := 1) rfl dX4_lineBehind_7 ?_
  refine V.getr (q := 5) dX4_lineBehind_8 fX4_47 rfl rfl ?_
  refine V.iload_n (j := 2) rfl dX4_lineBehind_11 ?_
  refine V.lda (v := nI 7) dX4_lineBehind_12 rfl (by omega) (by decide) ek ?_
  refine V.tableIn (tgt := 44) dX4_lineBehind_13 (by decide) (by decide) rfl (by decide) ?_
  refine V.aload_n (j := 0) rfl dX4_lineBehind_44 ?_
  refine V.getr (q := 37) dX4_lineBehind_45 fX4_9 rfl rfl ?_
  refine V.iload_n (j := 3) rfl dX4_lineBehind_48 ?_
  refine V.lda (v := A 37 x) dX4_lineBehind_49 rfl (by omega) (by decide) rfl ?_
  refine V.aload_n (j := 0) rfl dX4_lineBehind_50 ?_
  refine V.getr (q := 37) dX4_lineBehind_51 fX4_9 rfl rfl ?_
  refine V.aload_n (j := 1) rfl dX4_lineBehind_54 ?_
  refine V.getr (q := 7) dX4_lineBehind_55 fX4_50 rfl rfl ?_
  refine V.iload_n (j := 2) rfl dX4_lineBehind_58 ?_
  refine V.lda (v := nI y) dX4_lineBehind_59 rfl (by omega) (by decide) ey ?_
  refine V.lda (v := A 37 y) dX4_lineBehind_60 rfl (by omega) (by decide) rfl ?_
  refine V.icmp_ge (tgt := 73) dX4_lineBehind_61 (by decide) (fun c1 => ?_) (fun c1 => ?_)
  · refine V.iload_n (j := 2) rfl dX4_lineBehind_73 ?_
    refine V.iconst (v := nI 1) (by decide) dX4_lineBehind_74 ?_
    refine V.iaddN dX4_lineBehind_75 ?_
    refine V.ri dX4_lineBehind_76 rfl ?_
    have ed : (A 5 i).toNatClampNeg = 7 := by rw [ek, nI_clamp (by omega)]
    have eD : cz_d1 (A 5) (A 6) (A 7) (A 8) i (A 37) (A 39) (A 40) (cz_sl (A 38)) t = (A 37, A 39, A 40, cz_sl (A 38), t, if A 37 y ≤ A 37 x then i + 1 else z) := by unfold cz_d1 mz_di1; rw [Nat.zero_add, cz_c_0, ed]; simp only [cz_c_1, cz_c_2, cz_c_3, ex, ey, ez, nI_clamp (show x < 2 ^ 31 by omega), nI_clamp (show y < 2 ^ 31 by omega), nI_clamp (show z < 2 ^ 31 by omega)]
    rw [eD]
    exact ⟨i + 1, A 38, by omega, rfl, Or.inl (by show _ = (if A 37 y ≤ A 37 x then i + 1 else z); rw [if_pos c1]), rfl, by rw [← ht, upI_i], cz_M36_0⟩
  · refine V.aload_n (j := 1) rfl dX4_lineBehind_64 ?_
    refine V.getr (q := 8) dX4_lineBehind_65 fX4_53 rfl rfl ?_
    refine V.iload_n (j := 2) rfl dX4_lineBehind_68 ?_
    refine V.lda (v := nI z) dX4_lineBehind_69 rfl (by omega) (by decide) ez ?_
    refine V.goto (tgt := 76) dX4_lineBehind_70 (by decide) ?_
    refine V.ri dX4_lineBehind_76 rfl ?_
    have ed : (A 5 i).toNatClampNeg = 7 := by rw [ek, nI_clamp (by omega)]
    have eD : cz_d1 (A 5) (A 6) (A 7) (A 8) i (A 37) (A 39) (A 40) (cz_sl (A 38)) t = (A 37, A 39, A 40, cz_sl (A 38), t, if A 37 y ≤ A 37 x then i + 1 else z) := by unfold cz_d1 mz_di1; rw [Nat.zero_add, cz_c_0, ed]; simp only [cz_c_1, cz_c_2, cz_c_3, ex, ey, ez, nI_clamp (show x < 2 ^ 31 by omega), nI_clamp (show y < 2 ^ 31 by omega), nI_clamp (show z < 2 ^ 31 by omega)]
    rw [eD]
    exact ⟨z, A 38, by omega, rfl, Or.inl (by show _ = (if A 37 y ≤ A 37 x then i + 1 else z); rw [if_neg c1]), rfl, by rw [← ht, upI_i], cz_M36_0⟩
set_option maxRecDepth 100000 in
set_option maxHeartbeats 4000000 in
theorem cd_line36_4_8 {G : am_G} (I A : Nat → Nat → Int32) (n : Nat) (hn : I 4 4 = nI n) (hN : n ≤ 60) (i : Nat) (hi : i < n) (t : Nat) (ht : I 36 4 = nI t) (ht2 : t < 4000) (ek : A 5 i = nI 8) (x : Nat) (hx : x ≤ 400) (ex : A 6 i = nI x) : Cm G MX4_lineBehind 3 68 [.ref 36, .ref 4, .int (nI i)] I A (fun r I' A' => ∃ q s', q ≤ 401 ∧ r = some (.int (nI q)) ∧ (q = (cz_d1 (A 5) (A 6) (A 7) (A 8) i (A 37) (A 39) (A 40) (cz_sl (A 38)) t).2.2.2.2.2 ∨ (n ≤ q ∧ n ≤ (cz_d1 (A 5) (A 6) (A 7) (A 8) i (A 37) (A 39) (A 40) (cz_sl (A 38)) t).2.2.2.2.2)) ∧ cz_sl s' = (cz_d1 (A 5) (A 6) (A 7) (A 8) i (A 37) (A 39) (A 40) (cz_sl (A 38)) t).2.2.2.1 ∧ upI I 36 4 (nI (cz_d1 (A 5) (A 6) (A 7) (A 8) i (A 37) (A 39) (A 40) (cz_sl (A 38)) t).2.2.2.2.1) = I' ∧ upA (upA (upA (upA A 37 (cz_d1 (A 5) (A 6) (A 7) (A 8) i (A 37) (A 39) (A 40) (cz_sl (A 38)) t).1) 39 (cz_d1 (A 5) (A 6) (A 7) (A 8) i (A 37) (A 39) (A 40) (cz_sl (A 38)) t).2.1) 40 (cz_d1 (A 5) (A 6) (A 7) (A 8) i (A 37) (A 39) (A 40) (cz_sl (A 38)) t).2.2.1) 38 s' = A') := by
  refine Cm.of (by decide) (Nat.le_of_ble_eq_true rfl) rfl ?_
  show V G MX4_lineBehind (am_R 3 68 0 0) _ 0 0 0 [(0, .ref 36), (1, .ref 4), (2, .int (nI i))] [] (hp I A)
  refine V.aload_n (j := 1) rfl dX4_lineBehind_0 ?_
  refine V.getr (q := 6) dX4_lineBehind_1 fX4_44 rfl rfl ?_
  refine V.iload_n (j := 2) rfl dX4_lineBehind_4 ?_
  refine V.lda (v := nI x) dX4_lineBehind_5 rfl (by omega) (by decide) ex ?_
  refine V.istore_n (ls' := [(0, .ref 36), (1, .ref 4), (2, .int (nI i)), (3, .int (nI x))]) dX4_lineBehind_6 (by decide) rfl ?_
  refine V.aload_n (j := 1) rfl dX4_lineBehind_7 ?_
  refine V.getr (q := 5) dX4_lineBehind_8 fX4_47 rfl rfl ?_
  refine V.iload_n (j := 2) rfl dX4_lineBehind_11 ?_
  refine V.lda (v := nI 8) dX4_lineBehind_12 rfl (by omega) (by decide) ek ?_
  refine V.tableIn (tgt := 77) dX4_lineBehind_13 (by decide) (by decide) rfl (by decide) ?_
  refine V.iload_n (j := 3) rfl dX4_lineBehind_77 ?_
  refine V.ri dX4_lineBehind_78 rfl ?_
  have ed : (A 5 i).toNatClampNeg = 8 := by rw [ek, nI_clamp (by omega)]
  have eD : cz_d1 (A 5) (A 6) (A 7) (A 8) i (A 37) (A 39) (A 40) (cz_sl (A 38)) t = (A 37, A 39, A 40, cz_sl (A 38), t, x) := by unfold cz_d1 mz_di1; rw [Nat.zero_add, cz_c_0, ed]; simp only [cz_c_1, cz_c_2, cz_c_3, ex, nI_clamp (show x < 2 ^ 31 by omega)]
  rw [eD]
  exact ⟨x, A 38, by omega, rfl, Or.inl rfl, rfl, by rw [← ht, upI_i], cz_M36_0⟩
set_option maxRecDepth 100000 in
set_option maxHeartbeats 4000000 in
theorem cd_line36_4_9 {G : am_G} (I A : Nat → Nat → Int32) (n : Nat) (hn : I 4 4 = nI n) (hN : n ≤ 60) (i : Nat) (hi : i < n) (t : Nat) (ht : I 36 4 = nI t) (ht2 : t < 4000) (ek : A 5 i = nI 9) (x : Nat) (hx : x < 32) (ex : A 6 i = nI x) : Cm G MX4_lineBehind 3 68 [.ref 36, .ref 4, .int (nI i)] I A (fun r I' A' => ∃ q s', q ≤ 401 ∧ r = some (.int (nI q)) ∧ (q = (cz_d1 (A 5) (A 6) (A 7) (A 8) i (A 37) (A 39) (A 40) (cz_sl (A 38)) t).2.2.2.2.2 ∨ (n ≤ q ∧ n ≤ (cz_d1 (A 5) (A 6) (A 7) (A 8) i (A 37) (A 39) (A 40) (cz_sl (A 38)) t).2.2.2.2.2)) ∧ cz_sl s' = (cz_d1 (A 5) (A 6) (A 7) (A 8) i (A 37) (A 39) (A 40) (cz_sl (A 38)) t).2.2.2.1 ∧ upI I 36 4 (nI (cz_d1 (A 5) (A 6) (A 7) (A 8) i (A 37) (A 39) (A 40) (cz_sl (A 38)) t).2.2.2.2.1) = I' ∧ upA (upA (upA (upA A 37 (cz_d1 (A 5) (A 6) (A 7) (A 8) i (A 37) (A 39) (A 40) (cz_sl (A 38)) t).1) 39 (cz_d1 (A 5) (A 6) (A 7) (A 8) i (A 37) (A 39) (A 40) (cz_sl (A 38)) t).2.1) 40 (cz_d1 (A 5) (A 6) (A 7) (A 8) i (A 37) (A 39) (A 40) (cz_sl (A 38)) t).2.2.1) 38 s' = A') := by
  refine Cm.of (by decide) (Nat.le_of_ble_eq_true rfl) rfl ?_
  show V G MX4_lineBehind (am_R 3 68 0 0) _ 0 0 0 [(0, .ref 36), (1, .ref 4), (2, .int (nI i))] [] (hp I A)
  refine V.aload_n (j := 1) rfl dX4_lineBehind_0 ?_
  refine V.getr (q := 6) dX4_lineBehind_1 fX4_44 rfl rfl ?_
  refine V.iload_n (j := 2) rfl dX4_lineBehind_4 ?_
  refine V.lda (v := nI x) dX4_lineBehind_5 rfl (by omega) (by decide) ex ?_
  refine V.istore_n (ls' := [(0, .ref 36), (1, .ref 4), (2, .int (nI i)), (3, .int (nI x))]) dX4_lineBehind_6 (by decide) rfl ?_
  refine V.aload_n (j := 1) rfl dX4_lineBehind_7 ?_
  refine V.getr (q := 5) dX4_lineBehind_8 fX4_47 rfl rfl ?_
  refine V.iload_n (j := 2) rfl dX4_lineBehind_11 ?_
  refine V.lda (v := nI 9) dX4_lineBehind_12 rfl (by omega) (by decide) ek ?_
  refine V.tableIn (tgt := 84) dX4_lineBehind_13 (by decide) (by decide) rfl (by decide) ?_
  refine V.aload_n (j := 0) rfl dX4_lineBehind_84 ?_
  refine V.aload_n (j := 1) rfl dX4_lineBehind_85 ?_
  refine V.getr (q := 5) dX4_lineBehind_86 fX4_47 rfl rfl ?_
  refine V.iload_n (j := 2) rfl dX4_lineBehind_89 ?_
  refine V.lda (v := nI 9) dX4_lineBehind_90 rfl (by omega) (by decide) ek ?_
  refine V.iload_n (j := 3) rfl dX4_lineBehind_91 ?_
  refine V.aload_n (j := 1) rfl dX4_lineBehind_92 ?_
  refine V.getr (q := 7) dX4_lineBehind_93 fX4_50 rfl rfl ?_
  refine V.iload_n (j := 2) rfl dX4_lineBehind_96 ?_
  refine V.lda (v := A 7 i) dX4_lineBehind_97 rfl (by omega) (by decide) rfl ?_
  refine V.aload_n (j := 1) rfl dX4_lineBehind_98 ?_
  refine V.getr (q := 8) dX4_lineBehind_99 fX4_53 rfl rfl ?_
  refine V.iload_n (j := 2) rfl dX4_lineBehind_102 ?_
  refine V.lda (v := A 8 i) dX4_lineBehind_103 rfl (by omega) (by decide) rfl ?_
  refine V.cV (As := [.int (nI 9), .int (nI x), .int (A 7 i), .int (A 8 i)]) (st := []) dX4_lineBehind_104 sX4_56 iX4_act lX4_act rfl rfl (cd_act36_9 I A x hx _ _ t ht ht2) ⟨by decide, by decide⟩ (Nat.le_of_ble_eq_true rfl) rfl (fun r I' A' hq => ?_)
  obtain ⟨rfl, rfl, rfl⟩ := hq
  refine V.st (st' := []) rfl ?_
  refine V.iload_n (j := 2) rfl dX4_lineBehind_107 ?_
  refine V.iconst (v := nI 1) (by decide) dX4_lineBehind_108 ?_
  refine V.iaddN dX4_lineBehind_109 ?_
  refine V.ri dX4_lineBehind_110 rfl ?_
  have ed : (A 5 i).toNatClampNeg = 9 := by rw [ek, nI_clamp (by omega)]
  have eD : cz_d1 (A 5) (A 6) (A 7) (A 8) i (A 37) (A 39) (A 40) (cz_sl (A 38)) t = (A 37, A 39, mz_sy t (A 40) (A 37 x), cz_sl (A 38), t + 1, i + 1) := by unfold cz_d1 mz_di1; rw [Nat.zero_add, cz_c_0, ed]; simp only [cz_c_1, cz_c_2, cz_c_3, ex, nI_clamp (show x < 2 ^ 31 by omega)]
  rw [eD]
  exact ⟨i + 1, A 38, by omega, rfl, Or.inl rfl, rfl, rfl, cz_M36_40⟩
set_option maxRecDepth 100000 in
set_option maxHeartbeats 4000000 in
theorem cd_line36_4_10 {G : am_G} (I A : Nat → Nat → Int32) (n : Nat) (hn : I 4 4 = nI n) (hN : n ≤ 60) (i : Nat) (hi : i < n) (t : Nat) (ht : I 36 4 = nI t) (ht2 : t < 4000) (ek : A 5 i = nI 10) : Cm G MX4_lineBehind 3 68 [.ref 36, .ref 4, .int (nI i)] I A (fun r I' A' => ∃ q s', q ≤ 401 ∧ r = some (.int (nI q)) ∧ (q = (cz_d1 (A 5) (A 6) (A 7) (A 8) i (A 37) (A 39) (A 40) (cz_sl (A 38)) t).2.2.2.2.2 ∨ (n ≤ q ∧ n ≤ (cz_d1 (A 5) (A 6) (A 7) (A 8) i (A 37) (A 39) (A 40) (cz_sl (A 38)) t).2.2.2.2.2)) ∧ cz_sl s' = (cz_d1 (A 5) (A 6) (A 7) (A 8) i (A 37) (A 39) (A 40) (cz_sl (A 38)) t).2.2.2.1 ∧ upI I 36 4 (nI (cz_d1 (A 5) (A 6) (A 7) (A 8) i (A 37) (A 39) (A 40) (cz_sl (A 38)) t).2.2.2.2.1) = I' ∧ upA (upA (upA (upA A 37 (cz_d1 (A 5) (A 6) (A 7) (A 8) i (A 37) (A 39) (A 40) (cz_sl (A 38)) t).1) 39 (cz_d1 (A 5) (A 6) (A 7) (A 8) i (A 37) (A 39) (A 40) (cz_sl (A 38)) t).2.1) 40 (cz_d1 (A 5) (A 6) (A 7) (A 8) i (A 37) (A 39) (A 40) (cz_sl (A 38)) t).2.2.1) 38 s' = A') := by
  refine Cm.of (by decide) (Nat.le_of_ble_eq_true rfl) rfl ?_
  show V G MX4_lineBehind (am_R 3 68 0 0) _ 0 0 0 [(0, .ref 36), (1, .ref 4), (2, .int (nI i))] [] (hp I A)
  refine V.aload_n (j := 1) rfl dX4_lineBehind_0 ?_
  refine V.getr (q := 6) dX4_lineBehind_1 fX4_44 rfl rfl ?_
  refine V.iload_n (j := 2) rfl dX4_lineBehind_4 ?_
  refine V.lda (v := A 6 i) dX4_lineBehind_5 rfl (by omega) (by decide) rfl ?_
  refine V.istore_n (ls' := [(0, .ref 36), (1, .ref 4), (2, .int (nI i)), (3, .int (A 6 i))]) dX4_lineBehind_6 (by decide) rfl ?_
  refine V.aload_n (j := 1) rfl dX4_lineBehind_7 ?_
  refine V.getr (q := 5) dX4_lineBehind_8 fX4_47 rfl rfl ?_
  refine V.iload_n (j := 2) rfl dX4_lineBehind_11 ?_
  refine V.lda (v := nI 10) dX4_lineBehind_12 rfl (by omega) (by decide) ek ?_
  refine V.tableIn (tgt := 79) dX4_lineBehind_13 (by decide) (by decide) rfl (by decide) ?_
  refine V.aload_n (j := 1) rfl dX4_lineBehind_79 ?_
  refine V.geti (v := nI n) dX4_lineBehind_80 fX4_35 rfl rfl hn ?_
  refine V.ri dX4_lineBehind_83 rfl ?_
  have ed : (A 5 i).toNatClampNeg = 10 := by rw [ek, nI_clamp (by omega)]
  have eD : cz_d1 (A 5) (A 6) (A 7) (A 8) i (A 37) (A 39) (A 40) (cz_sl (A 38)) t = (A 37, A 39, A 40, cz_sl (A 38), t, 400) := by unfold cz_d1 mz_di1; rw [Nat.zero_add, cz_c_0, ed]; simp only [cz_c_1, cz_c_2, cz_c_3]
  rw [eD]
  exact ⟨n, A 38, by omega, rfl, Or.inr ⟨Nat.le_refl _, by show n ≤ 400; omega⟩, rfl, by rw [← ht, upI_i], cz_M36_0⟩
set_option maxHeartbeats 4000000 in
theorem cd_line36_4 {G : am_G} (I A : Nat → Nat → Int32) (n : Nat) (hn : I 4 4 = nI n) (hN : n ≤ 60) (i : Nat) (hi : i < n) (t : Nat) (ht : I 36 4 = nI t) (ht2 : t < 4000) (hiw : cz_iw (A 5) (A 6) (A 7) (A 8) i) (h10 : ∀ k, A 5 i = nI k → k ≤ 12 → k ≤ 10) : Cm G MX4_lineBehind 3 68 [.ref 36, .ref 4, .int (nI i)] I A (fun r I' A' => ∃ q s', q ≤ 401 ∧ r = some (.int (nI q)) ∧ (q = (cz_d1 (A 5) (A 6) (A 7) (A 8) i (A 37) (A 39) (A 40) (cz_sl (A 38)) t).2.2.2.2.2 ∨ (n ≤ q ∧ n ≤ (cz_d1 (A 5) (A 6) (A 7) (A 8) i (A 37) (A 39) (A 40) (cz_sl (A 38)) t).2.2.2.2.2)) ∧ cz_sl s' = (cz_d1 (A 5) (A 6) (A 7) (A 8) i (A 37) (A 39) (A 40) (cz_sl (A 38)) t).2.2.2.1 ∧ upI I 36 4 (nI (cz_d1 (A 5) (A 6) (A 7) (A 8) i (A 37) (A 39) (A 40) (cz_sl (A 38)) t).2.2.2.2.1) = I' ∧ upA (upA (upA (upA A 37 (cz_d1 (A 5) (A 6) (A 7) (A 8) i (A 37) (A 39) (A 40) (cz_sl (A 38)) t).1) 39 (cz_d1 (A 5) (A 6) (A 7) (A 8) i (A 37) (A 39) (A 40) (cz_sl (A 38)) t).2.1) 40 (cz_d1 (A 5) (A 6) (A 7) (A 8) i (A 37) (A 39) (A 40) (cz_sl (A 38)) t).2.2.1) 38 s' = A') := by
  obtain ⟨k, h1, ek, h3, h4, h5, h6, h7, h8⟩ := hiw
  have hk10 : k ≤ 10 := h10 k ek h1
  rcases (show k = 0 ∨ k = 1 ∨ k = 2 ∨ k = 3 ∨ k = 4 ∨ k = 5 ∨ k = 6 ∨ k = 7 ∨ k = 8 ∨ k = 9 ∨ k = 10 by omega) with rfl | rfl | rfl | rfl | rfl | rfl | rfl | rfl | rfl | rfl | rfl
  · obtain ⟨x, hx, ex⟩ := h3 (by omega)
    exact cd_line36_4_0 I A n hn hN i hi t ht ht2 ek x hx ex
  · obtain ⟨x, hx, ex⟩ := h3 (by omega)
    obtain ⟨y, hy, ey⟩ := h4 (by omega)
    exact cd_line36_4_1 I A n hn hN i hi t ht ht2 ek x hx ex y hy ey
  · obtain ⟨x, hx, ex⟩ := h3 (by omega)
    obtain ⟨y, hy, ey⟩ := h4 (by omega)
    obtain ⟨z, hz, ez⟩ := h6 (by omega)
    exact cd_line36_4_2 I A n hn hN i hi t ht ht2 ek x hx ex y hy ey z hz ez
  · obtain ⟨x, hx, ex⟩ := h3 (by omega)
    obtain ⟨y, hy, ey⟩ := h4 (by omega)
    obtain ⟨z, hz, ez⟩ := h6 (by omega)
    exact cd_line36_4_3 I A n hn hN i hi t ht ht2 ek x hx ex y hy ey z hz ez
  · obtain ⟨x, hx, ex⟩ := h3 (by omega)
    obtain ⟨y, hy, ey⟩ := h4 (by omega)
    obtain ⟨z, hz, ez⟩ := h6 (by omega)
    exact cd_line36_4_4 I A n hn hN i hi t ht ht2 ek x hx ex y hy ey z hz ez
  · obtain ⟨x, hx, ex⟩ := h3 (by omega)
    obtain ⟨y, hy, ey⟩ := h4 (by omega)
    exact cd_line36_4_5 I A n hn hN i hi t ht ht2 ek x hx ex y hy ey
  · obtain ⟨x, hx, ex⟩ := h3 (by omega)
    obtain ⟨y, hy, ey⟩ := h4 (by omega)
    exact cd_line36_4_6 I A n hn hN i hi t ht ht2 ek x hx ex y hy ey
  · obtain ⟨x, hx, ex⟩ := h3 (by omega)
    obtain ⟨y, hy, ey⟩ := h4 (by omega)
    obtain ⟨z, hz, ez⟩ := h7 rfl
    exact cd_line36_4_7 I A n hn hN i hi t ht ht2 ek x hx ex y hy ey z hz ez
  · obtain ⟨x, hx, ex⟩ := h8 rfl
    exact cd_line36_4_8 I A n hn hN i hi t ht ht2 ek x hx ex
  · obtain ⟨x, hx, ex⟩ := h3 (by omega)
    exact cd_line36_4_9 I A n hn hN i hi t ht ht2 ek x hx ex
  · exact cd_line36_4_10 I A n hn hN i hi t ht ht2 ek 
set_option maxRecDepth 100000 in
set_option maxHeartbeats 4000000 in
theorem cd_line36_25_0 {G : am_G} (I A : Nat → Nat → Int32) (n : Nat) (hn : I 25 4 = nI n) (hN : n ≤ 240) (i : Nat) (hi : i < n) (t : Nat) (ht : I 36 4 = nI t) (ht2 : t < 4000) (ek : A 26 i = nI 0) (x : Nat) (hx : x < 32) (ex : A 27 i = nI x) : Cm G MX4_lineBehind 3 68 [.ref 36, .ref 25, .int (nI i)] I A (fun r I' A' => ∃ q s', q ≤ 401 ∧ r = some (.int (nI q)) ∧ (q = (cz_d1 (A 26) (A 27) (A 28) (A 29) i (A 37) (A 39) (A 40) (cz_sl (A 38)) t).2.2.2.2.2 ∨ (n ≤ q ∧ n ≤ (cz_d1 (A 26) (A 27) (A 28) (A 29) i (A 37) (A 39) (A 40) (cz_sl (A 38)) t).2.2.2.2.2)) ∧ cz_sl s' = (cz_d1 (A 26) (A 27) (A 28) (A 29) i (A 37) (A 39) (A 40) (cz_sl (A 38)) t).2.2.2.1 ∧ upI I 36 4 (nI (cz_d1 (A 26) (A 27) (A 28) (A 29) i (A 37) (A 39) (A 40) (cz_sl (A 38)) t).2.2.2.2.1) = I' ∧ upA (upA (upA (upA A 37 (cz_d1 (A 26) (A 27) (A 28) (A 29) i (A 37) (A 39) (A 40) (cz_sl (A 38)) t).1) 39 (cz_d1 (A 26) (A 27) (A 28) (A 29) i (A 37) (A 39) (A 40) (cz_sl (A 38)) t).2.1) 40 (cz_d1 (A 26) (A 27) (A 28) (A 29) i (A 37) (A 39) (A 40) (cz_sl (A 38)) t).2.2.1) 38 s' = A') := by
  refine Cm.of (by decide) (Nat.le_of_ble_eq_true rfl) rfl ?_
  show V G MX4_lineBehind (am_R 3 68 0 0) _ 0 0 0 [(0, .ref 36), (1, .ref 25), (2, .int (nI i))] [] (hp I A)
  refine V.aload_n (j := 1) rfl dX4_lineBehind_0 ?_
  refine V.getr (q := 27) dX4_lineBehind_1 fX4_44 rfl rfl ?_
  refine V.iload_n (j := 2) rfl dX4_lineBehind_4 ?_
  refine V.lda (v := nI x) dX4_lineBehind_5 rfl (by omega) (by decide) ex ?_
  refine V.istore_n (ls' := [(0, .ref 36), (1, .ref 25), (2, .int (nI i)), (3, .int (nI x))]) dX4_lineBehind_6 (by decide) rfl ?_
  refine V.aload_n (j := 1) rfl dX4_lineBehind_7 ?_
  refine V.getr (q := 26) dX4_lineBehind_8 fX4_47 rfl rfl ?_
  refine V.iload_n (j := 2) rfl dX4_lineBehind_11 ?_
  refine V.lda (v := nI 0) dX4_lineBehind_12 rfl (by omega) (by decide) ek ?_
  refine V.tableOut (tgt := 84) dX4_lineBehind_13 (by decide) (by decide) ?_
  refine V.aload_n (j := 0) rfl dX4_lineBehind_84 ?_
  refine V.aload_n (j := 1) rfl dX4_lineBehind_85 ?_
  refine V.getr (q := 26) dX4_lineBehind_86 fX4_47 rfl rfl ?_
  refine V.iload_n (j := 2) rfl dX4_lineBehind_89 ?_
  refine V.lda (v := nI 0) dX4_lineBehind_90 rfl (by omega) (by decide) ek ?_
  refine V.iload_n (j := 3) rfl dX4_lineBehind_91 ?_
  refine V.aload_n (j := 1) rfl dX4_lineBehind_92 ?_
  refine V.getr (q := 28) dX4_lineBehind_93 fX4_50 rfl rfl ?_
  refine V.iload_n (j := 2) rfl dX4_lineBehind_96 ?_
  refine V.lda (v := A 28 i) dX4_lineBehind_97 rfl (by omega) (by decide) rfl ?_
  refine V.aload_n (j := 1) rfl dX4_lineBehind_98 ?_
  refine V.getr (q := 29) dX4_lineBehind_99 fX4_53 rfl rfl ?_
  refine V.iload_n (j := 2) rfl dX4_lineBehind_102 ?_
  refine V.lda (v := A 29 i) dX4_lineBehind_103 rfl (by omega) (by decide) rfl ?_
  refine V.cV (As := [.int (nI 0), .int (nI x), .int (A 28 i), .int (A 29 i)]) (st := []) dX4_lineBehind_104 sX4_56 iX4_act lX4_act rfl rfl (cd_act36_0 I A x hx _ _) ⟨by decide, by decide⟩ (Nat.le_of_ble_eq_true rfl) rfl (fun r I' A' hq => ?_)
  obtain ⟨rfl, rfl, rfl⟩ := hq
  refine V.st (st' := []) rfl ?_
  refine V.iload_n (j := 2) rfl dX4_lineBehind_107 ?_
  refine V.iconst (v := nI 1) (by decide) dX4_lineBehind_108 ?_
  refine V.iaddN dX4_lineBehind_109 ?_
  refine V.ri dX4_lineBehind_110 rfl ?_
  have ed : (A 26 i).toNatClampNeg = 0 := by rw [ek, nI_clamp (by omega)]
  have eD : cz_d1 (A 26) (A 27) (A 28) (A 29) i (A 37) (A 39) (A 40) (cz_sl (A 38)) t = (upd (A 37) x (A 28 i), A 39, A 40, cz_sl (A 38), t, i + 1) := by unfold cz_d1 mz_di1; rw [Nat.zero_add, cz_c_0, ed]; simp only [cz_c_1, cz_c_2, cz_c_3, ex, nI_clamp (show x < 2 ^ 31 by omega)]
  rw [eD]
  exact ⟨i + 1, A 38, by omega, rfl, Or.inl rfl, rfl, by rw [← ht, upI_i], cz_M36_37⟩
set_option maxRecDepth 100000 in
set_option maxHeartbeats 4000000 in
theorem cd_line36_25_1 {G : am_G} (I A : Nat → Nat → Int32) (n : Nat) (hn : I 25 4 = nI n) (hN : n ≤ 240) (i : Nat) (hi : i < n) (t : Nat) (ht : I 36 4 = nI t) (ht2 : t < 4000) (ek : A 26 i = nI 1) (x : Nat) (hx : x < 32) (ex : A 27 i = nI x) (y : Nat) (hy : y < 32) (ey : A 28 i = nI y) : Cm G MX4_lineBehind 3 68 [.ref 36, .ref 25, .int (nI i)] I A (fun r I' A' => ∃ q s', q ≤ 401 ∧ r = some (.int (nI q)) ∧ (q = (cz_d1 (A 26) (A 27) (A 28) (A 29) i (A 37) (A 39) (A 40) (cz_sl (A 38)) t).2.2.2.2.2 ∨ (n ≤ q ∧ n ≤ (cz_d1 (A 26) (A 27) (A 28) (A 29) i (A 37) (A 39) (A 40) (cz_sl (A 38)) t).2.2.2.2.2)) ∧ cz_sl s' = (cz_d1 (A 26) (A 27) (A 28) (A 29) i (A 37) (A 39) (A 40) (cz_sl (A 38)) t).2.2.2.1 ∧ upI I 36 4 (nI (cz_d1 (A 26) (A 27) (A 28) (A 29) i (A 37) (A 39) (A 40) (cz_sl (A 38)) t).2.2.2.2.1) = I' ∧ upA (upA (upA (upA A 37 (cz_d1 (A 26) (A 27) (A 28) (A 29) i (A 37) (A 39) (A 40) (cz_sl (A 38)) t).1) 39 (cz_d1 (A 26) (A 27) (A 28) (A 29) i (A 37) (A 39) (A 40) (cz_sl (A 38)) t).2.1) 40 (cz_d1 (A 26) (A 27) (A 28) (A 29) i (A 37) (A 39) (A 40) (cz_sl (A 38)) t).2.2.1) 38 s' = A') := by
  refine Cm.of (by decide) (Nat.le_of_ble_eq_true rfl) rfl ?_
  show V G MX4_lineBehind (am_R 3 68 0 0) _ 0 0 0 [(0, .ref 36), (1, .ref 25), (2, .int (nI i))] [] (hp I A)
  refine V.aload_n (j := 1) rfl dX4_lineBehind_0 ?_
  refine V.getr (q := 27) dX4_lineBehind_1 fX4_44 rfl rfl ?_
  refine V.iload_n (j := 2) rfl dX4_lineBehind_4 ?_
  refine V.lda (v := nI x) dX4_lineBehind_5 rfl (by omega) (by decide) ex ?_
  refine V.istore_n (ls' := [(0, .ref 36), (1, .ref 25), (2, .int (nI i)), (3, .int (nI x))]) dX4_lineBehind_6 (by decide) rfl ?_
  refine V.aload_n (j := 1) rfl dX4_lineBehind_7 ?_
  refine V.getr (q := 26) dX4_lineBehind_8 fX4_47 rfl rfl ?_
  refine V.iload_n (j := 2) rfl dX4_lineBehind_11 ?_
  refine V.lda (v := nI 1) dX4_lineBehind_12 rfl (by omega) (by decide) ek ?_
  refine V.tableOut (tgt := 84) dX4_lineBehind_13 (by decide) (by decide) ?_
  refine V.aload_n (j := 0) rfl dX4_lineBehind_84 ?_
  refine V.aload_n (j := 1) rfl dX4_lineBehind_85 ?_
  refine V.getr (q := 26) dX4_lineBehind_86 fX4_47 rfl rfl ?_
  refine V.iload_n (j := 2) rfl dX4_lineBehind_89 ?_
  refine V.lda (v := nI 1) dX4_lineBehind_90 rfl (by omega) (by decide) ek ?_
  refine V.iload_n (j := 3) rfl dX4_lineBehind_91 ?_
  refine V.aload_n (j := 1) rfl dX4_lineBehind_92 ?_
  refine V.getr (q := 28) dX4_lineBehind_93 fX4_50 rfl rfl ?_
  refine V.iload_n (j := 2) rfl dX4_lineBehind_96 ?_
  refine V.lda (v := nI y) dX4_lineBehind_97 rfl (by omega) (by decide) ey ?_
  refine V.aload_n (j := 1) rfl dX4_lineBehind_98 ?_
  refine V.getr (q := 29) dX4_lineBehind_99 fX4_53 rfl rfl ?_
  refine V.iload_n (j := 2) rfl dX4_lineBehind_102 ?_
  refine V.lda (v := A 29 i) dX4_lineBehind_103 rfl (by omega) (by decide) rfl ?_
  refine V.cV (As := [.int (nI 1), .int (nI x), .int (nI y), .int (A 29 i)]) (st := []) dX4_lineBehind_104 sX4_56 iX4_act lX4_act rfl rfl (cd_act36_1 I A x hx y hy _) ⟨by decide, by decide⟩ (Nat.le_of_ble_eq_true rfl) rfl (fun r I' A' hq => ?_)
  obtain ⟨rfl, rfl, rfl⟩ := hq
  refine V.st (st' := []) rfl ?_
  refine V.iload_n (j := 2) rfl dX4_lineBehind_107 ?_
  refine V.iconst (v := nI 1) (by decide) dX4_lineBehind_108 ?_
  refine V.iaddN dX4_lineBehind_109 ?_
  refine V.ri dX4_lineBehind_110 rfl ?_
  have ed : (A 26 i).toNatClampNeg = 1 := by rw [ek, nI_clamp (by omega)]
  have eD : cz_d1 (A 26) (A 27) (A 28) (A 29) i (A 37) (A 39) (A 40) (cz_sl (A 38)) t = (upd (A 37) x (A 37 y), A 39, A 40, cz_sl (A 38), t, i + 1) := by unfold cz_d1 mz_di1; rw [Nat.zero_add, cz_c_0, ed]; simp only [cz_c_1, cz_c_2, cz_c_3, ex, ey, nI_clamp (show x < 2 ^ 31 by omega), nI_clamp (show y < 2 ^ 31 by omega)]
  rw [eD]
  exact ⟨i + 1, A 38, by omega, rfl, Or.inl rfl, rfl, by rw [← ht, upI_i], cz_M36_37⟩
set_option maxRecDepth 100000 in
set_option maxHeartbeats 4000000 in
theorem cd_line36_25_2 {G : am_G} (I A : Nat → Nat → Int32) (n : Nat) (hn : I 25 4 = nI n) (hN : n ≤ 240) (i : Nat) (hi : i < n) (t : Nat) (ht : I 36 4 = nI t) (ht2 : t < 4000) (ek : A 26 i = nI 2) (x : Nat) (hx : x < 32) (ex : A 27 i = nI x) (y : Nat) (hy : y < 32) (ey : A 28 i = nI y) (z : Nat) (hz : z < 32) (ez : A 29 i = nI z) : Cm G MX4_lineBehind 3 68 [.ref 36, .ref 25, .int (nI i)] I A (fun r I' A' => ∃ q s', q ≤ 401 ∧ r = some (.int (nI q)) ∧ (q = (cz_d1 (A 26) (A 27) (A 28) (A 29) i (A 37) (A 39) (A 40) (cz_sl (A 38)) t).2.2.2.2.2 ∨ (n ≤ q ∧ n ≤ (cz_d1 (A 26) (A 27) (A 28) (A 29) i (A 37) (A 39) (A 40) (cz_sl (A 38)) t).2.2.2.2.2)) ∧ cz_sl s' = (cz_d1 (A 26) (A 27) (A 28) (A 29) i (A 37) (A 39) (A 40) (cz_sl (A 38)) t).2.2.2.1 ∧ upI I 36 4 (nI (cz_d1 (A 26) (A 27) (A 28) (A 29) i (A 37) (A 39) (A 40) (cz_sl (A 38)) t).2.2.2.2.1) = I' ∧ upA (upA (upA (upA A 37 (cz_d1 (A 26) (A 27) (A 28) (A 29) i (A 37) (A 39) (A 40) (cz_sl (A 38)) t).1) 39 (cz_d1 (A 26) (A 27) (A 28) (A 29) i (A 37) (A 39) (A 40) (cz_sl (A 38)) t).2.1) 40 (cz_d1 (A 26) (A 27) (A 28) (A 29) i (A 37) (A 39) (A 40) (cz_sl (A 38)) t).2.2.1) 38 s' = A') := by
  refine Cm.of (by decide) (Nat.le_of_ble_eq_true rfl) rfl ?_
  show V G MX4_lineBehind (am_R 3 68 0 0) _ 0 0 0 [(0, .ref 36), (1, .ref 25), (2, .int (nI i))] [] (hp I A)
  refine V.aload_n (j := 1) rfl dX4_lineBehind_0 ?_
  refine V.getr (q := 27) dX4_lineBehind_1 fX4_44 rfl rfl ?_
  refine V.iload_n (j := 2) rfl dX4_lineBehind_4 ?_
  refine V.lda (v := nI x) dX4_lineBehind_5 rfl (by omega) (by decide) ex ?_
  refine V.istore_n (ls' := [(0, .ref 36), (1, .ref 25), (2, .int (nI i)), (3, .int (nI x))]) dX4_lineBehind_6 (by decide) rfl ?_
  refine V.aload_n (j := 1) rfl dX4_lineBehind_7 ?_
  refine V.getr (q := 26) dX4_lineBehind_8 fX4_47 rfl rfl ?_
  refine V.iload_n (j := 2) rfl dX4_lineBehind_11 ?_
  refine V.lda (v := nI 2) dX4_lineBehind_12 rfl (by omega) (by decide) ek ?_
  refine V.tableOut (tgt := 84) dX4_lineBehind_13 (by decide) (by decide) ?_
  refine V.aload_n (j := 0) rfl dX4_lineBehind_84 ?_
  refine V.aload_n (j := 1) rfl dX4_lineBehind_85 ?_
  refine V.getr (q := 26) dX4_lineBehind_86 fX4_47 rfl rfl ?_
  refine V.iload_n (j := 2) rfl dX4_lineBehind_89 ?_
  refine V.lda (v := nI 2) dX4_lineBehind_90 rfl (by omega) (by decide) ek ?_
  refine V.iload_n (j := 3) rfl dX4_lineBehind_91 ?_
  refine V.aload_n (j := 1) rfl dX4_lineBehind_92 ?_
  refine V.getr (q := 28) dX4_lineBehind_93 fX4_50 rfl rfl ?_
  refine V.iload_n (j := 2) rfl dX4_lineBehind_96 ?_
  refine V.lda (v := nI y) dX4_lineBehind_97 rfl (by omega) (by decide) ey ?_
  refine V.aload_n (j := 1) rfl dX4_lineBehind_98 ?_
  refine V.getr (q := 29) dX4_lineBehind_99 fX4_53 rfl rfl ?_
  refine V.iload_n (j := 2) rfl dX4_lineBehind_102 ?_
  refine V.lda (v := nI z) dX4_lineBehind_103 rfl (by omega) (by decide) ez ?_
  refine V.cV (As := [.int (nI 2), .int (nI x), .int (nI y), .int (nI z)]) (st := []) dX4_lineBehind_104 sX4_56 iX4_act lX4_act rfl rfl (cd_act36_2 I A x hx y hy z hz) ⟨by decide, by decide⟩ (Nat.le_of_ble_eq_true rfl) rfl (fun r I' A' hq => ?_)
  obtain ⟨rfl, rfl, rfl⟩ := hq
  refine V.st (st' := []) rfl ?_
  refine V.iload_n (j := 2) rfl dX4_lineBehind_107 ?_
  refine V.iconst (v := nI 1) (by decide) dX4_lineBehind_108 ?_
  refine V.iaddN dX4_lineBehind_109 ?_
  refine V.ri dX4_lineBehind_110 rfl ?_
  have ed : (A 26 i).toNatClampNeg = 2 := by rw [ek, nI_clamp (by omega)]
  have eD : cz_d1 (A 26) (A 27) (A 28) (A 29) i (A 37) (A 39) (A 40) (cz_sl (A 38)) t = (upd (A 37) x (mz_rk (nI 2) (A 37 y) (A 37 z)), A 39, A 40, cz_sl (A 38), t, i + 1) := by unfold cz_d1 mz_di1; rw [Nat.zero_add, cz_c_0, ed]; simp only [cz_c_1, cz_c_2, cz_c_3, ex, ey, ez, nI_clamp (show x < 2 ^ 31 by omega), nI_clamp (show y < 2 ^ 31 by omega), nI_clamp (show z < 2 ^ 31 by omega)]
  rw [eD]
  exact ⟨i + 1, A 38, by omega, rfl, Or.inl rfl, rfl, by rw [← ht, upI_i], (by rw [mz_rk2]; exact cz_M36_37)⟩
set_option maxRecDepth 100000 in
set_option maxHeartbeats 4000000 in
theorem cd_line36_25_3 {G : am_G} (I A : Nat → Nat → Int32) (n : Nat) (hn : I 25 4 = nI n) (hN : n ≤ 240) (i : Nat) (hi : i < n) (t : Nat) (ht : I 36 4 = nI t) (ht2 : t < 4000) (ek : A 26 i = nI 3) (x : Nat) (hx : x < 32) (ex : A 27 i = nI x) (y : Nat) (hy : y < 32) (ey : A 28 i = nI y) (z : Nat) (hz : z < 32) (ez : A 29 i = nI z) : Cm G MX4_lineBehind 3 68 [.ref 36, .ref 25, .int (nI i)] I A (fun r I' A' => ∃ q s', q ≤ 401 ∧ r = some (.int (nI q)) ∧ (q = (cz_d1 (A 26) (A 27) (A 28) (A 29) i (A 37) (A 39) (A 40) (cz_sl (A 38)) t).2.2.2.2.2 ∨ (n ≤ q ∧ n ≤ (cz_d1 (A 26) (A 27) (A 28) (A 29) i (A 37) (A 39) (A 40) (cz_sl (A 38)) t).2.2.2.2.2)) ∧ cz_sl s' = (cz_d1 (A 26) (A 27) (A 28) (A 29) i (A 37) (A 39) (A 40) (cz_sl (A 38)) t).2.2.2.1 ∧ upI I 36 4 (nI (cz_d1 (A 26) (A 27) (A 28) (A 29) i (A 37) (A 39) (A 40) (cz_sl (A 38)) t).2.2.2.2.1) = I' ∧ upA (upA (upA (upA A 37 (cz_d1 (A 26) (A 27) (A 28) (A 29) i (A 37) (A 39) (A 40) (cz_sl (A 38)) t).1) 39 (cz_d1 (A 26) (A 27) (A 28) (A 29) i (A 37) (A 39) (A 40) (cz_sl (A 38)) t).2.1) 40 (cz_d1 (A 26) (A 27) (A 28) (A 29) i (A 37) (A 39) (A 40) (cz_sl (A 38)) t).2.2.1) 38 s' = A') := by
  refine Cm.of (by decide) (Nat.le_of_ble_eq_true rfl) rfl ?_
  show V G MX4_lineBehind (am_R 3 68 0 0) _ 0 0 0 [(0, .ref 36), (1, .ref 25), (2, .int (nI i))] [] (hp I A)
  refine V.aload_n (j := 1) rfl dX4_lineBehind_0 ?_
  refine V.getr (q := 27) dX4_lineBehind_1 fX4_44 rfl rfl ?_
  refine V.iload_n (j := 2) rfl dX4_lineBehind_4 ?_
  refine V.lda (v := nI x) dX4_lineBehind_5 rfl (by omega) (by decide) ex ?_
  refine V.istore_n (ls' := [(0, .ref 36), (1, .ref 25), (2, .int (nI i)), (3, .int (nI x))]) dX4_lineBehind_6 (by decide) rfl ?_
  refine V.aload_n (j := 1) rfl dX4_lineBehind_7 ?_
  refine V.getr (q := 26) dX4_lineBehind_8 fX4_47 rfl rfl ?_
  refine V.iload_n (j := 2) rfl dX4_lineBehind_11 ?_
  refine V.lda (v := nI 3) dX4_lineBehind_12 rfl (by omega) (by decide) ek ?_
  refine V.tableOut (tgt := 84) dX4_lineBehind_13 (by decide) (by decide) ?_
  refine V.aload_n (j := 0) rfl dX4_lineBehind_84 ?_
  refine V.aload_n (j := 1) rfl dX4_lineBehind_85 ?_
  refine V.getr (q := 26) dX4_lineBehind_86 fX4_47 rfl rfl ?_
  refine V.iload_n (j := 2) rfl dX4_lineBehind_89 ?_
  refine V.lda (v := nI 3) dX4_lineBehind_90 rfl (by omega) (by decide) ek ?_
  refine V.iload_n (j := 3) rfl dX4_lineBehind_91 ?_
  refine V.aload_n (j := 1) rfl dX4_lineBehind_92 ?_
  refine V.getr (q := 28) dX4_lineBehind_93 fX4_50 rfl rfl ?_
  refine V.iload_n (j := 2) rfl dX4_lineBehind_96 ?_
  refine V.lda (v := nI y) dX4_lineBehind_97 rfl (by omega) (by decide) ey ?_
  refine V.aload_n (j := 1) rfl dX4_lineBehind_98 ?_
  refine V.getr (q := 29) dX4_lineBehind_99 fX4_53 rfl rfl ?_
  refine V.iload_n (j := 2) rfl dX4_lineBehind_102 ?_
  refine V.lda (v := nI z) dX4_lineBehind_103 rfl (by omega) (by decide) ez ?_
  refine V.cV (As := [.int (nI 3), .int (nI x), .int (nI y), .int (nI z)]) (st := []) dX4_lineBehind_104 sX4_56 iX4_act lX4_act rfl rfl (cd_act36_3 I A x hx y hy z hz) ⟨by decide, by decide⟩ (Nat.le_of_ble_eq_true rfl) rfl (fun r I' A' hq => ?_)
  obtain ⟨rfl, rfl, rfl⟩ := hq
  refine V.st (st' := []) rfl ?_
  refine V.iload_n (j := 2) rfl dX4_lineBehind_107 ?_
  refine V.iconst (v := nI 1) (by decide) dX4_lineBehind_108 ?_
  refine V.iaddN dX4_lineBehind_109 ?_
  refine V.ri dX4_lineBehind_110 rfl ?_
  have ed : (A 26 i).toNatClampNeg = 3 := by rw [ek, nI_clamp (by omega)]
  have eD : cz_d1 (A 26) (A 27) (A 28) (A 29) i (A 37) (A 39) (A 40) (cz_sl (A 38)) t = (upd (A 37) x (mz_rk (nI 3) (A 37 y) (A 37 z)), A 39, A 40, cz_sl (A 38), t, i + 1) := by unfold cz_d1 mz_di1; rw [Nat.zero_add, cz_c_0, ed]; simp only [cz_c_1, cz_c_2, cz_c_3, ex, ey, ez, nI_clamp (show x < 2 ^ 31 by omega), nI_clamp (show y < 2 ^ 31 by omega), nI_clamp (show z < 2 ^ 31 by omega)]
  rw [eD]
  exact ⟨i + 1, A 38, by omega, rfl, Or.inl rfl, rfl, by rw [← ht, upI_i], (by rw [mz_rk3]; exact cz_M36_37)⟩
set_option maxRecDepth 100000 in
set_option maxHeartbeats 4000000 in
theorem cd_line36_25_4 {G : am_G} (I A : Nat → Nat → Int32) (n : Nat) (hn : I 25 4 = nI n) (hN : n ≤ 240) (i : Nat) (hi : i < n) (t : Nat) (ht : I 36 4 = nI t) (ht2 : t < 4000) (ek : A 26 i = nI 4) (x : Nat) (hx : x < 32) (ex : A 27 i = nI x) (y : Nat) (hy : y < 32) (ey : A 28 i = nI y) (z : Nat) (hz : z < 32) (ez : A 29 i = nI z) : Cm G MX4_lineBehind 3 68 [.ref 36, .ref 25, .int (nI i)] I A (fun r I' A' => ∃ q s', q ≤ 401 ∧ r = some (.int (nI q)) ∧ (q = (cz_d1 (A 26) (A 27) (A 28) (A 29) i (A 37) (A 39) (A 40) (cz_sl (A 38)) t).2.2.2.2.2 ∨ (n ≤ q ∧ n ≤ (cz_d1 (A 26) (A 27) (A 28) (A 29) i (A 37) (A 39) (A 40) (cz_sl (A 38)) t).2.2.2.2.2)) ∧ cz_sl s' = (cz_d1 (A 26) (A 27) (A 28) (A 29) i (A 37) (A 39) (A 40) (cz_sl (A 38)) t).2.2.2.1 ∧ upI I 36 4 (nI (cz_d1 (A 26) (A 27) (A 28) (A 29) i (A 37) (A 39) (A 40) (cz_sl (A 38)) t).2.2.2.2.1) = I' ∧ upA (upA (upA (upA A 37 (cz_d1 (A 26) (A 27) (A 28) (A 29) i (A 37) (A 39) (A 40) (cz_sl (A 38)) t).1) 39 (cz_d1 (A 26) (A 27) (A 28) (A 29) i (A 37) (A 39) (A 40) (cz_sl (A 38)) t).2.1) 40 (cz_d1 (A 26) (A 27) (A 28) (A 29) i (A 37) (A 39) (A 40) (cz_sl (A 38)) t).2.2.1) 38 s' = A') := by
  refine Cm.of (by decide) (Nat.le_of_ble_eq_true rfl) rfl ?_
  show V G MX4_lineBehind (am_R 3 68 0 0) _ 0 0 0 [(0, .ref 36), (1, .ref 25), (2, .int (nI i))] [] (hp I A)
  refine V.aload_n (j := 1) rfl dX4_lineBehind_0 ?_
  refine V.getr (q := 27) dX4_lineBehind_1 fX4_44 rfl rfl ?_
  refine V.iload_n (j := 2) rfl dX4_lineBehind_4 ?_
  refine V.lda (v := nI x) dX4_lineBehind_5 rfl (by omega) (by decide) ex ?_
  refine V.istore_n (ls' := [(0, .ref 36), (1, .ref 25), (2, .int (nI i)), (3, .int (nI x))]) dX4_lineBehind_6 (by decide) rfl ?_
  refine V.aload_n (j := 1) rfl dX4_lineBehind_7 ?_
  refine V.getr (q := 26) dX4_lineBehind_8 fX4_47 rfl rfl ?_
  refine V.iload_n (j := 2) rfl dX4_lineBehind_11 ?_
  refine V.lda (v := nI 4) dX4_lineBehind_12 rfl (by omega) (by decide) ek ?_
  refine V.tableOut (tgt := 84) dX4_lineBehind_13 (by decide) (by decide) ?_
  refine V.aload_n (j := 0) rfl dX4_lineBehind_84 ?_
  refine V.aload_n (j := 1) rfl dX4_lineBehind_85 ?_
  refine V.getr (q := 26) dX4_lineBehind_86 fX4_47 rfl rfl ?_
  refine V.iload_n (j := 2) rfl dX4_lineBehind_89 ?_
  refine V.lda (v := nI 4) dX4_lineBehind_90 rfl (by omega) (by decide) ek ?_
  refine V.iload_n (j := 3) rfl dX4_lineBehind_91 ?_
  refine V.aload_n (j := 1) rfl dX4_lineBehind_92 ?_
  refine V.getr (q := 28) dX4_lineBehind_93 fX4_50 rfl rfl ?_
  refine V.iload_n (j := 2) rfl dX4_lineBehind_96 ?_
  refine V.lda (v := nI y) dX4_lineBehind_97 rfl (by omega) (by decide) ey ?_
  refine V.aload_n (j := 1) rfl dX4_lineBehind_98 ?_
  refine V.getr (q := 29) dX4_lineBehind_99 fX4_53 rfl rfl ?_
  refine V.iload_n (j := 2) rfl dX4_lineBehind_102 ?_
  refine V.lda (v := nI z) dX4_lineBehind_103 rfl (by omega) (by decide) ez ?_
  refine V.cV (As := [.int (nI 4), .int (nI x), .int (nI y), .int (nI z)]) (st := []) dX4_lineBehind_104 sX4_56 iX4_act lX4_act rfl rfl (cd_act36_4 I A x hx y hy z hz) ⟨by decide, by decide⟩ (Nat.le_of_ble_eq_true rfl) rfl (fun r I' A' hq => ?_)
  obtain ⟨rfl, rfl, rfl⟩ := hq
  refine V.st (st' := []) rfl ?_
  refine V.iload_n (j := 2) rfl dX4_lineBehind_107 ?_
  refine V.iconst (v := nI 1) (by decide) dX4_lineBehind_108 ?_
  refine V.iaddN dX4_lineBehind_109 ?_
  refine V.ri dX4_lineBehind_110 rfl ?_
  have ed : (A 26 i).toNatClampNeg = 4 := by rw [ek, nI_clamp (by omega)]
  have eD : cz_d1 (A 26) (A 27) (A 28) (A 29) i (A 37) (A 39) (A 40) (cz_sl (A 38)) t = (upd (A 37) x (mz_rk (nI 4) (A 37 y) (A 37 z)), A 39, A 40, cz_sl (A 38), t, i + 1) := by unfold cz_d1 mz_di1; rw [Nat.zero_add, cz_c_0, ed]; simp only [cz_c_1, cz_c_2, cz_c_3, ex, ey, ez, nI_clamp (show x < 2 ^ 31 by omega), nI_clamp (show y < 2 ^ 31 by omega), nI_clamp (show z < 2 ^ 31 by omega)]
  rw [eD]
  exact ⟨i + 1, A 38, by omega, rfl, Or.inl rfl, rfl, by rw [← ht, upI_i], (by rw [mz_rk4]; exact cz_M36_37)⟩
set_option maxRecDepth 100000 in
set_option maxHeartbeats 4000000 in
theorem cd_line36_25_5 {G : am_G} (I A : Nat → Nat → Int32) (n : Nat) (hn : I 25 4 = nI n) (hN : n ≤ 240) (i : Nat) (hi : i < n) (t : Nat) (ht : I 36 4 = nI t) (ht2 : t < 4000) (ek : A 26 i = nI 5) (x : Nat) (hx : x < 32) (ex : A 27 i = nI x) (y : Nat) (hy : y < 32) (ey : A 28 i = nI y) : Cm G MX4_lineBehind 3 68 [.ref 36, .ref 25, .int (nI i)] I A (fun r I' A' => ∃ q s', q ≤ 401 ∧ r = some (.int (nI q)) ∧ (q = (cz_d1 (A 26) (A 27) (A 28) (A 29) i (A 37) (A 39) (A 40) (cz_sl (A 38)) t).2.2.2.2.2 ∨ (n ≤ q ∧ n ≤ (cz_d1 (A 26) (A 27) (A 28) (A 29) i (A 37) (A 39) (A 40) (cz_sl (A 38)) t).2.2.2.2.2)) ∧ cz_sl s' = (cz_d1 (A 26) (A 27) (A 28) (A 29) i (A 37) (A 39) (A 40) (cz_sl (A 38)) t).2.2.2.1 ∧ upI I 36 4 (nI (cz_d1 (A 26) (A 27) (A 28) (A 29) i (A 37) (A 39) (A 40) (cz_sl (A 38)) t).2.2.2.2.1) = I' ∧ upA (upA (upA (upA A 37 (cz_d1 (A 26) (A 27) (A 28) (A 29) i (A 37) (A 39) (A 40) (cz_sl (A 38)) t).1) 39 (cz_d1 (A 26) (A 27) (A 28) (A 29) i (A 37) (A 39) (A 40) (cz_sl (A 38)) t).2.1) 40 (cz_d1 (A 26) (A 27) (A 28) (A 29) i (A 37) (A 39) (A 40) (cz_sl (A 38)) t).2.2.1) 38 s' = A') := by
  refine Cm.of (by decide) (Nat.le_of_ble_eq_true rfl) rfl ?_
  show V G MX4_lineBehind (am_R 3 68 0 0) _ 0 0 0 [(0, .ref 36), (1, .ref 25), (2, .int (nI i))] [] (hp I A)
  refine V.aload_n (j := 1) rfl dX4_lineBehind_0 ?_
  refine V.getr (q := 27) dX4_lineBehind_1 fX4_44 rfl rfl ?_
  refine V.iload_n (j := 2) rfl dX4_lineBehind_4 ?_
  refine V.lda (v := nI x) dX4_lineBehind_5 rfl (by omega) (by decide) ex ?_
  refine V.istore_n (ls' := [(0, .ref 36), (1, .ref 25), (2, .int (nI i)), (3, .int (nI x))]) dX4_lineBehind_6 (by decide) rfl ?_
  refine V.aload_n (j := 1) rfl dX4_lineBehind_7 ?_
  refine V.getr (q := 26) dX4_lineBehind_8 fX4_47 rfl rfl ?_
  refine V.iload_n (j := 2) rfl dX4_lineBehind_11 ?_
  refine V.lda (v := nI 5) dX4_lineBehind_12 rfl (by omega) (by decide) ek ?_
  refine V.tableOut (tgt := 84) dX4_lineBehind_13 (by decide) (by decide) ?_
  refine V.aload_n (j := 0) rfl dX4_lineBehind_84 ?_
  refine V.aload_n (j := 1) rfl dX4_lineBehind_85 ?_
  refine V.getr (q := 26) dX4_lineBehind_86 fX4_47 rfl rfl ?_
  refine V.iload_n (j := 2) rfl dX4_lineBehind_89 ?_
  refine V.lda (v := nI 5) dX4_lineBehind_90 rfl (by omega) (by decide) ek ?_
  refine V.iload_n (j := 3) rfl dX4_lineBehind_91 ?_
  refine V.aload_n (j := 1) rfl dX4_lineBehind_92 ?_
  refine V.getr (q := 28) dX4_lineBehind_93 fX4_50 rfl rfl ?_
  refine V.iload_n (j := 2) rfl dX4_lineBehind_96 ?_
  refine V.lda (v := nI y) dX4_lineBehind_97 rfl (by omega) (by decide) ey ?_
  refine V.aload_n (j := 1) rfl dX4_lineBehind_98 ?_
  refine V.getr (q := 29) dX4_lineBehind_99 fX4_53 rfl rfl ?_
  refine V.iload_n (j := 2) rfl dX4_lineBehind_102 ?_
  refine V.lda (v := A 29 i) dX4_lineBehind_103 rfl (by omega) (by decide) rfl ?_
  refine V.cV (As := [.int (nI 5), .int (nI x), .int (nI y), .int (A 29 i)]) (st := []) dX4_lineBehind_104 sX4_56 iX4_act lX4_act rfl rfl (cd_act36_5 I A x hx y hy _) ⟨by decide, by decide⟩ (Nat.le_of_ble_eq_true rfl) rfl (fun r I' A' hq => ?_)
  obtain ⟨rfl, rfl, rfl⟩ := hq
  refine V.st (st' := []) rfl ?_
  refine V.iload_n (j := 2) rfl dX4_lineBehind_107 ?_
  refine V.iconst (v := nI 1) (by decide) dX4_lineBehind_108 ?_
  refine V.iaddN dX4_lineBehind_109 ?_
  refine V.ri dX4_lineBehind_110 rfl ?_
  have ed : (A 26 i).toNatClampNeg = 5 := by rw [ek, nI_clamp (by omega)]
  have eD : cz_d1 (A 26) (A 27) (A 28) (A 29) i (A 37) (A 39) (A 40) (cz_sl (A 38)) t = (upd (A 37) x (A 39 (mz_cl (A 37 y + A 29 i))), A 39, A 40, cz_sl (A 38), t, i + 1) := by unfold cz_d1 mz_di1; rw [Nat.zero_add, cz_c_0, ed]; simp only [cz_c_1, cz_c_2, cz_c_3, ex, ey, nI_clamp (show x < 2 ^ 31 by omega), nI_clamp (show y < 2 ^ 31 by omega)]
  rw [eD]
  exact ⟨i + 1, A 38, by omega, rfl, Or.inl rfl, rfl, by rw [← ht, upI_i], cz_M36_37⟩
set_option maxRecDepth 100000 in
set_option maxHeartbeats 4000000 in
theorem cd_line36_25_6 {G : am_G} (I A : Nat → Nat → Int32) (n : Nat) (hn : I 25 4 = nI n) (hN : n ≤ 240) (i : Nat) (hi : i < n) (t : Nat) (ht : I 36 4 = nI t) (ht2 : t < 4000) (ek : A 26 i = nI 6) (x : Nat) (hx : x < 32) (ex : A 27 i = nI x) (y : Nat) (hy : y < 32) (ey : A 28 i = nI y) : Cm G MX4_lineBehind 3 68 [.ref 36, .ref 25, .int (nI i)] I A (fun r I' A' => ∃ q s', q ≤ 401 ∧ r = some (.int (nI q)) ∧ (q = (cz_d1 (A 26) (A 27) (A 28) (A 29) i (A 37) (A 39) (A 40) (cz_sl (A 38)) t).2.2.2.2.2 ∨ (n ≤ q ∧ n ≤ (cz_d1 (A 26) (A 27) (A 28) (A 29) i (A 37) (A 39) (A 40) (cz_sl (A 38)) t).2.2.2.2.2)) ∧ cz_sl s' = (cz_d1 (A 26) (A 27) (A 28) (A 29) i (A 37) (A 39) (A 40) (cz_sl (A 38)) t).2.2.2.1 ∧ upI I 36 4 (nI (cz_d1 (A 26) (A 27) (A 28) (A 29) i (A 37) (A 39) (A 40) (cz_sl (A 38)) t).2.2.2.2.1) = I' ∧ upA (upA (upA (upA A 37 (cz_d1 (A 26) (A 27) (A 28) (A 29) i (A 37) (A 39) (A 40) (cz_sl (A 38)) t).1) 39 (cz_d1 (A 26) (A 27) (A 28) (A 29) i (A 37) (A 39) (A 40) (cz_sl (A 38)) t).2.1) 40 (cz_d1 (A 26) (A 27) (A 28) (A 29) i (A 37) (A 39) (A 40) (cz_sl (A 38)) t).2.2.1) 38 s' = A') := by
  refine Cm.of (by decide) (Nat.le_of_ble_eq_true rfl) rfl ?_
  show V G MX4_lineBehind (am_R 3 68 0 0) _ 0 0 0 [(0, .ref 36), (1, .ref 25), (2, .int (nI i))] [] (hp I A)
  refine V.aload_n (j := 1) rfl dX4_lineBehind_0 ?_
  refine V.getr (q := 27) dX4_lineBehind_1 fX4_44 rfl rfl ?_
  refine V.iload_n (j := 2) rfl dX4_lineBehind_4 ?_
  refine V.lda (v := nI x) dX4_lineBehind_5 rfl (by omega) (by decide) ex ?_
  refine V.istore_n (ls' := [(0, .ref 36), (1, .ref 25), (2, .int (nI i)), (3, .int (nI x))]) dX4_lineBehind_6 (by decide) rfl ?_
  refine V.aload_n (j := 1) rfl dX4_lineBehind_7 ?_
  refine V.getr (q := 26) dX4_lineBehind_8 fX4_47 rfl rfl ?_
  refine V.iload_n (j := 2) rfl dX4_lineBehind_11 ?_
  refine V.lda (v := nI 6) dX4_lineBehind_12 rfl (by omega) (by decide) ek ?_
  refine V.tableOut (tgt := 84) dX4_lineBehind_13 (by decide) (by decide) ?_
  refine V.aload_n (j := 0) rfl dX4_lineBehind_84 ?_
  refine V.aload_n (j := 1) rfl dX4_lineBehind_85 ?_
  refine V.getr (q := 26) dX4_lineBehind_86 fX4_47 rfl rfl ?_
  refine V.iload_n (j := 2) rfl dX4_lineBehind_89 ?_
  refine V.lda (v := nI 6) dX4_lineBehind_90 rfl (by omega) (by decide) ek ?_
  refine V.iload_n (j := 3) rfl dX4_lineBehind_91 ?_
  refine V.aload_n (j := 1) rfl dX4_lineBehind_92 ?_
  refine V.getr (q := 28) dX4_lineBehind_93 fX4_50 rfl rfl ?_
  refine V.iload_n (j := 2) rfl dX4_lineBehind_96 ?_
  refine V.lda (v := nI y) dX4_lineBehind_97 rfl (by omega) (by decide) ey ?_
  refine V.aload_n (j := 1) rfl dX4_lineBehind_98 ?_
  refine V.getr (q := 29) dX4_lineBehind_99 fX4_53 rfl rfl ?_
  refine V.iload_n (j := 2) rfl dX4_lineBehind_102 ?_
  refine V.lda (v := A 29 i) dX4_lineBehind_103 rfl (by omega) (by decide) rfl ?_
  refine V.cV (As := [.int (nI 6), .int (nI x), .int (nI y), .int (A 29 i)]) (st := []) dX4_lineBehind_104 sX4_56 iX4_act lX4_act rfl rfl (cd_act36_6 I A x hx y hy _) ⟨by decide, by decide⟩ (Nat.le_of_ble_eq_true rfl) rfl (fun r I' A' hq => ?_)
  obtain ⟨rfl, rfl, rfl⟩ := hq
  refine V.st (st' := []) rfl ?_
  refine V.iload_n (j := 2) rfl dX4_lineBehind_107 ?_
  refine V.iconst (v := nI 1) (by decide) dX4_lineBehind_108 ?_
  refine V.iaddN dX4_lineBehind_109 ?_
  refine V.ri dX4_lineBehind_110 rfl ?_
  have ed : (A 26 i).toNatClampNeg = 6 := by rw [ek, nI_clamp (by omega)]
  have eD : cz_d1 (A 26) (A 27) (A 28) (A 29) i (A 37) (A 39) (A 40) (cz_sl (A 38)) t = (A 37, upd (A 39) (mz_cl (A 37 y + A 29 i)) (A 37 x), A 40, cz_sl (A 38), t, i + 1) := by unfold cz_d1 mz_di1; rw [Nat.zero_add, cz_c_0, ed]; simp only [cz_c_1, cz_c_2, cz_c_3, ex, ey, nI_clamp (show x < 2 ^ 31 by omega), nI_clamp (show y < 2 ^ 31 by omega)]
  rw [eD]
  exact ⟨i + 1, A 38, by omega, rfl, Or.inl rfl, rfl, by rw [← ht, upI_i], cz_M36_39⟩
set_option maxRecDepth 100000 in
set_option maxHeartbeats 4000000 in
theorem cd_line36_25_7 {G : am_G} (I A : Nat → Nat → Int32) (n : Nat) (hn : I 25 4 = nI n) (hN : n ≤ 240) (i : Nat) (hi : i < n) (t : Nat) (ht : I 36 4 = nI t) (ht2 : t < 4000) (ek : A 26 i = nI 7) (x : Nat) (hx : x < 32) (ex : A 27 i = nI x) (y : Nat) (hy : y < 32) (ey : A 28 i = nI y) (z : Nat) (hz : z ≤ 400) (ez : A 29 i = nI z) : Cm G MX4_lineBehind 3 68 [.ref 36, .ref 25, .int (nI i)] I A (fun r I' A' => ∃ q s', q ≤ 401 ∧ r = some (.int (nI q)) ∧ (q = (cz_d1 (A 26) (A 27) (A 28) (A 29) i (A 37) (A 39) (A 40) (cz_sl (A 38)) t).2.2.2.2.2 ∨ (n ≤ q ∧ n ≤ (cz_d1 (A 26) (A 27) (A 28) (A 29) i (A 37) (A 39) (A 40) (cz_sl (A 38)) t).2.2.2.2.2)) ∧ cz_sl s' = (cz_d1 (A 26) (A 27) (A 28) (A 29) i (A 37) (A 39) (A 40) (cz_sl (A 38)) t).2.2.2.1 ∧ upI I 36 4 (nI (cz_d1 (A 26) (A 27) (A 28) (A 29) i (A 37) (A 39) (A 40) (cz_sl (A 38)) t).2.2.2.2.1) = I' ∧ upA (upA (upA (upA A 37 (cz_d1 (A 26) (A 27) (A 28) (A 29) i (A 37) (A 39) (A 40) (cz_sl (A 38)) t).1) 39 (cz_d1 (A 26) (A 27) (A 28) (A 29) i (A 37) (A 39) (A 40) (cz_sl (A 38)) t).2.1) 40 (cz_d1 (A 26) (A 27) (A 28) (A 29) i (A 37) (A 39) (A 40) (cz_sl (A 38)) t).2.2.1) 38 s' = A') := by
  refine Cm.of (by decide) (Nat.le_of_ble_eq_true rfl) rfl ?_
  show V G MX4_lineBehind (am_R 3 68 0 0) _ 0 0 0 [(0, .ref 36), (1, .ref 25), (2, .int (nI i))] [] (hp I A)
  refine V.aload_n (j := 1) rfl dX4_lineBehind_0 ?_
  refine V.getr (q := 27) dX4_lineBehind_1 fX4_44 rfl rfl ?_
  refine V.iload_n (j := 2) rfl dX4_lineBehind_4 ?_
  refine V.lda (v := nI x) dX4_lineBehind_5 rfl (by omega) (by decide) ex ?_
  refine V.istore_n (ls' := [(0, .ref 36), (1, .ref 25), (2, .int (nI i)), (3, .int (nI x))]) dX4_lineBehind_6 (by decide) rfl ?_
  refine V.aload_n (j := 1) rfl dX4_lineBehind_7 ?_
  refine V.getr (q := 26) dX4_lineBehind_8 fX4_47 rfl rfl ?_
  refine V.iload_n (j := 2) rfl dX4_lineBehind_11 ?_
  refine V.lda (v := nI 7) dX4_lineBehind_12 rfl (by omega) (by decide) ek ?_
  refine V.tableIn (tgt := 44) dX4_lineBehind_13 (by decide) (by decide) rfl (by decide) ?_
  refine V.aload_n (j := 0) rfl dX4_lineBehind_44 ?_
  refine V.getr (q := 37) dX4_lineBehind_45 fX4_9 rfl rfl ?_
  refine V.iload_n (j := 3) rfl dX4_lineBehind_48 ?_
  refine V.lda (v := A 37 x) dX4_lineBehind_49 rfl (by omega) (by decide) rfl ?_
  refine V.aload_n (j := 0) rfl dX4_lineBehind_50 ?_
  refine V.getr (q := 37) dX4_lineBehind_51 fX4_9 rfl rfl ?_
  refine V.aload_n (j := 1) rfl dX4_lineBehind_54 ?_
  refine V.getr (q := 28) dX4_lineBehind_55 fX4_50 rfl rfl ?_
  refine V.iload_n (j := 2) rfl dX4_lineBehind_58 ?_
  refine V.lda (v := nI y) dX4_lineBehind_59 rfl (by omega) (by decide) ey ?_
  refine V.lda (v := A 37 y) dX4_lineBehind_60 rfl (by omega) (by decide) rfl ?_
  refine V.icmp_ge (tgt := 73) dX4_lineBehind_61 (by decide) (fun c1 => ?_) (fun c1 => ?_)
  · refine V.iload_n (j := 2) rfl dX4_lineBehind_73 ?_
    refine V.iconst (v := nI 1) (by decide) dX4_lineBehind_74 ?_
    refine V.iaddN dX4_lineBehind_75 ?_
    refine V.ri dX4_lineBehind_76 rfl ?_
    have ed : (A 26 i).toNatClampNeg = 7 := by rw [ek, nI_clamp (by omega)]
    have eD : cz_d1 (A 26) (A 27) (A 28) (A 29) i (A 37) (A 39) (A 40) (cz_sl (A 38)) t = (A 37, A 39, A 40, cz_sl (A 38), t, if A 37 y ≤ A 37 x then i + 1 else z) := by unfold cz_d1 mz_di1; rw [Nat.zero_add, cz_c_0, ed]; simp only [cz_c_1, cz_c_2, cz_c_3, ex, ey, ez, nI_clamp (show x < 2 ^ 31 by omega), nI_clamp (show y < 2 ^ 31 by omega), nI_clamp (show z < 2 ^ 31 by omega)]
    rw [eD]
    exact ⟨i + 1, A 38, by omega, rfl, Or.inl (by show _ = (if A 37 y ≤ A 37 x then i + 1 else z); rw [if_pos c1]), rfl, by rw [← ht, upI_i], cz_M36_0⟩
  · refine V.aload_n (j := 1) rfl dX4_lineBehind_64 ?_
    refine V.getr (q := 29) dX4_lineBehind_65 fX4_53 rfl rfl ?_
    refine V.iload_n (j := 2) rfl dX4_lineBehind_68 ?_
    refine V.lda (v := nI z) dX4_lineBehind_69 rfl (by omega) (by decide) ez ?_
    refine V.goto (tgt := 76) dX4_lineBehind_70 (by decide) ?_
    refine V.ri dX4_lineBehind_76 rfl ?_
    have ed : (A 26 i).toNatClampNeg = 7 := by rw [ek, nI_clamp (by omega)]
    have eD : cz_d1 (A 26) (A 27) (A 28) (A 29) i (A 37) (A 39) (A 40) (cz_sl (A 38)) t = (A 37, A 39, A 40, cz_sl (A 38), t, if A 37 y ≤ A 37 x then i + 1 else z) := by unfold cz_d1 mz_di1; rw [Nat.zero_add, cz_c_0, ed]; simp only [cz_c_1, cz_c_2, cz_c_3, ex, ey, ez, nI_clamp (show x < 2 ^ 31 by omega), nI_clamp (show y < 2 ^ 31 by omega), nI_clamp (show z < 2 ^ 31 by omega)]
    rw [eD]
    exact ⟨z, A 38, by omega, rfl, Or.inl (by show _ = (if A 37 y ≤ A 37 x then i + 1 else z); rw [if_neg c1]), rfl, by rw [← ht, upI_i], cz_M36_0⟩
set_option maxRecDepth 100000 in
set_option maxHeartbeats 4000000 in
theorem cd_line36_25_8 {G : am_G} (I A : Nat → Nat → Int32) (n : Nat) (hn : I 25 4 = nI n) (hN : n ≤ 240) (i : Nat) (hi : i < n) (t : Nat) (ht : I 36 4 = nI t) (ht2 : t < 4000) (ek : A 26 i = nI 8) (x : Nat) (hx : x ≤ 400) (ex : A 27 i = nI x) : Cm G MX4_lineBehind 3 68 [.ref 36, .ref 25, .int (nI i)] I A (fun r I' A' => ∃ q s', q ≤ 401 ∧ r = some (.int (nI q)) ∧ (q = (cz_d1 (A 26) (A 27) (A 28) (A 29) i (A 37) (A 39) (A 40) (cz_sl (A 38)) t).2.2.2.2.2 ∨ (n ≤ q ∧ n ≤ (cz_d1 (A 26) (A 27) (A 28) (A 29) i (A 37) (A 39) (A 40) (cz_sl (A 38)) t).2.2.2.2.2)) ∧ cz_sl s' = (cz_d1 (A 26) (A 27) (A 28) (A 29) i (A 37) (A 39) (A 40) (cz_sl (A 38)) t).2.2.2.1 ∧ upI I 36 4 (nI (cz_d1 (A 26) (A 27) (A 28) (A 29) i (A 37) (A 39) (A 40) (cz_sl (A 38)) t).2.2.2.2.1) = I' ∧ upA (upA (upA (upA A 37 (cz_d1 (A 26) (A 27) (A 28) (A 29) i (A 37) (A 39) (A 40) (cz_sl (A 38)) t).1) 39 (cz_d1 (A 26) (A 27) (A 28) (A 29) i (A 37) (A 39) (A 40) (cz_sl (A 38)) t).2.1) 40 (cz_d1 (A 26) (A 27) (A 28) (A 29) i (A 37) (A 39) (A 40) (cz_sl (A 38)) t).2.2.1) 38 s' = A') := by
  refine Cm.of (by decide) (Nat.le_of_ble_eq_true rfl) rfl ?_
  show V G MX4_lineBehind (am_R 3 68 0 0) _ 0 0 0 [(0, .ref 36), (1, .ref 25), (2, .int (nI i))] [] (hp I A)
  refine V.aload_n (j := 1) rfl dX4_lineBehind_0 ?_
  refine V.getr (q := 27) dX4_lineBehind_1 fX4_44 rfl rfl ?_
  refine V.iload_n (j := 2) rfl dX4_lineBehind_4 ?_
  refine V.lda (v := nI x) dX4_lineBehind_5 rfl (by omega) (by decide) ex ?_
  refine V.istore_n (ls' := [(0, .ref 36), (1, .ref 25), (2, .int (nI i)), (3, .int (nI x))]) dX4_lineBehind_6 (by decide) rfl ?_
  refine V.aload_n (j := 1) rfl dX4_lineBehind_7 ?_
  refine V.getr (q := 26) dX4_lineBehind_8 fX4_47 rfl rfl ?_
  refine V.iload_n (j := 2) rfl dX4_lineBehind_11 ?_
  refine V.lda (v := nI 8) dX4_lineBehind_12 rfl (by omega) (by decide) ek ?_
  refine V.tableIn (tgt := 77) dX4_lineBehind_13 (by decide) (by decide) rfl (by decide) ?_
  refine V.iload_n (j := 3) rfl dX4_lineBehind_77 ?_
  refine V.ri dX4_lineBehind_78 rfl ?_
  have ed : (A 26 i).toNatClampNeg = 8 := by rw [ek, nI_clamp (by omega)]
  have eD : cz_d1 (A 26) (A 27) (A 28) (A 29) i (A 37) (A 39) (A 40) (cz_sl (A 38)) t = (A 37, A 39, A 40, cz_sl (A 38), t, x) := by unfold cz_d1 mz_di1; rw [Nat.zero_add, cz_c_0, ed]; simp only [cz_c_1, cz_c_2, cz_c_3, ex, nI_clamp (show x < 2 ^ 31 by omega)]
  rw [eD]
  exact ⟨x, A 38, by omega, rfl, Or.inl rfl, rfl, by rw [← ht, upI_i], cz_M36_0⟩
set_option maxRecDepth 100000 in
set_option maxHeartbeats 4000000 in
theorem cd_line36_25_9 {G : am_G} (I A : Nat → Nat → Int32) (n : Nat) (hn : I 25 4 = nI n) (hN : n ≤ 240) (i : Nat) (hi : i < n) (t : Nat) (ht : I 36 4 = nI t) (ht2 : t < 4000) (ek : A 26 i = nI 9) (x : Nat) (hx : x < 32) (ex : A 27 i = nI x) : Cm G MX4_lineBehind 3 68 [.ref 36, .ref 25, .int (nI i)] I A (fun r I' A' => ∃ q s', q ≤ 401 ∧ r = some (.int (nI q)) ∧ (q = (cz_d1 (A 26) (A 27) (A 28) (A 29) i (A 37) (A 39) (A 40) (cz_sl (A 38)) t).2.2.2.2.2 ∨ (n ≤ q ∧ n ≤ (cz_d1 (A 26) (A 27) (A 28) (A 29) i (A 37) (A 39) (A 40) (cz_sl (A 38)) t).2.2.2.2.2)) ∧ cz_sl s' = (cz_d1 (A 26) (A 27) (A 28) (A 29) i (A 37) (A 39) (A 40) (cz_sl (A 38)) t).2.2.2.1 ∧ upI I 36 4 (nI (cz_d1 (A 26) (A 27) (A 28) (A 29) i (A 37) (A 39) (A 40) (cz_sl (A 38)) t).2.2.2.2.1) = I' ∧ upA (upA (upA (upA A 37 (cz_d1 (A 26) (A 27) (A 28) (A 29) i (A 37) (A 39) (A 40) (cz_sl (A 38)) t).1) 39 (cz_d1 (A 26) (A 27) (A 28) (A 29) i (A 37) (A 39) (A 40) (cz_sl (A 38)) t).2.1) 40 (cz_d1 (A 26) (A 27) (A 28) (A 29) i (A 37) (A 39) (A 40) (cz_sl (A 38)) t).2.2.1) 38 s' = A') := by
  refine Cm.of (by decide) (Nat.le_of_ble_eq_true rfl) rfl ?_
  show V G MX4_lineBehind (am_R 3 68 0 0) _ 0 0 0 [(0, .ref 36), (1, .ref 25), (2, .int (nI i))] [] (hp I A)
  refine V.aload_n (j := 1) rfl dX4_lineBehind_0 ?_
  refine V.getr (q := 27) dX4_lineBehind_1 fX4_44 rfl rfl ?_
  refine V.iload_n (j := 2) rfl dX4_lineBehind_4 ?_
  refine V.lda (v := nI x) dX4_lineBehind_5 rfl (by omega) (by decide) ex ?_
  refine V.istore_n (ls' := [(0, .ref 36), (1, .ref 25), (2, .int (nI i)), (3, .int (nI x))]) dX4_lineBehind_6 (by decide) rfl ?_
  refine V.aload_n (j := 1) rfl dX4_lineBehind_7 ?_
  refine V.getr (q := 26) dX4_lineBehind_8 fX4_47 rfl rfl ?_
  refine V.iload_n (j := 2) rfl dX4_lineBehind_11 ?_
  refine V.lda (v := nI 9) dX4_lineBehind_12 rfl (by omega) (by decide) ek ?_
  refine V.tableIn (tgt := 84) dX4_lineBehind_13 (by decide) (by decide) rfl (by decide) ?_
  refine V.aload_n (j := 0) rfl dX4_lineBehind_84 ?_
  refine V.aload_n (j := 1) rfl dX4_lineBehind_85 ?_
  refine V.getr (q := 26) dX4_lineBehind_86 fX4_47 rfl rfl ?_
  refine V.iload_n (j := 2) rfl dX4_lineBehind_89 ?_
  refine V.lda (v := nI 9) dX4_lineBehind_90 rfl (by omega) (by decide) ek ?_
  refine V.iload_n (j := 3) rfl dX4_lineBehind_91 ?_
  refine V.aload_n (j := 1) rfl dX4_lineBehind_92 ?_
  refine V.getr (q := 28) dX4_lineBehind_93 fX4_50 rfl rfl ?_
  refine V.iload_n (j := 2) rfl dX4_lineBehind_96 ?_
  refine V.lda (v := A 28 i) dX4_lineBehind_97 rfl (by omega) (by decide) rfl ?_
  refine V.aload_n (j := 1) rfl dX4_lineBehind_98 ?_
  refine V.getr (q := 29) dX4_lineBehind_99 fX4_53 rfl rfl ?_
  refine V.iload_n (j := 2) rfl dX4_lineBehind_102 ?_
  refine V.lda (v := A 29 i) dX4_lineBehind_103 rfl (by omega) (by decide) rfl ?_
  refine V.cV (As := [.int (nI 9), .int (nI x), .int (A 28 i), .int (A 29 i)]) (st := []) dX4_lineBehind_104 sX4_56 iX4_act lX4_act rfl rfl (cd_act36_9 I A x hx _ _ t ht ht2) ⟨by decide, by decide⟩ (Nat.le_of_ble_eq_true rfl) rfl (fun r I' A' hq => ?_)
  obtain ⟨rfl, rfl, rfl⟩ := hq
  refine V.st (st' := []) rfl ?_
  refine V.iload_n (j := 2) rfl dX4_lineBehind_107 ?_
  refine V.iconst (v := nI 1) (by decide) dX4_lineBehind_108 ?_
  refine V.iaddN dX4_lineBehind_109 ?_
  refine V.ri dX4_lineBehind_110 rfl ?_
  have ed : (A 26 i).toNatClampNeg = 9 := by rw [ek, nI_clamp (by omega)]
  have eD : cz_d1 (A 26) (A 27) (A 28) (A 29) i (A 37) (A 39) (A 40) (cz_sl (A 38)) t = (A 37, A 39, mz_sy t (A 40) (A 37 x), cz_sl (A 38), t + 1, i + 1) := by unfold cz_d1 mz_di1; rw [Nat.zero_add, cz_c_0, ed]; simp only [cz_c_1, cz_c_2, cz_c_3, ex, nI_clamp (show x < 2 ^ 31 by omega)]
  rw [eD]
  exact ⟨i + 1, A 38, by omega, rfl, Or.inl rfl, rfl, rfl, cz_M36_40⟩
set_option maxRecDepth 100000 in
set_option maxHeartbeats 4000000 in
theorem cd_line36_25_10 {G : am_G} (I A : Nat → Nat → Int32) (n : Nat) (hn : I 25 4 = nI n) (hN : n ≤ 240) (i : Nat) (hi : i < n) (t : Nat) (ht : I 36 4 = nI t) (ht2 : t < 4000) (ek : A 26 i = nI 10) : Cm G MX4_lineBehind 3 68 [.ref 36, .ref 25, .int (nI i)] I A (fun r I' A' => ∃ q s', q ≤ 401 ∧ r = some (.int (nI q)) ∧ (q = (cz_d1 (A 26) (A 27) (A 28) (A 29) i (A 37) (A 39) (A 40) (cz_sl (A 38)) t).2.2.2.2.2 ∨ (n ≤ q ∧ n ≤ (cz_d1 (A 26) (A 27) (A 28) (A 29) i (A 37) (A 39) (A 40) (cz_sl (A 38)) t).2.2.2.2.2)) ∧ cz_sl s' = (cz_d1 (A 26) (A 27) (A 28) (A 29) i (A 37) (A 39) (A 40) (cz_sl (A 38)) t).2.2.2.1 ∧ upI I 36 4 (nI (cz_d1 (A 26) (A 27) (A 28) (A 29) i (A 37) (A 39) (A 40) (cz_sl (A 38)) t).2.2.2.2.1) = I' ∧ upA (upA (upA (upA A 37 (cz_d1 (A 26) (A 27) (A 28) (A 29) i (A 37) (A 39) (A 40) (cz_sl (A 38)) t).1) 39 (cz_d1 (A 26) (A 27) (A 28) (A 29) i (A 37) (A 39) (A 40) (cz_sl (A 38)) t).2.1) 40 (cz_d1 (A 26) (A 27) (A 28) (A 29) i (A 37) (A 39) (A 40) (cz_sl (A 38)) t).2.2.1) 38 s' = A') := by
  refine Cm.of (by decide) (Nat.le_of_ble_eq_true rfl) rfl ?_
  show V G MX4_lineBehind (am_R 3 68 0 0) _ 0 0 0 [(0, .ref 36), (1, .ref 25), (2, .int (nI i))] [] (hp I A)
  refine V.aload_n (j := 1) rfl dX4_lineBehind_0 ?_
  refine V.getr (q := 27) dX4_lineBehind_1 fX4_44 rfl rfl ?_
  refine V.iload_n (j := 2) rfl dX4_lineBehind_4 ?_
  refine V.lda (v := A 27 i) dX4_lineBehind_5 rfl (by omega) (by decide) rfl ?_
  refine V.istore_n (ls' := [(0, .ref 36), (1, .ref 25), (2, .int (nI i)), (3, .int (A 27 i))]) dX4_lineBehind_6 (by decide) rfl ?_
  refine V.aload_n (j := 1) rfl dX4_lineBehind_7 ?_
  refine V.getr (q := 26) dX4_lineBehind_8 fX4_47 rfl rfl ?_
  refine V.iload_n (j := 2) rfl dX4_lineBehind_11 ?_
  refine V.lda (v := nI 10) dX4_lineBehind_12 rfl (by omega) (by decide) ek ?_
  refine V.tableIn (tgt := 79) dX4_lineBehind_13 (by decide) (by decide) rfl (by decide) ?_
  refine V.aload_n (j := 1) rfl dX4_lineBehind_79 ?_
  refine V.geti (v := nI n) dX4_lineBehind_80 fX4_35 rfl rfl hn ?_
  refine V.ri dX4_lineBehind_83 rfl ?_
  have ed : (A 26 i).toNatClampNeg = 10 := by rw [ek, nI_clamp (by omega)]
  have eD : cz_d1 (A 26) (A 27) (A 28) (A 29) i (A 37) (A 39) (A 40) (cz_sl (A 38)) t = (A 37, A 39, A 40, cz_sl (A 38), t, 400) := by unfold cz_d1 mz_di1; rw [Nat.zero_add, cz_c_0, ed]; simp only [cz_c_1, cz_c_2, cz_c_3]
  rw [eD]
  exact ⟨n, A 38, by omega, rfl, Or.inr ⟨Nat.le_refl _, by show n ≤ 400; omega⟩, rfl, by rw [← ht, upI_i], cz_M36_0⟩
set_option maxRecDepth 100000 in
set_option maxHeartbeats 4000000 in
theorem cd_line36_25_11 {G : am_G} (I A : Nat → Nat → Int32) (n : Nat) (hn : I 25 4 = nI n) (hN : n ≤ 240) (i : Nat) (hi : i < n) (t : Nat) (ht : I 36 4 = nI t) (ht2 : t < 4000) (ek : A 26 i = nI 11) (x : Nat) (hx : x < 32) (ex : A 27 i = nI x) (y : Nat) (hy : y < 24) (ey : A 28 i = nI y) : Cm G MX4_lineBehind 3 68 [.ref 36, .ref 25, .int (nI i)] I A (fun r I' A' => ∃ q s', q ≤ 401 ∧ r = some (.int (nI q)) ∧ (q = (cz_d1 (A 26) (A 27) (A 28) (A 29) i (A 37) (A 39) (A 40) (cz_sl (A 38)) t).2.2.2.2.2 ∨ (n ≤ q ∧ n ≤ (cz_d1 (A 26) (A 27) (A 28) (A 29) i (A 37) (A 39) (A 40) (cz_sl (A 38)) t).2.2.2.2.2)) ∧ cz_sl s' = (cz_d1 (A 26) (A 27) (A 28) (A 29) i (A 37) (A 39) (A 40) (cz_sl (A 38)) t).2.2.2.1 ∧ upI I 36 4 (nI (cz_d1 (A 26) (A 27) (A 28) (A 29) i (A 37) (A 39) (A 40) (cz_sl (A 38)) t).2.2.2.2.1) = I' ∧ upA (upA (upA (upA A 37 (cz_d1 (A 26) (A 27) (A 28) (A 29) i (A 37) (A 39) (A 40) (cz_sl (A 38)) t).1) 39 (cz_d1 (A 26) (A 27) (A 28) (A 29) i (A 37) (A 39) (A 40) (cz_sl (A 38)) t).2.1) 40 (cz_d1 (A 26) (A 27) (A 28) (A 29) i (A 37) (A 39) (A 40) (cz_sl (A 38)) t).2.2.1) 38 s' = A') := by
  refine Cm.of (by decide) (Nat.le_of_ble_eq_true rfl) rfl ?_
  show V G MX4_lineBehind (am_R 3 68 0 0) _ 0 0 0 [(0, .ref 36), (1, .ref 25), (2, .int (nI i))] [] (hp I A)
  refine V.aload_n (j := 1) rfl dX4_lineBehind_0 ?_
  refine V.getr (q := 27) dX4_lineBehind_1 fX4_44 rfl rfl ?_
  refine V.iload_n (j := 2) rfl dX4_lineBehind_4 ?_
  refine V.lda (v := nI x) dX4_lineBehind_5 rfl (by omega) (by decide) ex ?_
  refine V.istore_n (ls' := [(0, .ref 36), (1, .ref 25), (2, .int (nI i)), (3, .int (nI x))]) dX4_lineBehind_6 (by decide) rfl ?_
  refine V.aload_n (j := 1) rfl dX4_lineBehind_7 ?_
  refine V.getr (q := 26) dX4_lineBehind_8 fX4_47 rfl rfl ?_
  refine V.iload_n (j := 2) rfl dX4_lineBehind_11 ?_
  refine V.lda (v := nI 11) dX4_lineBehind_12 rfl (by omega) (by decide) ek ?_
  refine V.tableOut (tgt := 84) dX4_lineBehind_13 (by decide) (by decide) ?_
  refine V.aload_n (j := 0) rfl dX4_lineBehind_84 ?_
  refine V.aload_n (j := 1) rfl dX4_lineBehind_85 ?_
  refine V.getr (q := 26) dX4_lineBehind_86 fX4_47 rfl rfl ?_
  refine V.iload_n (j := 2) rfl dX4_lineBehind_89 ?_
  refine V.lda (v := nI 11) dX4_lineBehind_90 rfl (by omega) (by decide) ek ?_
  refine V.iload_n (j := 3) rfl dX4_lineBehind_91 ?_
  refine V.aload_n (j := 1) rfl dX4_lineBehind_92 ?_
  refine V.getr (q := 28) dX4_lineBehind_93 fX4_50 rfl rfl ?_
  refine V.iload_n (j := 2) rfl dX4_lineBehind_96 ?_
  refine V.lda (v := nI y) dX4_lineBehind_97 rfl (by omega) (by decide) ey ?_
  refine V.aload_n (j := 1) rfl dX4_lineBehind_98 ?_
  refine V.getr (q := 29) dX4_lineBehind_99 fX4_53 rfl rfl ?_
  refine V.iload_n (j := 2) rfl dX4_lineBehind_102 ?_
  refine V.lda (v := A 29 i) dX4_lineBehind_103 rfl (by omega) (by decide) rfl ?_
  refine V.cV (As := [.int (nI 11), .int (nI x), .int (nI y), .int (A 29 i)]) (st := []) dX4_lineBehind_104 sX4_56 iX4_act lX4_act rfl rfl (cd_act36_11 I A x hx y hy _) ⟨by decide, by decide⟩ (Nat.le_of_ble_eq_true rfl) rfl (fun r I' A' hq => ?_)
  obtain ⟨rfl, rfl, rfl⟩ := hq
  refine V.st (st' := []) rfl ?_
  refine V.iload_n (j := 2) rfl dX4_lineBehind_107 ?_
  refine V.iconst (v := nI 1) (by decide) dX4_lineBehind_108 ?_
  refine V.iaddN dX4_lineBehind_109 ?_
  refine V.ri dX4_lineBehind_110 rfl ?_
  have ed : (A 26 i).toNatClampNeg = 11 := by rw [ek, nI_clamp (by omega)]
  have eD : cz_d1 (A 26) (A 27) (A 28) (A 29) i (A 37) (A 39) (A 40) (cz_sl (A 38)) t = (upd (A 37) x (cz_sl (A 38) (32 * (x / 16) + y)), A 39, A 40, cz_sl (A 38), t, i + 1) := by unfold cz_d1 mz_di1; rw [Nat.zero_add, cz_c_0, ed]; simp only [cz_c_1, cz_c_2, cz_c_3, ex, ey, nI_clamp (show x < 2 ^ 31 by omega), nI_clamp (show y < 2 ^ 31 by omega)]
  rw [eD]
  exact ⟨i + 1, A 38, by omega, rfl, Or.inl rfl, rfl, by rw [← ht, upI_i], (by rw [cz_sl_at hy]; exact cz_M36_37)⟩
set_option maxRecDepth 100000 in
set_option maxHeartbeats 4000000 in
theorem cd_line36_25_12 {G : am_G} (I A : Nat → Nat → Int32) (n : Nat) (hn : I 25 4 = nI n) (hN : n ≤ 240) (i : Nat) (hi : i < n) (t : Nat) (ht : I 36 4 = nI t) (ht2 : t < 4000) (ek : A 26 i = nI 12) (x : Nat) (hx : x < 32) (ex : A 27 i = nI x) (y : Nat) (hy : y < 24) (ey : A 28 i = nI y) : Cm G MX4_lineBehind 3 68 [.ref 36, .ref 25, .int (nI i)] I A (fun r I' A' => ∃ q s', q ≤ 401 ∧ r = some (.int (nI q)) ∧ (q = (cz_d1 (A 26) (A 27) (A 28) (A 29) i (A 37) (A 39) (A 40) (cz_sl (A 38)) t).2.2.2.2.2 ∨ (n ≤ q ∧ n ≤ (cz_d1 (A 26) (A 27) (A 28) (A 29) i (A 37) (A 39) (A 40) (cz_sl (A 38)) t).2.2.2.2.2)) ∧ cz_sl s' = (cz_d1 (A 26) (A 27) (A 28) (A 29) i (A 37) (A 39) (A 40) (cz_sl (A 38)) t).2.2.2.1 ∧ upI I 36 4 (nI (cz_d1 (A 26) (A 27) (A 28) (A 29) i (A 37) (A 39) (A 40) (cz_sl (A 38)) t).2.2.2.2.1) = I' ∧ upA (upA (upA (upA A 37 (cz_d1 (A 26) (A 27) (A 28) (A 29) i (A 37) (A 39) (A 40) (cz_sl (A 38)) t).1) 39 (cz_d1 (A 26) (A 27) (A 28) (A 29) i (A 37) (A 39) (A 40) (cz_sl (A 38)) t).2.1) 40 (cz_d1 (A 26) (A 27) (A 28) (A 29) i (A 37) (A 39) (A 40) (cz_sl (A 38)) t).2.2.1) 38 s' = A') := by
  refine Cm.of (by decide) (Nat.le_of_ble_eq_true rfl) rfl ?_
  show V G MX4_lineBehind (am_R 3 68 0 0) _ 0 0 0 [(0, .ref 36), (1, .ref 25), (2, .int (nI i))] [] (hp I A)
  refine V.aload_n (j := 1) rfl dX4_lineBehind_0 ?_
  refine V.getr (q := 27) dX4_lineBehind_1 fX4_44 rfl rfl ?_
  refine V.iload_n (j := 2) rfl dX4_lineBehind_4 ?_
  refine V.lda (v := nI x) dX4_lineBehind_5 rfl (by omega) (by decide) ex ?_
  refine V.istore_n (ls' := [(0, .ref 36), (1, .ref 25), (2, .int (nI i)), (3, .int (nI x))]) dX4_lineBehind_6 (by decide) rfl ?_
  refine V.aload_n (j := 1) rfl dX4_lineBehind_7 ?_
  refine V.getr (q := 26) dX4_lineBehind_8 fX4_47 rfl rfl ?_
  refine V.iload_n (j := 2) rfl dX4_lineBehind_11 ?_
  refine V.lda (v := nI 12) dX4_lineBehind_12 rfl (by omega) (by decide) ek ?_
  refine V.tableOut (tgt := 84) dX4_lineBehind_13 (by decide) (by decide) ?_
  refine V.aload_n (j := 0) rfl dX4_lineBehind_84 ?_
  refine V.aload_n (j := 1) rfl dX4_lineBehind_85 ?_
  refine V.getr (q := 26) dX4_lineBehind_86 fX4_47 rfl rfl ?_
  refine V.iload_n (j := 2) rfl dX4_lineBehind_89 ?_
  refine V.lda (v := nI 12) dX4_lineBehind_90 rfl (by omega) (by decide) ek ?_
  refine V.iload_n (j := 3) rfl dX4_lineBehind_91 ?_
  refine V.aload_n (j := 1) rfl dX4_lineBehind_92 ?_
  refine V.getr (q := 28) dX4_lineBehind_93 fX4_50 rfl rfl ?_
  refine V.iload_n (j := 2) rfl dX4_lineBehind_96 ?_
  refine V.lda (v := nI y) dX4_lineBehind_97 rfl (by omega) (by decide) ey ?_
  refine V.aload_n (j := 1) rfl dX4_lineBehind_98 ?_
  refine V.getr (q := 29) dX4_lineBehind_99 fX4_53 rfl rfl ?_
  refine V.iload_n (j := 2) rfl dX4_lineBehind_102 ?_
  refine V.lda (v := A 29 i) dX4_lineBehind_103 rfl (by omega) (by decide) rfl ?_
  refine V.cV (As := [.int (nI 12), .int (nI x), .int (nI y), .int (A 29 i)]) (st := []) dX4_lineBehind_104 sX4_56 iX4_act lX4_act rfl rfl (cd_act36_12 I A x hx y hy _) ⟨by decide, by decide⟩ (Nat.le_of_ble_eq_true rfl) rfl (fun r I' A' hq => ?_)
  obtain ⟨rfl, rfl, rfl⟩ := hq
  refine V.st (st' := []) rfl ?_
  refine V.iload_n (j := 2) rfl dX4_lineBehind_107 ?_
  refine V.iconst (v := nI 1) (by decide) dX4_lineBehind_108 ?_
  refine V.iaddN dX4_lineBehind_109 ?_
  refine V.ri dX4_lineBehind_110 rfl ?_
  have ed : (A 26 i).toNatClampNeg = 12 := by rw [ek, nI_clamp (by omega)]
  have eD : cz_d1 (A 26) (A 27) (A 28) (A 29) i (A 37) (A 39) (A 40) (cz_sl (A 38)) t = (A 37, A 39, A 40, upd (cz_sl (A 38)) (32 * (x / 16) + y) (A 37 x), t, i + 1) := by unfold cz_d1 mz_di1; rw [Nat.zero_add, cz_c_0, ed]; simp only [cz_c_1, cz_c_2, cz_c_3, ex, ey, nI_clamp (show x < 2 ^ 31 by omega), nI_clamp (show y < 2 ^ 31 by omega)]
  rw [eD]
  exact ⟨i + 1, upd (A 38) (x / 16 * 24 + y) (A 37 x), by omega, rfl, Or.inl rfl, cz_sl_upd hy, by rw [← ht, upI_i], cz_M36_38⟩
set_option maxHeartbeats 4000000 in
theorem cd_line36_25 {G : am_G} (I A : Nat → Nat → Int32) (n : Nat) (hn : I 25 4 = nI n) (hN : n ≤ 240) (i : Nat) (hi : i < n) (t : Nat) (ht : I 36 4 = nI t) (ht2 : t < 4000) (hiw : cz_iw (A 26) (A 27) (A 28) (A 29) i) : Cm G MX4_lineBehind 3 68 [.ref 36, .ref 25, .int (nI i)] I A (fun r I' A' => ∃ q s', q ≤ 401 ∧ r = some (.int (nI q)) ∧ (q = (cz_d1 (A 26) (A 27) (A 28) (A 29) i (A 37) (A 39) (A 40) (cz_sl (A 38)) t).2.2.2.2.2 ∨ (n ≤ q ∧ n ≤ (cz_d1 (A 26) (A 27) (A 28) (A 29) i (A 37) (A 39) (A 40) (cz_sl (A 38)) t).2.2.2.2.2)) ∧ cz_sl s' = (cz_d1 (A 26) (A 27) (A 28) (A 29) i (A 37) (A 39) (A 40) (cz_sl (A 38)) t).2.2.2.1 ∧ upI I 36 4 (nI (cz_d1 (A 26) (A 27) (A 28) (A 29) i (A 37) (A 39) (A 40) (cz_sl (A 38)) t).2.2.2.2.1) = I' ∧ upA (upA (upA (upA A 37 (cz_d1 (A 26) (A 27) (A 28) (A 29) i (A 37) (A 39) (A 40) (cz_sl (A 38)) t).1) 39 (cz_d1 (A 26) (A 27) (A 28) (A 29) i (A 37) (A 39) (A 40) (cz_sl (A 38)) t).2.1) 40 (cz_d1 (A 26) (A 27) (A 28) (A 29) i (A 37) (A 39) (A 40) (cz_sl (A 38)) t).2.2.1) 38 s' = A') := by
  obtain ⟨k, h1, ek, h3, h4, h5, h6, h7, h8⟩ := hiw
  rcases (show k = 0 ∨ k = 1 ∨ k = 2 ∨ k = 3 ∨ k = 4 ∨ k = 5 ∨ k = 6 ∨ k = 7 ∨ k = 8 ∨ k = 9 ∨ k = 10 ∨ k = 11 ∨ k = 12 by omega) with rfl | rfl | rfl | rfl | rfl | rfl | rfl | rfl | rfl | rfl | rfl | rfl | rfl
  · obtain ⟨x, hx, ex⟩ := h3 (by omega)
    exact cd_line36_25_0 I A n hn hN i hi t ht ht2 ek x hx ex
  · obtain ⟨x, hx, ex⟩ := h3 (by omega)
    obtain ⟨y, hy, ey⟩ := h4 (by omega)
    exact cd_line36_25_1 I A n hn hN i hi t ht ht2 ek x hx ex y hy ey
  · obtain ⟨x, hx, ex⟩ := h3 (by omega)
    obtain ⟨y, hy, ey⟩ := h4 (by omega)
    obtain ⟨z, hz, ez⟩ := h6 (by omega)
    exact cd_line36_25_2 I A n hn hN i hi t ht ht2 ek x hx ex y hy ey z hz ez
  · obtain ⟨x, hx, ex⟩ := h3 (by omega)
    obtain ⟨y, hy, ey⟩ := h4 (by omega)
    obtain ⟨z, hz, ez⟩ := h6 (by omega)
    exact cd_line36_25_3 I A n hn hN i hi t ht ht2 ek x hx ex y hy ey z hz ez
  · obtain ⟨x, hx, ex⟩ := h3 (by omega)
    obtain ⟨y, hy, ey⟩ := h4 (by omega)
    obtain ⟨z, hz, ez⟩ := h6 (by omega)
    exact cd_line36_25_4 I A n hn hN i hi t ht ht2 ek x hx ex y hy ey z hz ez
  · obtain ⟨x, hx, ex⟩ := h3 (by omega)
    obtain ⟨y, hy, ey⟩ := h4 (by omega)
    exact cd_line36_25_5 I A n hn hN i hi t ht ht2 ek x hx ex y hy ey
  · obtain ⟨x, hx, ex⟩ := h3 (by omega)
    obtain ⟨y, hy, ey⟩ := h4 (by omega)
    exact cd_line36_25_6 I A n hn hN i hi t ht ht2 ek x hx ex y hy ey
  · obtain ⟨x, hx, ex⟩ := h3 (by omega)
    obtain ⟨y, hy, ey⟩ := h4 (by omega)
    obtain ⟨z, hz, ez⟩ := h7 rfl
    exact cd_line36_25_7 I A n hn hN i hi t ht ht2 ek x hx ex y hy ey z hz ez
  · obtain ⟨x, hx, ex⟩ := h8 rfl
    exact cd_line36_25_8 I A n hn hN i hi t ht ht2 ek x hx ex
  · obtain ⟨x, hx, ex⟩ := h3 (by omega)
    exact cd_line36_25_9 I A n hn hN i hi t ht ht2 ek x hx ex
  · exact cd_line36_25_10 I A n hn hN i hi t ht ht2 ek 
  · obtain ⟨x, hx, ex⟩ := h3 (by omega)
    obtain ⟨y, hy, ey⟩ := h5 (by omega)
    exact cd_line36_25_11 I A n hn hN i hi t ht ht2 ek x hx ex y hy ey
  · obtain ⟨x, hx, ex⟩ := h3 (by omega)
    obtain ⟨y, hy, ey⟩ := h5 (by omega)
    exact cd_line36_25_12 I A n hn hN i hi t ht ht2 ek x hx ex y hy ey
set_option maxRecDepth 100000 in
set_option maxHeartbeats 4000000 in
theorem cd_line36_30_0 {G : am_G} (I A : Nat → Nat → Int32) (n : Nat) (hn : I 30 4 = nI n) (hN : n ≤ 240) (i : Nat) (hi : i < n) (t : Nat) (ht : I 36 4 = nI t) (ht2 : t < 4000) (ek : A 31 i = nI 0) (x : Nat) (hx : x < 32) (ex : A 32 i = nI x) : Cm G MX4_lineBehind 3 68 [.ref 36, .ref 30, .int (nI i)] I A (fun r I' A' => ∃ q s', q ≤ 401 ∧ r = some (.int (nI q)) ∧ (q = (cz_d1 (A 31) (A 32) (A 33) (A 34) i (A 37) (A 39) (A 40) (cz_sl (A 38)) t).2.2.2.2.2 ∨ (n ≤ q ∧ n ≤ (cz_d1 (A 31) (A 32) (A 33) (A 34) i (A 37) (A 39) (A 40) (cz_sl (A 38)) t).2.2.2.2.2)) ∧ cz_sl s' = (cz_d1 (A 31) (A 32) (A 33) (A 34) i (A 37) (A 39) (A 40) (cz_sl (A 38)) t).2.2.2.1 ∧ upI I 36 4 (nI (cz_d1 (A 31) (A 32) (A 33) (A 34) i (A 37) (A 39) (A 40) (cz_sl (A 38)) t).2.2.2.2.1) = I' ∧ upA (upA (upA (upA A 37 (cz_d1 (A 31) (A 32) (A 33) (A 34) i (A 37) (A 39) (A 40) (cz_sl (A 38)) t).1) 39 (cz_d1 (A 31) (A 32) (A 33) (A 34) i (A 37) (A 39) (A 40) (cz_sl (A 38)) t).2.1) 40 (cz_d1 (A 31) (A 32) (A 33) (A 34) i (A 37) (A 39) (A 40) (cz_sl (A 38)) t).2.2.1) 38 s' = A') := by
  refine Cm.of (by decide) (Nat.le_of_ble_eq_true rfl) rfl ?_
  show V G MX4_lineBehind (am_R 3 68 0 0) _ 0 0 0 [(0, .ref 36), (1, .ref 30), (2, .int (nI i))] [] (hp I A)
  refine V.aload_n (j := 1) rfl dX4_lineBehind_0 ?_
  refine V.getr (q := 32) dX4_lineBehind_1 fX4_44 rfl rfl ?_
  refine V.iload_n (j := 2) rfl dX4_lineBehind_4 ?_
  refine V.lda (v := nI x) dX4_lineBehind_5 rfl (by omega) (by decide) ex ?_
  refine V.istore_n (ls' := [(0, .ref 36), (1, .ref 30), (2, .int (nI i)), (3, .int (nI x))]) dX4_lineBehind_6 (by decide) rfl ?_
  refine V.aload_n (j := 1) rfl dX4_lineBehind_7 ?_
  refine V.getr (q := 31) dX4_lineBehind_8 fX4_47 rfl rfl ?_
  refine V.iload_n (j := 2) rfl dX4_lineBehind_11 ?_
  refine V.lda (v := nI 0) dX4_lineBehind_12 rfl (by omega) (by decide) ek ?_
  refine V.tableOut (tgt := 84) dX4_lineBehind_13 (by decide) (by decide) ?_
  refine V.aload_n (j := 0) rfl dX4_lineBehind_84 ?_
  refine V.aload_n (j := 1) rfl dX4_lineBehind_85 ?_
  refine V.getr (q := 31) dX4_lineBehind_86 fX4_47 rfl rfl ?_
  refine V.iload_n (j := 2) rfl dX4_lineBehind_89 ?_
  refine V.lda (v := nI 0) dX4_lineBehind_90 rfl (by omega) (by decide) ek ?_
  refine V.iload_n (j := 3) rfl dX4_lineBehind_91 ?_
  refine V.aload_n (j := 1) rfl dX4_lineBehind_92 ?_
  refine V.getr (q := 33) dX4_lineBehind_93 fX4_50 rfl rfl ?_
  refine V.iload_n (j := 2) rfl dX4_lineBehind_96 ?_
  refine V.lda (v := A 33 i) dX4_lineBehind_97 rfl (by omega) (by decide) rfl ?_
  refine V.aload_n (j := 1) rfl dX4_lineBehind_98 ?_
  refine V.getr (q := 34) dX4_lineBehind_99 fX4_53 rfl rfl ?_
  refine V.iload_n (j := 2) rfl dX4_lineBehind_102 ?_
  refine V.lda (v := A 34 i) dX4_lineBehind_103 rfl (by omega) (by decide) rfl ?_
  refine V.cV (As := [.int (nI 0), .int (nI x), .int (A 33 i), .int (A 34 i)]) (st := []) dX4_lineBehind_104 sX4_56 iX4_act lX4_act rfl rfl (cd_act36_0 I A x hx _ _) ⟨by decide, by decide⟩ (Nat.le_of_ble_eq_true rfl) rfl (fun r I' A' hq => ?_)
  obtain ⟨rfl, rfl, rfl⟩ := hq
  refine V.st (st' := []) rfl ?_
  refine V.iload_n (j := 2) rfl dX4_lineBehind_107 ?_
  refine V.iconst (v := nI 1) (by decide) dX4_lineBehind_108 ?_
  refine V.iaddN dX4_lineBehind_109 ?_
  refine V.ri dX4_lineBehind_110 rfl ?_
  have ed : (A 31 i).toNatClampNeg = 0 := by rw [ek, nI_clamp (by omega)]
  have eD : cz_d1 (A 31) (A 32) (A 33) (A 34) i (A 37) (A 39) (A 40) (cz_sl (A 38)) t = (upd (A 37) x (A 33 i), A 39, A 40, cz_sl (A 38), t, i + 1) := by unfold cz_d1 mz_di1; rw [Nat.zero_add, cz_c_0, ed]; simp only [cz_c_1, cz_c_2, cz_c_3, ex, nI_clamp (show x < 2 ^ 31 by omega)]
  rw [eD]
  exact ⟨i + 1, A 38, by omega, rfl, Or.inl rfl, rfl, by rw [← ht, upI_i], cz_M36_37⟩
set_option maxRecDepth 100000 in
set_option maxHeartbeats 4000000 in
theorem cd_line36_30_1 {G : am_G} (I A : Nat → Nat → Int32) (n : Nat) (hn : I 30 4 = nI n) (hN : n ≤ 240) (i : Nat) (hi : i < n) (t : Nat) (ht : I 36 4 = nI t) (ht2 : t < 4000) (ek : A 31 i = nI 1) (x : Nat) (hx : x < 32) (ex : A 32 i = nI x) (y : Nat) (hy : y < 32) (ey : A 33 i = nI y) : Cm G MX4_lineBehind 3 68 [.ref 36, .ref 30, .int (nI i)] I A (fun r I' A' => ∃ q s', q ≤ 401 ∧ r = some (.int (nI q)) ∧ (q = (cz_d1 (A 31) (A 32) (A 33) (A 34) i (A 37) (A 39) (A 40) (cz_sl (A 38)) t).2.2.2.2.2 ∨ (n ≤ q ∧ n ≤ (cz_d1 (A 31) (A 32) (A 33) (A 34) i (A 37) (A 39) (A 40) (cz_sl (A 38)) t).2.2.2.2.2)) ∧ cz_sl s' = (cz_d1 (A 31) (A 32) (A 33) (A 34) i (A 37) (A 39) (A 40) (cz_sl (A 38)) t).2.2.2.1 ∧ upI I 36 4 (nI (cz_d1 (A 31) (A 32) (A 33) (A 34) i (A 37) (A 39) (A 40) (cz_sl (A 38)) t).2.2.2.2.1) = I' ∧ upA (upA (upA (upA A 37 (cz_d1 (A 31) (A 32) (A 33) (A 34) i (A 37) (A 39) (A 40) (cz_sl (A 38)) t).1) 39 (cz_d1 (A 31) (A 32) (A 33) (A 34) i (A 37) (A 39) (A 40) (cz_sl (A 38)) t).2.1) 40 (cz_d1 (A 31) (A 32) (A 33) (A 34) i (A 37) (A 39) (A 40) (cz_sl (A 38)) t).2.2.1) 38 s' = A') := by
  refine Cm.of (by decide) (Nat.le_of_ble_eq_true rfl) rfl ?_
  show V G MX4_lineBehind (am_R 3 68 0 0) _ 0 0 0 [(0, .ref 36), (1, .ref 30), (2, .int (nI i))] [] (hp I A)
  refine V.aload_n (j := 1) rfl dX4_lineBehind_0 ?_
  refine V.getr (q := 32) dX4_lineBehind_1 fX4_44 rfl rfl ?_
  refine V.iload_n (j := 2) rfl dX4_lineBehind_4 ?_
  refine V.lda (v := nI x) dX4_lineBehind_5 rfl (by omega) (by decide) ex ?_
  refine V.istore_n (ls' := [(0, .ref 36), (1, .ref 30), (2, .int (nI i)), (3, .int (nI x))]) dX4_lineBehind_6 (by decide) rfl ?_
  refine V.aload_n (j := 1) rfl dX4_lineBehind_7 ?_
  refine V.getr (q := 31) dX4_lineBehind_8 fX4_47 rfl rfl ?_
  refine V.iload_n (j := 2) rfl dX4_lineBehind_11 ?_
  refine V.lda (v := nI 1) dX4_lineBehind_12 rfl (by omega) (by decide) ek ?_
  refine V.tableOut (tgt := 84) dX4_lineBehind_13 (by decide) (by decide) ?_
  refine V.aload_n (j := 0) rfl dX4_lineBehind_84 ?_
  refine V.aload_n (j := 1) rfl dX4_lineBehind_85 ?_
  refine V.getr (q := 31) dX4_lineBehind_86 fX4_47 rfl rfl ?_
  refine V.iload_n (j := 2) rfl dX4_lineBehind_89 ?_
  refine V.lda (v := nI 1) dX4_lineBehind_90 rfl (by omega) (by decide) ek ?_
  refine V.iload_n (j := 3) rfl dX4_lineBehind_91 ?_
  refine V.aload_n (j := 1) rfl dX4_lineBehind_92 ?_
  refine V.getr (q := 33) dX4_lineBehind_93 fX4_50 rfl rfl ?_
  refine V.iload_n (j := 2) rfl dX4_lineBehind_96 ?_
  refine V.lda (v := nI y) dX4_lineBehind_97 rfl (by omega) (by decide) ey ?_
  refine V.aload_n (j := 1) rfl dX4_lineBehind_98 ?_
  refine V.getr (q := 34) dX4_lineBehind_99 fX4_53 rfl rfl ?_
  refine V.iload_n (j := 2) rfl dX4_lineBehind_102 ?_
  refine V.lda (v := A 34 i) dX4_lineBehind_103 rfl (by omega) (by decide) rfl ?_
  refine V.cV (As := [.int (nI 1), .int (nI x), .int (nI y), .int (A 34 i)]) (st := []) dX4_lineBehind_104 sX4_56 iX4_act lX4_act rfl rfl (cd_act36_1 I A x hx y hy _) ⟨by decide, by decide⟩ (Nat.le_of_ble_eq_true rfl) rfl (fun r I' A' hq => ?_)
  obtain ⟨rfl, rfl, rfl⟩ := hq
  refine V.st (st' := []) rfl ?_
  refine V.iload_n (j := 2) rfl dX4_lineBehind_107 ?_
  refine V.iconst (v := nI 1) (by decide) dX4_lineBehind_108 ?_
  refine V.iaddN dX4_lineBehind_109 ?_
  refine V.ri dX4_lineBehind_110 rfl ?_
  have ed : (A 31 i).toNatClampNeg = 1 := by rw [ek, nI_clamp (by omega)]
  have eD : cz_d1 (A 31) (A 32) (A 33) (A 34) i (A 37) (A 39) (A 40) (cz_sl (A 38)) t = (upd (A 37) x (A 37 y), A 39, A 40, cz_sl (A 38), t, i + 1) := by unfold cz_d1 mz_di1; rw [Nat.zero_add, cz_c_0, ed]; simp only [cz_c_1, cz_c_2, cz_c_3, ex, ey, nI_clamp (show x < 2 ^ 31 by omega), nI_clamp (show y < 2 ^ 31 by omega)]
  rw [eD]
  exact ⟨i + 1, A 38, by omega, rfl, Or.inl rfl, rfl, by rw [← ht, upI_i], cz_M36_37⟩
set_option maxRecDepth 100000 in
set_option maxHeartbeats 4000000 in
theorem cd_line36_30_2 {G : am_G} (I A : Nat → Nat → Int32) (n : Nat) (hn : I 30 4 = nI n) (hN : n ≤ 240) (i : Nat) (hi : i < n) (t : Nat) (ht : I 36 4 = nI t) (ht2 : t < 4000) (ek : A 31 i = nI 2) (x : Nat) (hx : x < 32) (ex : A 32 i = nI x) (y : Nat) (hy : y < 32) (ey : A 33 i = nI y) (z : Nat) (hz : z < 32) (ez : A 34 i = nI z) : Cm G MX4_lineBehind 3 68 [.ref 36, .ref 30, .int (nI i)] I A (fun r I' A' => ∃ q s', q ≤ 401 ∧ r = some (.int (nI q)) ∧ (q = (cz_d1 (A 31) (A 32) (A 33) (A 34) i (A 37) (A 39) (A 40) (cz_sl (A 38)) t).2.2.2.2.2 ∨ (n ≤ q ∧ n ≤ (cz_d1 (A 31) (A 32) (A 33) (A 34) i (A 37) (A 39) (A 40) (cz_sl (A 38)) t).2.2.2.2.2)) ∧ cz_sl s' = (cz_d1 (A 31) (A 32) (A 33) (A 34) i (A 37) (A 39) (A 40) (cz_sl (A 38)) t).2.2.2.1 ∧ upI I 36 4 (nI (cz_d1 (A 31) (A 32) (A 33) (A 34) i (A 37) (A 39) (A 40) (cz_sl (A 38)) t).2.2.2.2.1) = I' ∧ upA (upA (upA (upA A 37 (cz_d1 (A 31) (A 32) (A 33) (A 34) i (A 37) (A 39) (A 40) (cz_sl (A 38)) t).1) 39 (cz_d1 (A 31) (A 32) (A 33) (A 34) i (A 37) (A 39) (A 40) (cz_sl (A 38)) t).2.1) 40 (cz_d1 (A 31) (A 32) (A 33) (A 34) i (A 37) (A 39) (A 40) (cz_sl (A 38)) t).2.2.1) 38 s' = A') := by
  refine Cm.of (by decide) (Nat.le_of_ble_eq_true rfl) rfl ?_
  show V G MX4_lineBehind (am_R 3 68 0 0) _ 0 0 0 [(0, .ref 36), (1, .ref 30), (2, .int (nI i))] [] (hp I A)
  refine V.aload_n (j := 1) rfl dX4_lineBehind_0 ?_
  refine V.getr (q := 32) dX4_lineBehind_1 fX4_44 rfl rfl ?_
  refine V.iload_n (j := 2) rfl dX4_lineBehind_4 ?_
  refine V.lda (v := nI x) dX4_lineBehind_5 rfl (by omega) (by decide) ex ?_
  refine V.istore_n (ls' := [(0, .ref 36), (1, .ref 30), (2, .int (nI i)), (3, .int (nI x))]) dX4_lineBehind_6 (by decide) rfl ?_
  refine V.aload_n (j := 1) rfl dX4_lineBehind_7 ?_
  refine V.getr (q := 31) dX4_lineBehind_8 fX4_47 rfl rfl ?_
  refine V.iload_n (j := 2) rfl dX4_lineBehind_11 ?_
  refine V.lda (v := nI 2) dX4_lineBehind_12 rfl (by omega) (by decide) ek ?_
  refine V.tableOut (tgt := 84) dX4_lineBehind_13 (by decide) (by decide) ?_
  refine V.aload_n (j := 0) rfl dX4_lineBehind_84 ?_
  refine V.aload_n (j := 1) rfl dX4_lineBehind_85 ?_
  refine V.getr (q := 31) dX4_lineBehind_86 fX4_47 rfl rfl ?_
  refine V.iload_n (j := 2) rfl dX4_lineBehind_89 ?_
  refine V.lda (v := nI 2) dX4_lineBehind_90 rfl (by omega) (by decide) ek ?_
  refine V.iload_n (j := 3) rfl dX4_lineBehind_91 ?_
  refine V.aload_n (j := 1) rfl dX4_lineBehind_92 ?_
  refine V.getr (q := 33) dX4_lineBehind_93 fX4_50 rfl rfl ?_
  refine V.iload_n (j := 2) rfl dX4_lineBehind_96 ?_
  refine V.lda (v := nI y) dX4_lineBehind_97 rfl (by omega) (by decide) ey ?_
  refine V.aload_n (j := 1) rfl dX4_lineBehind_98 ?_
  refine V.getr (q := 34) dX4_lineBehind_99 fX4_53 rfl rfl ?_
  refine V.iload_n (j := 2) rfl dX4_lineBehind_102 ?_
  refine V.lda (v := nI z) dX4_lineBehind_103 rfl (by omega) (by decide) ez ?_
  refine V.cV (As := [.int (nI 2), .int (nI x), .int (nI y), .int (nI z)]) (st := []) dX4_lineBehind_104 sX4_56 iX4_act lX4_act rfl rfl (cd_act36_2 I A x hx y hy z hz) ⟨by decide, by decide⟩ (Nat.le_of_ble_eq_true rfl) rfl (fun r I' A' hq => ?_)
  obtain ⟨rfl, rfl, rfl⟩ := hq
  refine V.st (st' := []) rfl ?_
  refine V.iload_n (j := 2) rfl dX4_lineBehind_107 ?_
  refine V.iconst (v := nI 1) (by decide) dX4_lineBehind_108 ?_
  refine V.iaddN dX4_lineBehind_109 ?_
  refine V.ri dX4_lineBehind_110 rfl ?_
  have ed : (A 31 i).toNatClampNeg = 2 := by rw [ek, nI_clamp (by omega)]
  have eD : cz_d1 (A 31) (A 32) (A 33) (A 34) i (A 37) (A 39) (A 40) (cz_sl (A 38)) t = (upd (A 37) x (mz_rk (nI 2) (A 37 y) (A 37 z)), A 39, A 40, cz_sl (A 38), t, i + 1) := by unfold cz_d1 mz_di1; rw [Nat.zero_add, cz_c_0, ed]; simp only [cz_c_1, cz_c_2, cz_c_3, ex, ey, ez, nI_clamp (show x < 2 ^ 31 by omega), nI_clamp (show y < 2 ^ 31 by omega), nI_clamp (show z < 2 ^ 31 by omega)]
  rw [eD]
  exact ⟨i + 1, A 38, by omega, rfl, Or.inl rfl, rfl, by rw [← ht, upI_i], (by rw [mz_rk2]; exact cz_M36_37)⟩
set_option maxRecDepth 100000 in
set_option maxHeartbeats 4000000 in
theorem cd_line36_30_3 {G : am_G} (I A : Nat → Nat → Int32) (n : Nat) (hn : I 30 4 = nI n) (hN : n ≤ 240) (i : Nat) (hi : i < n) (t : Nat) (ht : I 36 4 = nI t) (ht2 : t < 4000) (ek : A 31 i = nI 3) (x : Nat) (hx : x < 32) (ex : A 32 i = nI x) (y : Nat) (hy : y < 32) (ey : A 33 i = nI y) (z : Nat) (hz : z < 32) (ez : A 34 i = nI z) : Cm G MX4_lineBehind 3 68 [.ref 36, .ref 30, .int (nI i)] I A (fun r I' A' => ∃ q s', q ≤ 401 ∧ r = some (.int (nI q)) ∧ (q = (cz_d1 (A 31) (A 32) (A 33) (A 34) i (A 37) (A 39) (A 40) (cz_sl (A 38)) t).2.2.2.2.2 ∨ (n ≤ q ∧ n ≤ (cz_d1 (A 31) (A 32) (A 33) (A 34) i (A 37) (A 39) (A 40) (cz_sl (A 38)) t).2.2.2.2.2)) ∧ cz_sl s' = (cz_d1 (A 31) (A 32) (A 33) (A 34) i (A 37) (A 39) (A 40) (cz_sl (A 38)) t).2.2.2.1 ∧ upI I 36 4 (nI (cz_d1 (A 31) (A 32) (A 33) (A 34) i (A 37) (A 39) (A 40) (cz_sl (A 38)) t).2.2.2.2.1) = I' ∧ upA (upA (upA (upA A 37 (cz_d1 (A 31) (A 32) (A 33) (A 34) i (A 37) (A 39) (A 40) (cz_sl (A 38)) t).1) 39 (cz_d1 (A 31) (A 32) (A 33) (A 34) i (A 37) (A 39) (A 40) (cz_sl (A 38)) t).2.1) 40 (cz_d1 (A 31) (A 32) (A 33) (A 34) i (A 37) (A 39) (A 40) (cz_sl (A 38)) t).2.2.1) 38 s' = A') := by
  refine Cm.of (by decide) (Nat.le_of_ble_eq_true rfl) rfl ?_
  show V G MX4_lineBehind (am_R 3 68 0 0) _ 0 0 0 [(0, .ref 36), (1, .ref 30), (2, .int (nI i))] [] (hp I A)
  refine V.aload_n (j := 1) rfl dX4_lineBehind_0 ?_
  refine V.getr (q := 32) dX4_lineBehind_1 fX4_44 rfl rfl ?_
  refine V.iload_n (j := 2) rfl dX4_lineBehind_4 ?_
  refine V.lda (v := nI x) dX4_lineBehind_5 rfl (by omega) (by decide) ex ?_
  refine V.istore_n (ls' := [(0, .ref 36), (1, .ref 30), (2, .int (nI i)), (3, .int (nI x))]) dX4_lineBehind_6 (by decide) rfl ?_
  refine V.aload_n (j := 1) rfl dX4_lineBehind_7 ?_
  refine V.getr (q := 31) dX4_lineBehind_8 fX4_47 rfl rfl ?_
  refine V.iload_n (j := 2) rfl dX4_lineBehind_11 ?_
  refine V.lda (v := nI 3) dX4_lineBehind_12 rfl (by omega) (by decide) ek ?_
  refine V.tableOut (tgt := 84) dX4_lineBehind_13 (by decide) (by decide) ?_
  refine V.aload_n (j := 0) rfl dX4_lineBehind_84 ?_
  refine V.aload_n (j := 1) rfl dX4_lineBehind_85 ?_
  refine V.getr (q := 31) dX4_lineBehind_86 fX4_47 rfl rfl ?_
  refine V.iload_n (j := 2) rfl dX4_lineBehind_89 ?_
  refine V.lda (v := nI 3) dX4_lineBehind_90 rfl (by omega) (by decide) ek ?_
  refine V.iload_n (j := 3) rfl dX4_lineBehind_91 ?_
  refine V.aload_n (j := 1) rfl dX4_lineBehind_92 ?_
  refine V.getr (q := 33) dX4_lineBehind_93 fX4_50 rfl rfl ?_
  refine V.iload_n (j := 2) rfl dX4_lineBehind_96 ?_
  refine V.lda (v := nI y) dX4_lineBehind_97 rfl (by omega) (by decide) ey ?_
  refine V.aload_n (j := 1) rfl dX4_lineBehind_98 ?_
  refine V.getr (q := 34) dX4_lineBehind_99 fX4_53 rfl rfl ?_
  refine V.iload_n (j := 2) rfl dX4_lineBehind_102 ?_
  refine V.lda (v := nI z) dX4_lineBehind_103 rfl (by omega) (by decide) ez ?_
  refine V.cV (As := [.int (nI 3), .int (nI x), .int (nI y), .int (nI z)]) (st := []) dX4_lineBehind_104 sX4_56 iX4_act lX4_act rfl rfl (cd_act36_3 I A x hx y hy z hz) ⟨by decide, by decide⟩ (Nat.le_of_ble_eq_true rfl) rfl (fun r I' A' hq => ?_)
  obtain ⟨rfl, rfl, rfl⟩ := hq
  refine V.st (st' := []) rfl ?_
  refine V.iload_n (j := 2) rfl dX4_lineBehind_107 ?_
  refine V.iconst (v := nI 1) (by decide) dX4_lineBehind_108 ?_
  refine V.iaddN dX4_lineBehind_109 ?_
  refine V.ri dX4_lineBehind_110 rfl ?_
  have ed : (A 31 i).toNatClampNeg = 3 := by rw [ek, nI_clamp (by omega)]
  have eD : cz_d1 (A 31) (A 32) (A 33) (A 34) i (A 37) (A 39) (A 40) (cz_sl (A 38)) t = (upd (A 37) x (mz_rk (nI 3) (A 37 y) (A 37 z)), A 39, A 40, cz_sl (A 38), t, i + 1) := by unfold cz_d1 mz_di1; rw [Nat.zero_add, cz_c_0, ed]; simp only [cz_c_1, cz_c_2, cz_c_3, ex, ey, ez, nI_clamp (show x < 2 ^ 31 by omega), nI_clamp (show y < 2 ^ 31 by omega), nI_clamp (show z < 2 ^ 31 by omega)]
  rw [eD]
  exact ⟨i + 1, A 38, by omega, rfl, Or.inl rfl, rfl, by rw [← ht, upI_i], (by rw [mz_rk3]; exact cz_M36_37)⟩
set_option maxRecDepth 100000 in
set_option maxHeartbeats 4000000 in
theorem cd_line36_30_4 {G : am_G} (I A : Nat → Nat → Int32) (n : Nat) (hn : I 30 4 = nI n) (hN : n ≤ 240) (i : Nat) (hi : i < n) (t : Nat) (ht : I 36 4 = nI t) (ht2 : t < 4000) (ek : A 31 i = nI 4) (x : Nat) (hx : x < 32) (ex : A 32 i = nI x) (y : Nat) (hy : y < 32) (ey : A 33 i = nI y) (z : Nat) (hz : z < 32) (ez : A 34 i = nI z) : Cm G MX4_lineBehind 3 68 [.ref 36, .ref 30, .int (nI i)] I A (fun r I' A' => ∃ q s', q ≤ 401 ∧ r = some (.int (nI q)) ∧ (q = (cz_d1 (A 31) (A 32) (A 33) (A 34) i (A 37) (A 39) (A 40) (cz_sl (A 38)) t).2.2.2.2.2 ∨ (n ≤ q ∧ n ≤ (cz_d1 (A 31) (A 32) (A 33) (A 34) i (A 37) (A 39) (A 40) (cz_sl (A 38)) t).2.2.2.2.2)) ∧ cz_sl s' = (cz_d1 (A 31) (A 32) (A 33) (A 34) i (A 37) (A 39) (A 40) (cz_sl (A 38)) t).2.2.2.1 ∧ upI I 36 4 (nI (cz_d1 (A 31) (A 32) (A 33) (A 34) i (A 37) (A 39) (A 40) (cz_sl (A 38)) t).2.2.2.2.1) = I' ∧ upA (upA (upA (upA A 37 (cz_d1 (A 31) (A 32) (A 33) (A 34) i (A 37) (A 39) (A 40) (cz_sl (A 38)) t).1) 39 (cz_d1 (A 31) (A 32) (A 33) (A 34) i (A 37) (A 39) (A 40) (cz_sl (A 38)) t).2.1) 40 (cz_d1 (A 31) (A 32) (A 33) (A 34) i (A 37) (A 39) (A 40) (cz_sl (A 38)) t).2.2.1) 38 s' = A') := by
  refine Cm.of (by decide) (Nat.le_of_ble_eq_true rfl) rfl ?_
  show V G MX4_lineBehind (am_R 3 68 0 0) _ 0 0 0 [(0, .ref 36), (1, .ref 30), (2, .int (nI i))] [] (hp I A)
  refine V.aload_n (j := 1) rfl dX4_lineBehind_0 ?_
  refine V.getr (q := 32) dX4_lineBehind_1 fX4_44 rfl rfl ?_
  refine V.iload_n (j := 2) rfl dX4_lineBehind_4 ?_
  refine V.lda (v := nI x) dX4_lineBehind_5 rfl (by omega) (by decide) ex ?_
  refine V.istore_n (ls' := [(0, .ref 36), (1, .ref 30), (2, .int (nI i)), (3, .int (nI x))]) dX4_lineBehind_6 (by decide) rfl ?_
  refine V.aload_n (j := 1) rfl dX4_lineBehind_7 ?_
  refine V.getr (q := 31) dX4_lineBehind_8 fX4_47 rfl rfl ?_
  refine V.iload_n (j := 2) rfl dX4_lineBehind_11 ?_
  refine V.lda (v := nI 4) dX4_lineBehind_12 rfl (by omega) (by decide) ek ?_
  refine V.tableOut (tgt := 84) dX4_lineBehind_13 (by decide) (by decide) ?_
  refine V.aload_n (j := 0) rfl dX4_lineBehind_84 ?_
  refine V.aload_n (j := 1) rfl dX4_lineBehind_85 ?_
  refine V.getr (q := 31) dX4_lineBehind_86 fX4_47 rfl rfl ?_
  refine V.iload_n (j := 2) rfl dX4_lineBehind_89 ?_
  refine V.lda (v := nI 4) dX4_lineBehind_90 rfl (by omega) (by decide) ek ?_
  refine V.iload_n (j := 3) rfl dX4_lineBehind_91 ?_
  refine V.aload_n (j := 1) rfl dX4_lineBehind_92 ?_
  refine V.getr (q := 33) dX4_lineBehind_93 fX4_50 rfl rfl ?_
  refine V.iload_n (j := 2) rfl dX4_lineBehind_96 ?_
  refine V.lda (v := nI y) dX4_lineBehind_97 rfl (by omega) (by decide) ey ?_
  refine V.aload_n (j := 1) rfl dX4_lineBehind_98 ?_
  refine V.getr (q := 34) dX4_lineBehind_99 fX4_53 rfl rfl ?_
  refine V.iload_n (j := 2) rfl dX4_lineBehind_102 ?_
  refine V.lda (v := nI z) dX4_lineBehind_103 rfl (by omega) (by decide) ez ?_
  refine V.cV (As := [.int (nI 4), .int (nI x), .int (nI y), .int (nI z)]) (st := []) dX4_lineBehind_104 sX4_56 iX4_act lX4_act rfl rfl (cd_act36_4 I A x hx y hy z hz) ⟨by decide, by decide⟩ (Nat.le_of_ble_eq_true rfl) rfl (fun r I' A' hq => ?_)
  obtain ⟨rfl, rfl, rfl⟩ := hq
  refine V.st (st' := []) rfl ?_
  refine V.iload_n (j := 2) rfl dX4_lineBehind_107 ?_
  refine V.iconst (v := nI 1) (by decide) dX4_lineBehind_108 ?_
  refine V.iaddN dX4_lineBehind_109 ?_
  refine V.ri dX4_lineBehind_110 rfl ?_
  have ed : (A 31 i).toNatClampNeg = 4 := by rw [ek, nI_clamp (by omega)]
  have eD : cz_d1 (A 31) (A 32) (A 33) (A 34) i (A 37) (A 39) (A 40) (cz_sl (A 38)) t = (upd (A 37) x (mz_rk (nI 4) (A 37 y) (A 37 z)), A 39, A 40, cz_sl (A 38), t, i + 1) := by unfold cz_d1 mz_di1; rw [Nat.zero_add, cz_c_0, ed]; simp only [cz_c_1, cz_c_2, cz_c_3, ex, ey, ez, nI_clamp (show x < 2 ^ 31 by omega), nI_clamp (show y < 2 ^ 31 by omega), nI_clamp (show z < 2 ^ 31 by omega)]
  rw [eD]
  exact ⟨i + 1, A 38, by omega, rfl, Or.inl rfl, rfl, by rw [← ht, upI_i], (by rw [mz_rk4]; exact cz_M36_37)⟩
set_option maxRecDepth 100000 in
set_option maxHeartbeats 4000000 in
theorem cd_line36_30_5 {G : am_G} (I A : Nat → Nat → Int32) (n : Nat) (hn : I 30 4 = nI n) (hN : n ≤ 240) (i : Nat) (hi : i < n) (t : Nat) (ht : I 36 4 = nI t) (ht2 : t < 4000) (ek : A 31 i = nI 5) (x : Nat) (hx : x < 32) (ex : A 32 i = nI x) (y : Nat) (hy : y < 32) (ey : A 33 i = nI y) : Cm G MX4_lineBehind 3 68 [.ref 36, .ref 30, .int (nI i)] I A (fun r I' A' => ∃ q s', q ≤ 401 ∧ r = some (.int (nI q)) ∧ (q = (cz_d1 (A 31) (A 32) (A 33) (A 34) i (A 37) (A 39) (A 40) (cz_sl (A 38)) t).2.2.2.2.2 ∨ (n ≤ q ∧ n ≤ (cz_d1 (A 31) (A 32) (A 33) (A 34) i (A 37) (A 39) (A 40) (cz_sl (A 38)) t).2.2.2.2.2)) ∧ cz_sl s' = (cz_d1 (A 31) (A 32) (A 33) (A 34) i (A 37) (A 39) (A 40) (cz_sl (A 38)) t).2.2.2.1 ∧ upI I 36 4 (nI (cz_d1 (A 31) (A 32) (A 33) (A 34) i (A 37) (A 39) (A 40) (cz_sl (A 38)) t).2.2.2.2.1) = I' ∧ upA (upA (upA (upA A 37 (cz_d1 (A 31) (A 32) (A 33) (A 34) i (A 37) (A 39) (A 40) (cz_sl (A 38)) t).1) 39 (cz_d1 (A 31) (A 32) (A 33) (A 34) i (A 37) (A 39) (A 40) (cz_sl (A 38)) t).2.1) 40 (cz_d1 (A 31) (A 32) (A 33) (A 34) i (A 37) (A 39) (A 40) (cz_sl (A 38)) t).2.2.1) 38 s' = A') := by
  refine Cm.of (by decide) (Nat.le_of_ble_eq_true rfl) rfl ?_
  show V G MX4_lineBehind (am_R 3 68 0 0) _ 0 0 0 [(0, .ref 36), (1, .ref 30), (2, .int (nI i))] [] (hp I A)
  refine V.aload_n (j := 1) rfl dX4_lineBehind_0 ?_
  refine V.getr (q := 32) dX4_lineBehind_1 fX4_44 rfl rfl ?_
  refine V.iload_n (j := 2) rfl dX4_lineBehind_4 ?_
  refine V.lda (v := nI x) dX4_lineBehind_5 rfl (by omega) (by decide) ex ?_
  refine V.istore_n (ls' := [(0, .ref 36), (1, .ref 30), (2, .int (nI i)), (3, .int (nI x))]) dX4_lineBehind_6 (by decide) rfl ?_
  refine V.aload_n (j := 1) rfl dX4_lineBehind_7 ?_
  refine V.getr (q := 31) dX4_lineBehind_8 fX4_47 rfl rfl ?_
  refine V.iload_n (j := 2) rfl dX4_lineBehind_11 ?_
  refine V.lda (v := nI 5) dX4_lineBehind_12 rfl (by omega) (by decide) ek ?_
  refine V.tableOut (tgt := 84) dX4_lineBehind_13 (by decide) (by decide) ?_
  refine V.aload_n (j := 0) rfl dX4_lineBehind_84 ?_
  refine V.aload_n (j := 1) rfl dX4_lineBehind_85 ?_
  refine V.getr (q := 31) dX4_lineBehind_86 fX4_47 rfl rfl ?_
  refine V.iload_n (j := 2) rfl dX4_lineBehind_89 ?_
  refine V.lda (v := nI 5) dX4_lineBehind_90 rfl (by omega) (by decide) ek ?_
  refine V.iload_n (j := 3) rfl dX4_lineBehind_91 ?_
  refine V.aload_n (j := 1) rfl dX4_lineBehind_92 ?_
  refine V.getr (q := 33) dX4_lineBehind_93 fX4_50 rfl rfl ?_
  refine V.iload_n (j := 2) rfl dX4_lineBehind_96 ?_
  refine V.lda (v := nI y) dX4_lineBehind_97 rfl (by omega) (by decide) ey ?_
  refine V.aload_n (j := 1) rfl dX4_lineBehind_98 ?_
  refine V.getr (q := 34) dX4_lineBehind_99 fX4_53 rfl rfl ?_
  refine V.iload_n (j := 2) rfl dX4_lineBehind_102 ?_
  refine V.lda (v := A 34 i) dX4_lineBehind_103 rfl (by omega) (by decide) rfl ?_
  refine V.cV (As := [.int (nI 5), .int (nI x), .int (nI y), .int (A 34 i)]) (st := []) dX4_lineBehind_104 sX4_56 iX4_act lX4_act rfl rfl (cd_act36_5 I A x hx y hy _) ⟨by decide, by decide⟩ (Nat.le_of_ble_eq_true rfl) rfl (fun r I' A' hq => ?_)
  obtain ⟨rfl, rfl, rfl⟩ := hq
  refine V.st (st' := []) rfl ?_
  refine V.iload_n (j := 2) rfl dX4_lineBehind_107 ?_
  refine V.iconst (v := nI 1) (by decide) dX4_lineBehind_108 ?_
  refine V.iaddN dX4_lineBehind_109 ?_
  refine V.ri dX4_lineBehind_110 rfl ?_
  have ed : (A 31 i).toNatClampNeg = 5 := by rw [ek, nI_clamp (by omega)]
  have eD : cz_d1 (A 31) (A 32) (A 33) (A 34) i (A 37) (A 39) (A 40) (cz_sl (A 38)) t = (upd (A 37) x (A 39 (mz_cl (A 37 y + A 34 i))), A 39, A 40, cz_sl (A 38), t, i + 1) := by unfold cz_d1 mz_di1; rw [Nat.zero_add, cz_c_0, ed]; simp only [cz_c_1, cz_c_2, cz_c_3, ex, ey, nI_clamp (show x < 2 ^ 31 by omega), nI_clamp (show y < 2 ^ 31 by omega)]
  rw [eD]
  exact ⟨i + 1, A 38, by omega, rfl, Or.inl rfl, rfl, by rw [← ht, upI_i], cz_M36_37⟩
set_option maxRecDepth 100000 in
set_option maxHeartbeats 4000000 in
theorem cd_line36_30_6 {G : am_G} (I A : Nat → Nat → Int32) (n : Nat) (hn : I 30 4 = nI n) (hN : n ≤ 240) (i : Nat) (hi : i < n) (t : Nat) (ht : I 36 4 = nI t) (ht2 : t < 4000) (ek : A 31 i = nI 6) (x : Nat) (hx : x < 32) (ex : A 32 i = nI x) (y : Nat) (hy : y < 32) (ey : A 33 i = nI y) : Cm G MX4_lineBehind 3 68 [.ref 36, .ref 30, .int (nI i)] I A (fun r I' A' => ∃ q s', q ≤ 401 ∧ r = some (.int (nI q)) ∧ (q = (cz_d1 (A 31) (A 32) (A 33) (A 34) i (A 37) (A 39) (A 40) (cz_sl (A 38)) t).2.2.2.2.2 ∨ (n ≤ q ∧ n ≤ (cz_d1 (A 31) (A 32) (A 33) (A 34) i (A 37) (A 39) (A 40) (cz_sl (A 38)) t).2.2.2.2.2)) ∧ cz_sl s' = (cz_d1 (A 31) (A 32) (A 33) (A 34) i (A 37) (A 39) (A 40) (cz_sl (A 38)) t).2.2.2.1 ∧ upI I 36 4 (nI (cz_d1 (A 31) (A 32) (A 33) (A 34) i (A 37) (A 39) (A 40) (cz_sl (A 38)) t).2.2.2.2.1) = I' ∧ upA (upA (upA (upA A 37 (cz_d1 (A 31) (A 32) (A 33) (A 34) i (A 37) (A 39) (A 40) (cz_sl (A 38)) t).1) 39 (cz_d1 (A 31) (A 32) (A 33) (A 34) i (A 37) (A 39) (A 40) (cz_sl (A 38)) t).2.1) 40 (cz_d1 (A 31) (A 32) (A 33) (A 34) i (A 37) (A 39) (A 40) (cz_sl (A 38)) t).2.2.1) 38 s' = A') := by
  refine Cm.of (by decide) (Nat.le_of_ble_eq_true rfl) rfl ?_
  show V G MX4_lineBehind (am_R 3 68 0 0) _ 0 0 0 [(0, .ref 36), (1, .ref 30), (2, .int (nI i))] [] (hp I A)
  refine V.aload_n (j := 1) rfl dX4_lineBehind_0 ?_
  refine V.getr (q := 32) dX4_lineBehind_1 fX4_44 rfl rfl ?_
  refine V.iload_n (j := 2) rfl dX4_lineBehind_4 ?_
  refine V.lda (v := nI x) dX4_lineBehind_5 rfl (by omega) (by decide) ex ?_
  refine V.istore_n (ls' := [(0, .ref 36), (1, .ref 30), (2, .int (nI i)), (3, .int (nI x))]) dX4_lineBehind_6 (by decide) rfl ?_
  refine V.aload_n (j := 1) rfl dX4_lineBehind_7 ?_
  refine V.getr (q := 31) dX4_lineBehind_8 fX4_47 rfl rfl ?_
  refine V.iload_n (j := 2) rfl dX4_lineBehind_11 ?_
  refine V.lda (v := nI 6) dX4_lineBehind_12 rfl (by omega) (by decide) ek ?_
  refine V.tableOut (tgt := 84) dX4_lineBehind_13 (by decide) (by decide) ?_
  refine V.aload_n (j := 0) rfl dX4_lineBehind_84 ?_
  refine V.aload_n (j := 1) rfl dX4_lineBehind_85 ?_
  refine V.getr (q := 31) dX4_lineBehind_86 fX4_47 rfl rfl ?_
  refine V.iload_n (j := 2) rfl dX4_lineBehind_89 ?_
  refine V.lda (v := nI 6) dX4_lineBehind_90 rfl (by omega) (by decide) ek ?_
  refine V.iload_n (j := 3) rfl dX4_lineBehind_91 ?_
  refine V.aload_n (j := 1) rfl dX4_lineBehind_92 ?_
  refine V.getr (q := 33) dX4_lineBehind_93 fX4_50 rfl rfl ?_
  refine V.iload_n (j := 2) rfl dX4_lineBehind_96 ?_
  refine V.lda (v := nI y) dX4_lineBehind_97 rfl (by omega) (by decide) ey ?_
  refine V.aload_n (j := 1) rfl dX4_lineBehind_98 ?_
  refine V.getr (q := 34) dX4_lineBehind_99 fX4_53 rfl rfl ?_
  refine V.iload_n (j := 2) rfl dX4_lineBehind_102 ?_
  refine V.lda (v := A 34 i) dX4_lineBehind_103 rfl (by omega) (by decide) rfl ?_
  refine V.cV (As := [.int (nI 6), .int (nI x), .int (nI y), .int (A 34 i)]) (st := []) dX4_lineBehind_104 sX4_56 iX4_act lX4_act rfl rfl (cd_act36_6 I A x hx y hy _) ⟨by decide, by decide⟩ (Nat.le_of_ble_eq_true rfl) rfl (fun r I' A' hq => ?_)
  obtain ⟨rfl, rfl, rfl⟩ := hq
  refine V.st (st' := []) rfl ?_
  refine V.iload_n (j := 2) rfl dX4_lineBehind_107 ?_
  refine V.iconst (v := nI 1) (by decide) dX4_lineBehind_108 ?_
  refine V.iaddN dX4_lineBehind_109 ?_
  refine V.ri dX4_lineBehind_110 rfl ?_
  have ed : (A 31 i).toNatClampNeg = 6 := by rw [ek, nI_clamp (by omega)]
  have eD : cz_d1 (A 31) (A 32) (A 33) (A 34) i (A 37) (A 39) (A 40) (cz_sl (A 38)) t = (A 37, upd (A 39) (mz_cl (A 37 y + A 34 i)) (A 37 x), A 40, cz_sl (A 38), t, i + 1) := by unfold cz_d1 mz_di1; rw [Nat.zero_add, cz_c_0, ed]; simp only [cz_c_1, cz_c_2, cz_c_3, ex, ey, nI_clamp (show x < 2 ^ 31 by omega), nI_clamp (show y < 2 ^ 31 by omega)]
  rw [eD]
  exact ⟨i + 1, A 38, by omega, rfl, Or.inl rfl, rfl, by rw [← ht, upI_i], cz_M36_39⟩
set_option maxRecDepth 100000 in
set_option maxHeartbeats 4000000 in
theorem cd_line36_30_7 {G : am_G} (I A : Nat → Nat → Int32) (n : Nat) (hn : I 30 4 = nI n) (hN : n ≤ 240) (i : Nat) (hi : i < n) (t : Nat) (ht : I 36 4 = nI t) (ht2 : t < 4000) (ek : A 31 i = nI 7) (x : Nat) (hx : x < 32) (ex : A 32 i = nI x) (y : Nat) (hy : y < 32) (ey : A 33 i = nI y) (z : Nat) (hz : z ≤ 400) (ez : A 34 i = nI z) : Cm G MX4_lineBehind 3 68 [.ref 36, .ref 30, .int (nI i)] I A (fun r I' A' => ∃ q s', q ≤ 401 ∧ r = some (.int (nI q)) ∧ (q = (cz_d1 (A 31) (A 32) (A 33) (A 34) i (A 37) (A 39) (A 40) (cz_sl (A 38)) t).2.2.2.2.2 ∨ (n ≤ q ∧ n ≤ (cz_d1 (A 31) (A 32) (A 33) (A 34) i (A 37) (A 39) (A 40) (cz_sl (A 38)) t).2.2.2.2.2)) ∧ cz_sl s' = (cz_d1 (A 31) (A 32) (A 33) (A 34) i (A 37) (A 39) (A 40) (cz_sl (A 38)) t).2.2.2.1 ∧ upI I 36 4 (nI (cz_d1 (A 31) (A 32) (A 33) (A 34) i (A 37) (A 39) (A 40) (cz_sl (A 38)) t).2.2.2.2.1) = I' ∧ upA (upA (upA (upA A 37 (cz_d1 (A 31) (A 32) (A 33) (A 34) i (A 37) (A 39) (A 40) (cz_sl (A 38)) t).1) 39 (cz_d1 (A 31) (A 32) (A 33) (A 34) i (A 37) (A 39) (A 40) (cz_sl (A 38)) t).2.1) 40 (cz_d1 (A 31) (A 32) (A 33) (A 34) i (A 37) (A 39) (A 40) (cz_sl (A 38)) t).2.2.1) 38 s' = A') := by
  refine Cm.of (by decide) (Nat.le_of_ble_eq_true rfl) rfl ?_
  show V G MX4_lineBehind (am_R 3 68 0 0) _ 0 0 0 [(0, .ref 36), (1, .ref 30), (2, .int (nI i))] [] (hp I A)
  refine V.aload_n (j := 1) rfl dX4_lineBehind_0 ?_
  refine V.getr (q := 32) dX4_lineBehind_1 fX4_44 rfl rfl ?_
  refine V.iload_n (j := 2) rfl dX4_lineBehind_4 ?_
  refine V.lda (v := nI x) dX4_lineBehind_5 rfl (by omega) (by decide) ex ?_
  refine V.istore_n (ls' := [(0, .ref 36), (1, .ref 30), (2, .int (nI i)), (3, .int (nI x))]) dX4_lineBehind_6 (by decide) rfl ?_
  refine V.aload_n (j := 1) rfl dX4_lineBehind_7 ?_
  refine V.getr (q := 31) dX4_lineBehind_8 fX4_47 rfl rfl ?_
  refine V.iload_n (j := 2) rfl dX4_lineBehind_11 ?_
  refine V.lda (v := nI 7) dX4_lineBehind_12 rfl (by omega) (by decide) ek ?_
  refine V.tableIn (tgt := 44) dX4_lineBehind_13 (by decide) (by decide) rfl (by decide) ?_
  refine V.aload_n (j := 0) rfl dX4_lineBehind_44 ?_
  refine V.getr (q := 37) dX4_lineBehind_45 fX4_9 rfl rfl ?_
  refine V.iload_n (j := 3) rfl dX4_lineBehind_48 ?_
  refine V.lda (v := A 37 x) dX4_lineBehind_49 rfl (by omega) (by decide) rfl ?_
  refine V.aload_n (j := 0) rfl dX4_lineBehind_50 ?_
  refine V.getr (q := 37) dX4_lineBehind_51 fX4_9 rfl rfl ?_
  refine V.aload_n (j := 1) rfl dX4_lineBehind_54 ?_
  refine V.getr (q := 33) dX4_lineBehind_55 fX4_50 rfl rfl ?_
  refine V.iload_n (j := 2) rfl dX4_lineBehind_58 ?_
  refine V.lda (v := nI y) dX4_lineBehind_59 rfl (by omega) (by decide) ey ?_
  refine V.lda (v := A 37 y) dX4_lineBehind_60 rfl (by omega) (by decide) rfl ?_
  refine V.icmp_ge (tgt := 73) dX4_lineBehind_61 (by decide) (fun c1 => ?_) (fun c1 => ?_)
  · refine V.iload_n (j := 2) rfl dX4_lineBehind_73 ?_
    refine V.iconst (v := nI 1) (by decide) dX4_lineBehind_74 ?_
    refine V.iaddN dX4_lineBehind_75 ?_
    refine V.ri dX4_lineBehind_76 rfl ?_
    have ed : (A 31 i).toNatClampNeg = 7 := by rw [ek, nI_clamp (by omega)]
    have eD : cz_d1 (A 31) (A 32) (A 33) (A 34) i (A 37) (A 39) (A 40) (cz_sl (A 38)) t = (A 37, A 39, A 40, cz_sl (A 38), t, if A 37 y ≤ A 37 x then i + 1 else z) := by unfold cz_d1 mz_di1; rw [Nat.zero_add, cz_c_0, ed]; simp only [cz_c_1, cz_c_2, cz_c_3, ex, ey, ez, nI_clamp (show x < 2 ^ 31 by omega), nI_clamp (show y < 2 ^ 31 by omega), nI_clamp (show z < 2 ^ 31 by omega)]
    rw [eD]
    exact ⟨i + 1, A 38, by omega, rfl, Or.inl (by show _ = (if A 37 y ≤ A 37 x then i + 1 else z); rw [if_pos c1]), rfl, by rw [← ht, upI_i], cz_M36_0⟩
  · refine V.aload_n (j := 1) rfl dX4_lineBehind_64 ?_
    refine V.getr (q := 34) dX4_lineBehind_65 fX4_53 rfl rfl ?_
    refine V.iload_n (j := 2) rfl dX4_lineBehind_68 ?_
    refine V.lda (v := nI z) dX4_lineBehind_69 rfl (by omega) (by decide) ez ?_
    refine V.goto (tgt := 76) dX4_lineBehind_70 (by decide) ?_
    refine V.ri dX4_lineBehind_76 rfl ?_
    have ed : (A 31 i).toNatClampNeg = 7 := by rw [ek, nI_clamp (by omega)]
    have eD : cz_d1 (A 31) (A 32) (A 33) (A 34) i (A 37) (A 39) (A 40) (cz_sl (A 38)) t = (A 37, A 39, A 40, cz_sl (A 38), t, if A 37 y ≤ A 37 x then i + 1 else z) := by unfold cz_d1 mz_di1; rw [Nat.zero_add, cz_c_0, ed]; simp only [cz_c_1, cz_c_2, cz_c_3, ex, ey, ez, nI_clamp (show x < 2 ^ 31 by omega), nI_clamp (show y < 2 ^ 31 by omega), nI_clamp (show z < 2 ^ 31 by omega)]
    rw [eD]
    exact ⟨z, A 38, by omega, rfl, Or.inl (by show _ = (if A 37 y ≤ A 37 x then i + 1 else z); rw [if_neg c1]), rfl, by rw [← ht, upI_i], cz_M36_0⟩
set_option maxRecDepth 100000 in
set_option maxHeartbeats 4000000 in
theorem cd_line36_30_8 {G : am_G} (I A : Nat → Nat → Int32) (n : Nat) (hn : I 30 4 = nI n) (hN : n ≤ 240) (i : Nat) (hi : i < n) (t : Nat) (ht : I 36 4 = nI t) (ht2 : t < 4000) (ek : A 31 i = nI 8) (x : Nat) (hx : x ≤ 400) (ex : A 32 i = nI x) : Cm G MX4_lineBehind 3 68 [.ref 36, .ref 30, .int (nI i)] I A (fun r I' A' => ∃ q s', q ≤ 401 ∧ r = some (.int (nI q)) ∧ (q = (cz_d1 (A 31) (A 32) (A 33) (A 34) i (A 37) (A 39) (A 40) (cz_sl (A 38)) t).2.2.2.2.2 ∨ (n ≤ q ∧ n ≤ (cz_d1 (A 31) (A 32) (A 33) (A 34) i (A 37) (A 39) (A 40) (cz_sl (A 38)) t).2.2.2.2.2)) ∧ cz_sl s' = (cz_d1 (A 31) (A 32) (A 33) (A 34) i (A 37) (A 39) (A 40) (cz_sl (A 38)) t).2.2.2.1 ∧ upI I 36 4 (nI (cz_d1 (A 31) (A 32) (A 33) (A 34) i (A 37) (A 39) (A 40) (cz_sl (A 38)) t).2.2.2.2.1) = I' ∧ upA (upA (upA (upA A 37 (cz_d1 (A 31) (A 32) (A 33) (A 34) i (A 37) (A 39) (A 40) (cz_sl (A 38)) t).1) 39 (cz_d1 (A 31) (A 32) (A 33) (A 34) i (A 37) (A 39) (A 40) (cz_sl (A 38)) t).2.1) 40 (cz_d1 (A 31) (A 32) (A 33) (A 34) i (A 37) (A 39) (A 40) (cz_sl (A 38)) t).2.2.1) 38 s' = A') := by
  refine Cm.of (by decide) (Nat.le_of_ble_eq_true rfl) rfl ?_
  show V G MX4_lineBehind (am_R 3 68 0 0) _ 0 0 0 [(0, .ref 36), (1, .ref 30), (2, .int (nI i))] [] (hp I A)
  refine V.aload_n (j := 1) rfl dX4_lineBehind_0 ?_
  refine V.getr (q := 32) dX4_lineBehind_1 fX4_44 rfl rfl ?_
  refine V.iload_n (j := 2) rfl dX4_lineBehind_4 ?_
  refine V.lda (v := nI x) dX4_lineBehind_5 rfl (by omega) (by decide) ex ?_
  refine V.istore_n (ls' := [(0, .ref 36), (1, .ref 30), (2, .int (nI i)), (3, .int (nI x))]) dX4_lineBehind_6 (by decide) rfl ?_
  refine V.aload_n (j := 1) rfl dX4_lineBehind_7 ?_
  refine V.getr (q := 31) dX4_lineBehind_8 fX4_47 rfl rfl ?_
  refine V.iload_n (j := 2) rfl dX4_lineBehind_11 ?_
  refine V.lda (v := nI 8) dX4_lineBehind_12 rfl (by omega) (by decide) ek ?_
  refine V.tableIn (tgt := 77) dX4_lineBehind_13 (by decide) (by decide) rfl (by decide) ?_
  refine V.iload_n (j := 3) rfl dX4_lineBehind_77 ?_
  refine V.ri dX4_lineBehind_78 rfl ?_
  have ed : (A 31 i).toNatClampNeg = 8 := by rw [ek, nI_clamp (by omega)]
  have eD : cz_d1 (A 31) (A 32) (A 33) (A 34) i (A 37) (A 39) (A 40) (cz_sl (A 38)) t = (A 37, A 39, A 40, cz_sl (A 38), t, x) := by unfold cz_d1 mz_di1; rw [Nat.zero_add, cz_c_0, ed]; simp only [cz_c_1, cz_c_2, cz_c_3, ex, nI_clamp (show x < 2 ^ 31 by omega)]
  rw [eD]
  exact ⟨x, A 38, by omega, rfl, Or.inl rfl, rfl, by rw [← ht, upI_i], cz_M36_0⟩
set_option maxRecDepth 100000 in
set_option maxHeartbeats 4000000 in
theorem cd_line36_30_9 {G : am_G} (I A : Nat → Nat → Int32) (n : Nat) (hn : I 30 4 = nI n) (hN : n ≤ 240) (i : Nat) (hi : i < n) (t : Nat) (ht : I 36 4 = nI t) (ht2 : t < 4000) (ek : A 31 i = nI 9) (x : Nat) (hx : x < 32) (ex : A 32 i = nI x) : Cm G MX4_lineBehind 3 68 [.ref 36, .ref 30, .int (nI i)] I A (fun r I' A' => ∃ q s', q ≤ 401 ∧ r = some (.int (nI q)) ∧ (q = (cz_d1 (A 31) (A 32) (A 33) (A 34) i (A 37) (A 39) (A 40) (cz_sl (A 38)) t).2.2.2.2.2 ∨ (n ≤ q ∧ n ≤ (cz_d1 (A 31) (A 32) (A 33) (A 34) i (A 37) (A 39) (A 40) (cz_sl (A 38)) t).2.2.2.2.2)) ∧ cz_sl s' = (cz_d1 (A 31) (A 32) (A 33) (A 34) i (A 37) (A 39) (A 40) (cz_sl (A 38)) t).2.2.2.1 ∧ upI I 36 4 (nI (cz_d1 (A 31) (A 32) (A 33) (A 34) i (A 37) (A 39) (A 40) (cz_sl (A 38)) t).2.2.2.2.1) = I' ∧ upA (upA (upA (upA A 37 (cz_d1 (A 31) (A 32) (A 33) (A 34) i (A 37) (A 39) (A 40) (cz_sl (A 38)) t).1) 39 (cz_d1 (A 31) (A 32) (A 33) (A 34) i (A 37) (A 39) (A 40) (cz_sl (A 38)) t).2.1) 40 (cz_d1 (A 31) (A 32) (A 33) (A 34) i (A 37) (A 39) (A 40) (cz_sl (A 38)) t).2.2.1) 38 s' = A') := by
  refine Cm.of (by decide) (Nat.le_of_ble_eq_true rfl) rfl ?_
  show V G MX4_lineBehind (am_R 3 68 0 0) _ 0 0 0 [(0, .ref 36), (1, .ref 30), (2, .int (nI i))] [] (hp I A)
  refine V.aload_n (j := 1) rfl dX4_lineBehind_0 ?_
  refine V.getr (q := 32) dX4_lineBehind_1 fX4_44 rfl rfl ?_
  refine V.iload_n (j := 2) rfl dX4_lineBehind_4 ?_
  refine V.lda (v := nI x) dX4_lineBehind_5 rfl (by omega) (by decide) ex ?_
  refine V.istore_n (ls' := [(0, .ref 36), (1, .ref 30), (2, .int (nI i)), (3, .int (nI x))]) dX4_lineBehind_6 (by decide) rfl ?_
  refine V.aload_n (j := 1) rfl dX4_lineBehind_7 ?_
  refine V.getr (q := 31) dX4_lineBehind_8 fX4_47 rfl rfl ?_
  refine V.iload_n (j := 2) rfl dX4_lineBehind_11 ?_
  refine V.lda (v := nI 9) dX4_lineBehind_12 rfl (by omega) (by decide) ek ?_
  refine V.tableIn (tgt := 84) dX4_lineBehind_13 (by decide) (by decide) rfl (by decide) ?_
  refine V.aload_n (j := 0) rfl dX4_lineBehind_84 ?_
  refine V.aload_n (j := 1) rfl dX4_lineBehind_85 ?_
  refine V.getr (q := 31) dX4_lineBehind_86 fX4_47 rfl rfl ?_
  refine V.iload_n (j := 2) rfl dX4_lineBehind_89 ?_
  refine V.lda (v := nI 9) dX4_lineBehind_90 rfl (by omega) (by decide) ek ?_
  refine V.iload_n (j := 3) rfl dX4_lineBehind_91 ?_
  refine V.aload_n (j := 1) rfl dX4_lineBehind_92 ?_
  refine V.getr (q := 33) dX4_lineBehind_93 fX4_50 rfl rfl ?_
  refine V.iload_n (j := 2) rfl dX4_lineBehind_96 ?_
  refine V.lda (v := A 33 i) dX4_lineBehind_97 rfl (by omega) (by decide) rfl ?_
  refine V.aload_n (j := 1) rfl dX4_lineBehind_98 ?_
  refine V.getr (q := 34) dX4_lineBehind_99 fX4_53 rfl rfl ?_
  refine V.iload_n (j := 2) rfl dX4_lineBehind_102 ?_
  refine V.lda (v := A 34 i) dX4_lineBehind_103 rfl (by omega) (by decide) rfl ?_
  refine V.cV (As := [.int (nI 9), .int (nI x), .int (A 33 i), .int (A 34 i)]) (st := []) dX4_lineBehind_104 sX4_56 iX4_act lX4_act rfl rfl (cd_act36_9 I A x hx _ _ t ht ht2) ⟨by decide, by decide⟩ (Nat.le_of_ble_eq_true rfl) rfl (fun r I' A' hq => ?_)
  obtain ⟨rfl, rfl, rfl⟩ := hq
  refine V.st (st' := []) rfl ?_
  refine V.iload_n (j := 2) rfl dX4_lineBehind_107 ?_
  refine V.iconst (v := nI 1) (by decide) dX4_lineBehind_108 ?_
  refine V.iaddN dX4_lineBehind_109 ?_
  refine V.ri dX4_lineBehind_110 rfl ?_
  have ed : (A 31 i).toNatClampNeg = 9 := by rw [ek, nI_clamp (by omega)]
  have eD : cz_d1 (A 31) (A 32) (A 33) (A 34) i (A 37) (A 39) (A 40) (cz_sl (A 38)) t = (A 37, A 39, mz_sy t (A 40) (A 37 x), cz_sl (A 38), t + 1, i + 1) := by unfold cz_d1 mz_di1; rw [Nat.zero_add, cz_c_0, ed]; simp only [cz_c_1, cz_c_2, cz_c_3, ex, nI_clamp (show x < 2 ^ 31 by omega)]
  rw [eD]
  exact ⟨i + 1, A 38, by omega, rfl, Or.inl rfl, rfl, rfl, cz_M36_40⟩
set_option maxRecDepth 100000 in
set_option maxHeartbeats 4000000 in
theorem cd_line36_30_10 {G : am_G} (I A : Nat → Nat → Int32) (n : Nat) (hn : I 30 4 = nI n) (hN : n ≤ 240) (i : Nat) (hi : i < n) (t : Nat) (ht : I 36 4 = nI t) (ht2 : t < 4000) (ek : A 31 i = nI 10) : Cm G MX4_lineBehind 3 68 [.ref 36, .ref 30, .int (nI i)] I A (fun r I' A' => ∃ q s', q ≤ 401 ∧ r = some (.int (nI q)) ∧ (q = (cz_d1 (A 31) (A 32) (A 33) (A 34) i (A 37) (A 39) (A 40) (cz_sl (A 38)) t).2.2.2.2.2 ∨ (n ≤ q ∧ n ≤ (cz_d1 (A 31) (A 32) (A 33) (A 34) i (A 37) (A 39) (A 40) (cz_sl (A 38)) t).2.2.2.2.2)) ∧ cz_sl s' = (cz_d1 (A 31) (A 32) (A 33) (A 34) i (A 37) (A 39) (A 40) (cz_sl (A 38)) t).2.2.2.1 ∧ upI I 36 4 (nI (cz_d1 (A 31) (A 32) (A 33) (A 34) i (A 37) (A 39) (A 40) (cz_sl (A 38)) t).2.2.2.2.1) = I' ∧ upA (upA (upA (upA A 37 (cz_d1 (A 31) (A 32) (A 33) (A 34) i (A 37) (A 39) (A 40) (cz_sl (A 38)) t).1) 39 (cz_d1 (A 31) (A 32) (A 33) (A 34) i (A 37) (A 39) (A 40) (cz_sl (A 38)) t).2.1) 40 (cz_d1 (A 31) (A 32) (A 33) (A 34) i (A 37) (A 39) (A 40) (cz_sl (A 38)) t).2.2.1) 38 s' = A') := by
  refine Cm.of (by decide) (Nat.le_of_ble_eq_true rfl) rfl ?_
  show V G MX4_lineBehind (am_R 3 68 0 0) _ 0 0 0 [(0, .ref 36), (1, .ref 30), (2, .int (nI i))] [] (hp I A)
  refine V.aload_n (j := 1) rfl dX4_lineBehind_0 ?_
  refine V.getr (q := 32) dX4_lineBehind_1 fX4_44 rfl rfl ?_
  refine V.iload_n (j := 2) rfl dX4_lineBehind_4 ?_
  refine V.lda (v := A 32 i) dX4_lineBehind_5 rfl (by omega) (by decide) rfl ?_
  refine V.istore_n (ls' := [(0, .ref 36), (1, .ref 30), (2, .int (nI i)), (3, .int (A 32 i))]) dX4_lineBehind_6 (by decide) rfl ?_
  refine V.aload_n (j := 1) rfl dX4_lineBehind_7 ?_
  refine V.getr (q := 31) dX4_lineBehind_8 fX4_47 rfl rfl ?_
  refine V.iload_n (j := 2) rfl dX4_lineBehind_11 ?_
  refine V.lda (v := nI 10) dX4_lineBehind_12 rfl (by omega) (by decide) ek ?_
  refine V.tableIn (tgt := 79) dX4_lineBehind_13 (by decide) (by decide) rfl (by decide) ?_
  refine V.aload_n (j := 1) rfl dX4_lineBehind_79 ?_
  refine V.geti (v := nI n) dX4_lineBehind_80 fX4_35 rfl rfl hn ?_
  refine V.ri dX4_lineBehind_83 rfl ?_
  have ed : (A 31 i).toNatClampNeg = 10 := by rw [ek, nI_clamp (by omega)]
  have eD : cz_d1 (A 31) (A 32) (A 33) (A 34) i (A 37) (A 39) (A 40) (cz_sl (A 38)) t = (A 37, A 39, A 40, cz_sl (A 38), t, 400) := by unfold cz_d1 mz_di1; rw [Nat.zero_add, cz_c_0, ed]; simp only [cz_c_1, cz_c_2, cz_c_3]
  rw [eD]
  exact ⟨n, A 38, by omega, rfl, Or.inr ⟨Nat.le_refl _, by show n ≤ 400; omega⟩, rfl, by rw [← ht, upI_i], cz_M36_0⟩
set_option maxRecDepth 100000 in
set_option maxHeartbeats 4000000 in
theorem cd_line36_30_11 {G : am_G} (I A : Nat → Nat → Int32) (n : Nat) (hn : I 30 4 = nI n) (hN : n ≤ 240) (i : Nat) (hi : i < n) (t : Nat) (ht : I 36 4 = nI t) (ht2 : t < 4000) (ek : A 31 i = nI 11) (x : Nat) (hx : x < 32) (ex : A 32 i = nI x) (y : Nat) (hy : y < 24) (ey : A 33 i = nI y) : Cm G MX4_lineBehind 3 68 [.ref 36, .ref 30, .int (nI i)] I A (fun r I' A' => ∃ q s', q ≤ 401 ∧ r = some (.int (nI q)) ∧ (q = (cz_d1 (A 31) (A 32) (A 33) (A 34) i (A 37) (A 39) (A 40) (cz_sl (A 38)) t).2.2.2.2.2 ∨ (n ≤ q ∧ n ≤ (cz_d1 (A 31) (A 32) (A 33) (A 34) i (A 37) (A 39) (A 40) (cz_sl (A 38)) t).2.2.2.2.2)) ∧ cz_sl s' = (cz_d1 (A 31) (A 32) (A 33) (A 34) i (A 37) (A 39) (A 40) (cz_sl (A 38)) t).2.2.2.1 ∧ upI I 36 4 (nI (cz_d1 (A 31) (A 32) (A 33) (A 34) i (A 37) (A 39) (A 40) (cz_sl (A 38)) t).2.2.2.2.1) = I' ∧ upA (upA (upA (upA A 37 (cz_d1 (A 31) (A 32) (A 33) (A 34) i (A 37) (A 39) (A 40) (cz_sl (A 38)) t).1) 39 (cz_d1 (A 31) (A 32) (A 33) (A 34) i (A 37) (A 39) (A 40) (cz_sl (A 38)) t).2.1) 40 (cz_d1 (A 31) (A 32) (A 33) (A 34) i (A 37) (A 39) (A 40) (cz_sl (A 38)) t).2.2.1) 38 s' = A') := by
  refine Cm.of (by decide) (Nat.le_of_ble_eq_true rfl) rfl ?_
  show V G MX4_lineBehind (am_R 3 68 0 0) _ 0 0 0 [(0, .ref 36), (1, .ref 30), (2, .int (nI i))] [] (hp I A)
  refine V.aload_n (j := 1) rfl dX4_lineBehind_0 ?_
  refine V.getr (q := 32) dX4_lineBehind_1 fX4_44 rfl rfl ?_
  refine V.iload_n (j := 2) rfl dX4_lineBehind_4 ?_
  refine V.lda (v := nI x) dX4_lineBehind_5 rfl (by omega) (by decide) ex ?_
  refine V.istore_n (ls' := [(0, .ref 36), (1, .ref 30), (2, .int (nI i)), (3, .int (nI x))]) dX4_lineBehind_6 (by decide) rfl ?_
  refine V.aload_n (j := 1) rfl dX4_lineBehind_7 ?_
  refine V.getr (q := 31) dX4_lineBehind_8 fX4_47 rfl rfl ?_
  refine V.iload_n (j := 2) rfl dX4_lineBehind_11 ?_
  refine V.lda (v := nI 11) dX4_lineBehind_12 rfl (by omega) (by decide) ek ?_
  refine V.tableOut (tgt := 84) dX4_lineBehind_13 (by decide) (by decide) ?_
  refine V.aload_n (j := 0) rfl dX4_lineBehind_84 ?_
  refine V.aload_n (j := 1) rfl dX4_lineBehind_85 ?_
  refine V.getr (q := 31) dX4_lineBehind_86 fX4_47 rfl rfl ?_
  refine V.iload_n (j := 2) rfl dX4_lineBehind_89 ?_
  refine V.lda (v := nI 11) dX4_lineBehind_90 rfl (by omega) (by decide) ek ?_
  refine V.iload_n (j := 3) rfl dX4_lineBehind_91 ?_
  refine V.aload_n (j := 1) rfl dX4_lineBehind_92 ?_
  refine V.getr (q := 33) dX4_lineBehind_93 fX4_50 rfl rfl ?_
  refine V.iload_n (j := 2) rfl dX4_lineBehind_96 ?_
  refine V.lda (v := nI y) dX4_lineBehind_97 rfl (by omega) (by decide) ey ?_
  refine V.aload_n (j := 1) rfl dX4_lineBehind_98 ?_
  refine V.getr (q := 34) dX4_lineBehind_99 fX4_53 rfl rfl ?_
  refine V.iload_n (j := 2) rfl dX4_lineBehind_102 ?_
  refine V.lda (v := A 34 i) dX4_lineBehind_103 rfl (by omega) (by decide) rfl ?_
  refine V.cV (As := [.int (nI 11), .int (nI x), .int (nI y), .int (A 34 i)]) (st := []) dX4_lineBehind_104 sX4_56 iX4_act lX4_act rfl rfl (cd_act36_11 I A x hx y hy _) ⟨by decide, by decide⟩ (Nat.le_of_ble_eq_true rfl) rfl (fun r I' A' hq => ?_)
  obtain ⟨rfl, rfl, rfl⟩ := hq
  refine V.st (st' := []) rfl ?_
  refine V.iload_n (j := 2) rfl dX4_lineBehind_107 ?_
  refine V.iconst (v := nI 1) (by decide) dX4_lineBehind_108 ?_
  refine V.iaddN dX4_lineBehind_109 ?_
  refine V.ri dX4_lineBehind_110 rfl ?_
  have ed : (A 31 i).toNatClampNeg = 11 := by rw [ek, nI_clamp (by omega)]
  have eD : cz_d1 (A 31) (A 32) (A 33) (A 34) i (A 37) (A 39) (A 40) (cz_sl (A 38)) t = (upd (A 37) x (cz_sl (A 38) (32 * (x / 16) + y)), A 39, A 40, cz_sl (A 38), t, i + 1) := by unfold cz_d1 mz_di1; rw [Nat.zero_add, cz_c_0, ed]; simp only [cz_c_1, cz_c_2, cz_c_3, ex, ey, nI_clamp (show x < 2 ^ 31 by omega), nI_clamp (show y < 2 ^ 31 by omega)]
  rw [eD]
  exact ⟨i + 1, A 38, by omega, rfl, Or.inl rfl, rfl, by rw [← ht, upI_i], (by rw [cz_sl_at hy]; exact cz_M36_37)⟩
set_option maxRecDepth 100000 in
set_option maxHeartbeats 4000000 in
theorem cd_line36_30_12 {G : am_G} (I A : Nat → Nat → Int32) (n : Nat) (hn : I 30 4 = nI n) (hN : n ≤ 240) (i : Nat) (hi : i < n) (t : Nat) (ht : I 36 4 = nI t) (ht2 : t < 4000) (ek : A 31 i = nI 12) (x : Nat) (hx : x < 32) (ex : A 32 i = nI x) (y : Nat) (hy : y < 24) (ey : A 33 i = nI y) : Cm G MX4_lineBehind 3 68 [.ref 36, .ref 30, .int (nI i)] I A (fun r I' A' => ∃ q s', q ≤ 401 ∧ r = some (.int (nI q)) ∧ (q = (cz_d1 (A 31) (A 32) (A 33) (A 34) i (A 37) (A 39) (A 40) (cz_sl (A 38)) t).2.2.2.2.2 ∨ (n ≤ q ∧ n ≤ (cz_d1 (A 31) (A 32) (A 33) (A 34) i (A 37) (A 39) (A 40) (cz_sl (A 38)) t).2.2.2.2.2)) ∧ cz_sl s' = (cz_d1 (A 31) (A 32) (A 33) (A 34) i (A 37) (A 39) (A 40) (cz_sl (A 38)) t).2.2.2.1 ∧ upI I 36 4 (nI (cz_d1 (A 31) (A 32) (A 33) (A 34) i (A 37) (A 39) (A 40) (cz_sl (A 38)) t).2.2.2.2.1) = I' ∧ upA (upA (upA (upA A 37 (cz_d1 (A 31) (A 32) (A 33) (A 34) i (A 37) (A 39) (A 40) (cz_sl (A 38)) t).1) 39 (cz_d1 (A 31) (A 32) (A 33) (A 34) i (A 37) (A 39) (A 40) (cz_sl (A 38)) t).2.1) 40 (cz_d1 (A 31) (A 32) (A 33) (A 34) i (A 37) (A 39) (A 40) (cz_sl (A 38)) t).2.2.1) 38 s' = A') := by
  refine Cm.of (by decide) (Nat.le_of_ble_eq_true rfl) rfl ?_
  show V G MX4_lineBehind (am_R 3 68 0 0) _ 0 0 0 [(0, .ref 36), (1, .ref 30), (2, .int (nI i))] [] (hp I A)
  refine V.aload_n (j := 1) rfl dX4_lineBehind_0 ?_
  refine V.getr (q := 32) dX4_lineBehind_1 fX4_44 rfl rfl ?_
  refine V.iload_n (j := 2) rfl dX4_lineBehind_4 ?_
  refine V.lda (v := nI x) dX4_lineBehind_5 rfl (by omega) (by decide) ex ?_
  refine V.istore_n (ls' := [(0, .ref 36), (1, .ref 30), (2, .int (nI i)), (3, .int (nI x))]) dX4_lineBehind_6 (by decide) rfl ?_
  refine V.aload_n (j := 1) rfl dX4_lineBehind_7 ?_
  refine V.getr (q := 31) dX4_lineBehind_8 fX4_47 rfl rfl ?_
  refine V.iload_n (j := 2) rfl dX4_lineBehind_11 ?_
  refine V.lda (v := nI 12) dX4_lineBehind_12 rfl (by omega) (by decide) ek ?_
  refine V.tableOut (tgt := 84) dX4_lineBehind_13 (by decide) (by decide) ?_
  refine V.aload_n (j := 0) rfl dX4_lineBehind_84 ?_
  refine V.aload_n (j := 1) rfl dX4_lineBehind_85 ?_
  refine V.getr (q := 31) dX4_lineBehind_86 fX4_47 rfl rfl ?_
  refine V.iload_n (j := 2) rfl dX4_lineBehind_89 ?_
  refine V.lda (v := nI 12) dX4_lineBehind_90 rfl (by omega) (by decide) ek ?_
  refine V.iload_n (j := 3) rfl dX4_lineBehind_91 ?_
  refine V.aload_n (j := 1) rfl dX4_lineBehind_92 ?_
  refine V.getr (q := 33) dX4_lineBehind_93 fX4_50 rfl rfl ?_
  refine V.iload_n (j := 2) rfl dX4_lineBehind_96 ?_
  refine V.lda (v := nI y) dX4_lineBehind_97 rfl (by omega) (by decide) ey ?_
  refine V.aload_n (j := 1) rfl dX4_lineBehind_98 ?_
  refine V.getr (q := 34) dX4_lineBehind_99 fX4_53 rfl rfl ?_
  refine V.iload_n (j := 2) rfl dX4_lineBehind_102 ?_
  refine V.lda (v := A 34 i) dX4_lineBehind_103 rfl (by omega) (by decide) rfl ?_
  refine V.cV (As := [.int (nI 12), .int (nI x), .int (nI y), .int (A 34 i)]) (st := []) dX4_lineBehind_104 sX4_56 iX4_act lX4_act rfl rfl (cd_act36_12 I A x hx y hy _) ⟨by decide, by decide⟩ (Nat.le_of_ble_eq_true rfl) rfl (fun r I' A' hq => ?_)
  obtain ⟨rfl, rfl, rfl⟩ := hq
  refine V.st (st' := []) rfl ?_
  refine V.iload_n (j := 2) rfl dX4_lineBehind_107 ?_
  refine V.iconst (v := nI 1) (by decide) dX4_lineBehind_108 ?_
  refine V.iaddN dX4_lineBehind_109 ?_
  refine V.ri dX4_lineBehind_110 rfl ?_
  have ed : (A 31 i).toNatClampNeg = 12 := by rw [ek, nI_clamp (by omega)]
  have eD : cz_d1 (A 31) (A 32) (A 33) (A 34) i (A 37) (A 39) (A 40) (cz_sl (A 38)) t = (A 37, A 39, A 40, upd (cz_sl (A 38)) (32 * (x / 16) + y) (A 37 x), t, i + 1) := by unfold cz_d1 mz_di1; rw [Nat.zero_add, cz_c_0, ed]; simp only [cz_c_1, cz_c_2, cz_c_3, ex, ey, nI_clamp (show x < 2 ^ 31 by omega), nI_clamp (show y < 2 ^ 31 by omega)]
  rw [eD]
  exact ⟨i + 1, upd (A 38) (x / 16 * 24 + y) (A 37 x), by omega, rfl, Or.inl rfl, cz_sl_upd hy, by rw [← ht, upI_i], cz_M36_38⟩
set_option maxHeartbeats 4000000 in
theorem cd_line36_30 {G : am_G} (I A : Nat → Nat → Int32) (n : Nat) (hn : I 30 4 = nI n) (hN : n ≤ 240) (i : Nat) (hi : i < n) (t : Nat) (ht : I 36 4 = nI t) (ht2 : t < 4000) (hiw : cz_iw (A 31) (A 32) (A 33) (A 34) i) : Cm G MX4_lineBehind 3 68 [.ref 36, .ref 30, .int (nI i)] I A (fun r I' A' => ∃ q s', q ≤ 401 ∧ r = some (.int (nI q)) ∧ (q = (cz_d1 (A 31) (A 32) (A 33) (A 34) i (A 37) (A 39) (A 40) (cz_sl (A 38)) t).2.2.2.2.2 ∨ (n ≤ q ∧ n ≤ (cz_d1 (A 31) (A 32) (A 33) (A 34) i (A 37) (A 39) (A 40) (cz_sl (A 38)) t).2.2.2.2.2)) ∧ cz_sl s' = (cz_d1 (A 31) (A 32) (A 33) (A 34) i (A 37) (A 39) (A 40) (cz_sl (A 38)) t).2.2.2.1 ∧ upI I 36 4 (nI (cz_d1 (A 31) (A 32) (A 33) (A 34) i (A 37) (A 39) (A 40) (cz_sl (A 38)) t).2.2.2.2.1) = I' ∧ upA (upA (upA (upA A 37 (cz_d1 (A 31) (A 32) (A 33) (A 34) i (A 37) (A 39) (A 40) (cz_sl (A 38)) t).1) 39 (cz_d1 (A 31) (A 32) (A 33) (A 34) i (A 37) (A 39) (A 40) (cz_sl (A 38)) t).2.1) 40 (cz_d1 (A 31) (A 32) (A 33) (A 34) i (A 37) (A 39) (A 40) (cz_sl (A 38)) t).2.2.1) 38 s' = A') := by
  obtain ⟨k, h1, ek, h3, h4, h5, h6, h7, h8⟩ := hiw
  rcases (show k = 0 ∨ k = 1 ∨ k = 2 ∨ k = 3 ∨ k = 4 ∨ k = 5 ∨ k = 6 ∨ k = 7 ∨ k = 8 ∨ k = 9 ∨ k = 10 ∨ k = 11 ∨ k = 12 by omega) with rfl | rfl | rfl | rfl | rfl | rfl | rfl | rfl | rfl | rfl | rfl | rfl | rfl
  · obtain ⟨x, hx, ex⟩ := h3 (by omega)
    exact cd_line36_30_0 I A n hn hN i hi t ht ht2 ek x hx ex
  · obtain ⟨x, hx, ex⟩ := h3 (by omega)
    obtain ⟨y, hy, ey⟩ := h4 (by omega)
    exact cd_line36_30_1 I A n hn hN i hi t ht ht2 ek x hx ex y hy ey
  · obtain ⟨x, hx, ex⟩ := h3 (by omega)
    obtain ⟨y, hy, ey⟩ := h4 (by omega)
    obtain ⟨z, hz, ez⟩ := h6 (by omega)
    exact cd_line36_30_2 I A n hn hN i hi t ht ht2 ek x hx ex y hy ey z hz ez
  · obtain ⟨x, hx, ex⟩ := h3 (by omega)
    obtain ⟨y, hy, ey⟩ := h4 (by omega)
    obtain ⟨z, hz, ez⟩ := h6 (by omega)
    exact cd_line36_30_3 I A n hn hN i hi t ht ht2 ek x hx ex y hy ey z hz ez
  · obtain ⟨x, hx, ex⟩ := h3 (by omega)
    obtain ⟨y, hy, ey⟩ := h4 (by omega)
    obtain ⟨z, hz, ez⟩ := h6 (by omega)
    exact cd_line36_30_4 I A n hn hN i hi t ht ht2 ek x hx ex y hy ey z hz ez
  · obtain ⟨x, hx, ex⟩ := h3 (by omega)
    obtain ⟨y, hy, ey⟩ := h4 (by omega)
    exact cd_line36_30_5 I A n hn hN i hi t ht ht2 ek x hx ex y hy ey
  · obtain ⟨x, hx, ex⟩ := h3 (by omega)
    obtain ⟨y, hy, ey⟩ := h4 (by omega)
    exact cd_line36_30_6 I A n hn hN i hi t ht ht2 ek x hx ex y hy ey
  · obtain ⟨x, hx, ex⟩ := h3 (by omega)
    obtain ⟨y, hy, ey⟩ := h4 (by omega)
    obtain ⟨z, hz, ez⟩ := h7 rfl
    exact cd_line36_30_7 I A n hn hN i hi t ht ht2 ek x hx ex y hy ey z hz ez
  · obtain ⟨x, hx, ex⟩ := h8 rfl
    exact cd_line36_30_8 I A n hn hN i hi t ht ht2 ek x hx ex
  · obtain ⟨x, hx, ex⟩ := h3 (by omega)
    exact cd_line36_30_9 I A n hn hN i hi t ht ht2 ek x hx ex
  · exact cd_line36_30_10 I A n hn hN i hi t ht ht2 ek 
  · obtain ⟨x, hx, ex⟩ := h3 (by omega)
    obtain ⟨y, hy, ey⟩ := h5 (by omega)
    exact cd_line36_30_11 I A n hn hN i hi t ht ht2 ek x hx ex y hy ey
  · obtain ⟨x, hx, ex⟩ := h3 (by omega)
    obtain ⟨y, hy, ey⟩ := h5 (by omega)
    exact cd_line36_30_12 I A n hn hN i hi t ht ht2 ek x hx ex y hy ey
set_option maxRecDepth 100000 in
set_option maxHeartbeats 4000000 in
theorem cd_line41_4_0 {G : am_G} (I A : Nat → Nat → Int32) (n : Nat) (hn : I 4 4 = nI n) (hN : n ≤ 60) (i : Nat) (hi : i < n) (t : Nat) (ht : I 41 4 = nI t) (ht2 : t < 4000) (ek : A 5 i = nI 0) (x : Nat) (hx : x < 32) (ex : A 6 i = nI x) : Cm G MX4_lineBehind 3 68 [.ref 41, .ref 4, .int (nI i)] I A (fun r I' A' => ∃ q s', q ≤ 401 ∧ r = some (.int (nI q)) ∧ (q = (cz_d1 (A 5) (A 6) (A 7) (A 8) i (A 42) (A 44) (A 45) (cz_sl (A 43)) t).2.2.2.2.2 ∨ (n ≤ q ∧ n ≤ (cz_d1 (A 5) (A 6) (A 7) (A 8) i (A 42) (A 44) (A 45) (cz_sl (A 43)) t).2.2.2.2.2)) ∧ cz_sl s' = (cz_d1 (A 5) (A 6) (A 7) (A 8) i (A 42) (A 44) (A 45) (cz_sl (A 43)) t).2.2.2.1 ∧ upI I 41 4 (nI (cz_d1 (A 5) (A 6) (A 7) (A 8) i (A 42) (A 44) (A 45) (cz_sl (A 43)) t).2.2.2.2.1) = I' ∧ upA (upA (upA (upA A 42 (cz_d1 (A 5) (A 6) (A 7) (A 8) i (A 42) (A 44) (A 45) (cz_sl (A 43)) t).1) 44 (cz_d1 (A 5) (A 6) (A 7) (A 8) i (A 42) (A 44) (A 45) (cz_sl (A 43)) t).2.1) 45 (cz_d1 (A 5) (A 6) (A 7) (A 8) i (A 42) (A 44) (A 45) (cz_sl (A 43)) t).2.2.1) 43 s' = A') := by
  refine Cm.of (by decide) (Nat.le_of_ble_eq_true rfl) rfl ?_
  show V G MX4_lineBehind (am_R 3 68 0 0) _ 0 0 0 [(0, .ref 41), (1, .ref 4), (2, .int (nI i))] [] (hp I A)
  refine V.aload_n (j := 1) rfl dX4_lineBehind_0 ?_
  refine V.getr (q := 6) dX4_lineBehind_1 fX4_44 rfl rfl ?_
  refine V.iload_n (j := 2) rfl dX4_lineBehind_4 ?_
  refine V.lda (v := nI x) dX4_lineBehind_5 rfl (by omega) (by decide) ex ?_
  refine V.istore_n (ls' := [(0, .ref 41), (1, .ref 4), (2, .int (nI i)), (3, .int (nI x))]) dX4_lineBehind_6 (by decide) rfl ?_
  refine V.aload_n (j := 1) rfl dX4_lineBehind_7 ?_
  refine V.getr (q := 5) dX4_lineBehind_8 fX4_47 rfl rfl ?_
  refine V.iload_n (j := 2) rfl dX4_lineBehind_11 ?_
  refine V.lda (v := nI 0) dX4_lineBehind_12 rfl (by omega) (by decide) ek ?_
  refine V.tableOut (tgt := 84) dX4_lineBehind_13 (by decide) (by decide) ?_
  refine V.aload_n (j := 0) rfl dX4_lineBehind_84 ?_
  refine V.aload_n (j := 1) rfl dX4_lineBehind_85 ?_
  refine V.getr (q := 5) dX4_lineBehind_86 fX4_47 rfl rfl ?_
  refine V.iload_n (j := 2) rfl dX4_lineBehind_89 ?_
  refine V.lda (v := nI 0) dX4_lineBehind_90 rfl (by omega) (by decide) ek ?_
  refine V.iload_n (j := 3) rfl dX4_lineBehind_91 ?_
  refine V.aload_n (j := 1) rfl dX4_lineBehind_92 ?_
  refine V.getr (q := 7) dX4_lineBehind_93 fX4_50 rfl rfl ?_
  refine V.iload_n (j := 2) rfl dX4_lineBehind_96 ?_
  refine V.lda (v := A 7 i) dX4_lineBehind_97 rfl (by omega) (by decide) rfl ?_
  refine V.aload_n (j := 1) rfl dX4_lineBehind_98 ?_
  refine V.getr (q := 8) dX4_lineBehind_99 fX4_53 rfl rfl ?_
  refine V.iload_n (j := 2) rfl dX4_lineBehind_102 ?_
  refine V.lda (v := A 8 i) dX4_lineBehind_103 rfl (by omega) (by decide) rfl ?_
  refine V.cV (As := [.int (nI 0), .int (nI x), .int (A 7 i), .int (A 8 i)]) (st := []) dX4_lineBehind_104 sX4_56 iX4_act lX4_act rfl rfl (cd_act41_0 I A x hx _ _) ⟨by decide, by decide⟩ (Nat.le_of_ble_eq_true rfl) rfl (fun r I' A' hq => ?_)
  obtain ⟨rfl, rfl, rfl⟩ := hq
  refine V.st (st' := []) rfl ?_
  refine V.iload_n (j := 2) rfl dX4_lineBehind_107 ?_
  refine V.iconst (v := nI 1) (by decide) dX4_lineBehind_108 ?_
  refine V.iaddN dX4_lineBehind_109 ?_
  refine V.ri dX4_lineBehind_110 rfl ?_
  have ed : (A 5 i).toNatClampNeg = 0 := by rw [ek, nI_clamp (by omega)]
  have eD : cz_d1 (A 5) (A 6) (A 7) (A 8) i (A 42) (A 44) (A 45) (cz_sl (A 43)) t = (upd (A 42) x (A 7 i), A 44, A 45, cz_sl (A 43), t, i + 1) := by unfold cz_d1 mz_di1; rw [Nat.zero_add, cz_c_0, ed]; simp only [cz_c_1, cz_c_2, cz_c_3, ex, nI_clamp (show x < 2 ^ 31 by omega)]
  rw [eD]
  exact ⟨i + 1, A 43, by omega, rfl, Or.inl rfl, rfl, by rw [← ht, upI_i], cz_M41_42⟩
set_option maxRecDepth 100000 in
set_option maxHeartbeats 4000000 in
theorem cd_line41_4_1 {G : am_G} (I A : Nat → Nat → Int32) (n : Nat) (hn : I 4 4 = nI n) (hN : n ≤ 60) (i : Nat) (hi : i < n) (t : Nat) (ht : I 41 4 = nI t) (ht2 : t < 4000) (ek : A 5 i = nI 1) (x : Nat) (hx : x < 32) (ex : A 6 i = nI x) (y : Nat) (hy : y < 32) (ey : A 7 i = nI y) : Cm G MX4_lineBehind 3 68 [.ref 41, .ref 4, .int (nI i)] I A (fun r I' A' => ∃ q s', q ≤ 401 ∧ r = some (.int (nI q)) ∧ (q = (cz_d1 (A 5) (A 6) (A 7) (A 8) i (A 42) (A 44) (A 45) (cz_sl (A 43)) t).2.2.2.2.2 ∨ (n ≤ q ∧ n ≤ (cz_d1 (A 5) (A 6) (A 7) (A 8) i (A 42) (A 44) (A 45) (cz_sl (A 43)) t).2.2.2.2.2)) ∧ cz_sl s' = (cz_d1 (A 5) (A 6) (A 7) (A 8) i (A 42) (A 44) (A 45) (cz_sl (A 43)) t).2.2.2.1 ∧ upI I 41 4 (nI (cz_d1 (A 5) (A 6) (A 7) (A 8) i (A 42) (A 44) (A 45) (cz_sl (A 43)) t).2.2.2.2.1) = I' ∧ upA (upA (upA (upA A 42 (cz_d1 (A 5) (A 6) (A 7) (A 8) i (A 42) (A 44) (A 45) (cz_sl (A 43)) t).1) 44 (cz_d1 (A 5) (A 6) (A 7) (A 8) i (A 42) (A 44) (A 45) (cz_sl (A 43)) t).2.1) 45 (cz_d1 (A 5) (A 6) (A 7) (A 8) i (A 42) (A 44) (A 45) (cz_sl (A 43)) t).2.2.1) 43 s' = A') := by
  refine Cm.of (by decide) (Nat.le_of_ble_eq_true rfl) rfl ?_
  show V G MX4_lineBehind (am_R 3 68 0 0) _ 0 0 0 [(0, .ref 41), (1, .ref 4), (2, .int (nI i))] [] (hp I A)
  refine V.aload_n (j := 1) rfl dX4_lineBehind_0 ?_
  refine V.getr (q := 6) dX4_lineBehind_1 fX4_44 rfl rfl ?_
  refine V.iload_n (j := 2) rfl dX4_lineBehind_4 ?_
  refine V.lda (v := nI x) dX4_lineBehind_5 rfl (by omega) (by decide) ex ?_
  refine V.istore_n (ls' := [(0, .ref 41), (1, .ref 4), (2, .int (nI i)), (3, .int (nI x))]) dX4_lineBehind_6 (by decide) rfl ?_
  refine V.aload_n (j := 1) rfl dX4_lineBehind_7 ?_
  refine V.getr (q := 5) dX4_lineBehind_8 fX4_47 rfl rfl ?_
  refine V.iload_n (j := 2) rfl dX4_lineBehind_11 ?_
  refine V.lda (v := nI 1) dX4_lineBehind_12 rfl (by omega) (by decide) ek ?_
  refine V.tableOut (tgt := 84) dX4_lineBehind_13 (by decide) (by decide) ?_
  refine V.aload_n (j := 0) rfl dX4_lineBehind_84 ?_
  refine V.aload_n (j := 1) rfl dX4_lineBehind_85 ?_
  refine V.getr (q := 5) dX4_lineBehind_86 fX4_47 rfl rfl ?_
  refine V.iload_n (j := 2) rfl dX4_lineBehind_89 ?_
  refine V.lda (v := nI 1) dX4_lineBehind_90 rfl (by omega) (by decide) ek ?_
  refine V.iload_n (j := 3) rfl dX4_lineBehind_91 ?_
  refine V.aload_n (j := 1) rfl dX4_lineBehind_92 ?_
  refine V.getr (q := 7) dX4_lineBehind_93 fX4_50 rfl rfl ?_
  refine V.iload_n (j := 2) rfl dX4_lineBehind_96 ?_
  refine V.lda (v := nI y) dX4_lineBehind_97 rfl (by omega) (by decide) ey ?_
  refine V.aload_n (j := 1) rfl dX4_lineBehind_98 ?_
  refine V.getr (q := 8) dX4_lineBehind_99 fX4_53 rfl rfl ?_
  refine V.iload_n (j := 2) rfl dX4_lineBehind_102 ?_
  refine V.lda (v := A 8 i) dX4_lineBehind_103 rfl (by omega) (by decide) rfl ?_
  refine V.cV (As := [.int (nI 1), .int (nI x), .int (nI y), .int (A 8 i)]) (st := []) dX4_lineBehind_104 sX4_56 iX4_act lX4_act rfl rfl (cd_act41_1 I A x hx y hy _) ⟨by decide, by decide⟩ (Nat.le_of_ble_eq_true rfl) rfl (fun r I' A' hq => ?_)
  obtain ⟨rfl, rfl, rfl⟩ := hq
  refine V.st (st' := []) rfl ?_
  refine V.iload_n (j := 2) rfl dX4_lineBehind_107 ?_
  refine V.iconst (v := nI 1) (by decide) dX4_lineBehind_108 ?_
  refine V.iaddN dX4_lineBehind_109 ?_
  refine V.ri dX4_lineBehind_110 rfl ?_
  have ed : (A 5 i).toNatClampNeg = 1 := by rw [ek, nI_clamp (by omega)]
  have eD : cz_d1 (A 5) (A 6) (A 7) (A 8) i (A 42) (A 44) (A 45) (cz_sl (A 43)) t = (upd (A 42) x (A 42 y), A 44, A 45, cz_sl (A 43), t, i + 1) := by unfold cz_d1 mz_di1; rw [Nat.zero_add, cz_c_0, ed]; simp only [cz_c_1, cz_c_2, cz_c_3, ex, ey, nI_clamp (show x < 2 ^ 31 by omega), nI_clamp (show y < 2 ^ 31 by omega)]
  rw [eD]
  exact ⟨i + 1, A 43, by omega, rfl, Or.inl rfl, rfl, by rw [← ht, upI_i], cz_M41_42⟩
set_option maxRecDepth 100000 in
set_option maxHeartbeats 4000000 in
theorem cd_line41_4_2 {G : am_G} (I A : Nat → Nat → Int32) (n : Nat) (hn : I 4 4 = nI n) (hN : n ≤ 60) (i : Nat) (hi : i < n) (t : Nat) (ht : I 41 4 = nI t) (ht2 : t < 4000) (ek : A 5 i = nI 2) (x : Nat) (hx : x < 32) (ex : A 6 i = nI x) (y : Nat) (hy : y < 32) (ey : A 7 i = nI y) (z : Nat) (hz : z < 32) (ez : A 8 i = nI z) : Cm G MX4_lineBehind 3 68 [.ref 41, .ref 4, .int (nI i)] I A (fun r I' A' => ∃ q s', q ≤ 401 ∧ r = some (.int (nI q)) ∧ (q = (cz_d1 (A 5) (A 6) (A 7) (A 8) i (A 42) (A 44) (A 45) (cz_sl (A 43)) t).2.2.2.2.2 ∨ (n ≤ q ∧ n ≤ (cz_d1 (A 5) (A 6) (A 7) (A 8) i (A 42) (A 44) (A 45) (cz_sl (A 43)) t).2.2.2.2.2)) ∧ cz_sl s' = (cz_d1 (A 5) (A 6) (A 7) (A 8) i (A 42) (A 44) (A 45) (cz_sl (A 43)) t).2.2.2.1 ∧ upI I 41 4 (nI (cz_d1 (A 5) (A 6) (A 7) (A 8) i (A 42) (A 44) (A 45) (cz_sl (A 43)) t).2.2.2.2.1) = I' ∧ upA (upA (upA (upA A 42 (cz_d1 (A 5) (A 6) (A 7) (A 8) i (A 42) (A 44) (A 45) (cz_sl (A 43)) t).1) 44 (cz_d1 (A 5) (A 6) (A 7) (A 8) i (A 42) (A 44) (A 45) (cz_sl (A 43)) t).2.1) 45 (cz_d1 (A 5) (A 6) (A 7) (A 8) i (A 42) (A 44) (A 45) (cz_sl (A 43)) t).2.2.1) 43 s' = A') := by
  refine Cm.of (by decide) (Nat.le_of_ble_eq_true rfl) rfl ?_
  show V G MX4_lineBehind (am_R 3 68 0 0) _ 0 0 0 [(0, .ref 41), (1, .ref 4), (2, .int (nI i))] [] (hp I A)
  refine V.aload_n (j := 1) rfl dX4_lineBehind_0 ?_
  refine V.getr (q := 6) dX4_lineBehind_1 fX4_44 rfl rfl ?_
  refine V.iload_n (j := 2) rfl dX4_lineBehind_4 ?_
  refine V.lda (v := nI x) dX4_lineBehind_5 rfl (by omega) (by decide) ex ?_
  refine V.istore_n (ls' := [(0, .ref 41), (1, .ref 4), (2, .int (nI i)), (3, .int (nI x))]) dX4_lineBehind_6 (by decide) rfl ?_
  refine V.aload_n (j := 1) rfl dX4_lineBehind_7 ?_
  refine V.getr (q := 5) dX4_lineBehind_8 fX4_47 rfl rfl ?_
  refine V.iload_n (j := 2) rfl dX4_lineBehind_11 ?_
  refine V.lda (v := nI 2) dX4_lineBehind_12 rfl (by omega) (by decide) ek ?_
  refine V.tableOut (tgt := 84) dX4_lineBehind_13 (by decide) (by decide) ?_
  refine V.aload_n (j := 0) rfl dX4_lineBehind_84 ?_
  refine V.aload_n (j := 1) rfl dX4_lineBehind_85 ?_
  refine V.getr (q := 5) dX4_lineBehind_86 fX4_47 rfl rfl ?_
  refine V.iload_n (j := 2) rfl dX4_lineBehind_89 ?_
  refine V.lda (v := nI 2) dX4_lineBehind_90 rfl (by omega) (by decide) ek ?_
  refine V.iload_n (j := 3) rfl dX4_lineBehind_91 ?_
  refine V.aload_n (j := 1) rfl dX4_lineBehind_92 ?_
  refine V.getr (q := 7) dX4_lineBehind_93 fX4_50 rfl rfl ?_
  refine V.iload_n (j := 2) rfl dX4_lineBehind_96 ?_
  refine V.lda (v := nI y) dX4_lineBehind_97 rfl (by omega) (by decide) ey ?_
  refine V.aload_n (j := 1) rfl dX4_lineBehind_98 ?_
  refine V.getr (q := 8) dX4_lineBehind_99 fX4_53 rfl rfl ?_
  refine V.iload_n (j := 2) rfl dX4_lineBehind_102 ?_
  refine V.lda (v := nI z) dX4_lineBehind_103 rfl (by omega) (by decide) ez ?_
  refine V.cV (As := [.int (nI 2), .int (nI x), .int (nI y), .int (nI z)]) (st := []) dX4_lineBehind_104 sX4_56 iX4_act lX4_act rfl rfl (cd_act41_2 I A x hx y hy z hz) ⟨by decide, by decide⟩ (Nat.le_of_ble_eq_true rfl) rfl (fun r I' A' hq => ?_)
  obtain ⟨rfl, rfl, rfl⟩ := hq
  refine V.st (st' := []) rfl ?_
  refine V.iload_n (j := 2) rfl dX4_lineBehind_107 ?_
  refine V.iconst (v := nI 1) (by decide) dX4_lineBehind_108 ?_
  refine V.iaddN dX4_lineBehind_109 ?_
  refine V.ri dX4_lineBehind_110 rfl ?_
  have ed : (A 5 i).toNatClampNeg = 2 := by rw [ek, nI_clamp (by omega)]
  have eD : cz_d1 (A 5) (A 6) (A 7) (A 8) i (A 42) (A 44) (A 45) (cz_sl (A 43)) t = (upd (A 42) x (mz_rk (nI 2) (A 42 y) (A 42 z)), A 44, A 45, cz_sl (A 43), t, i + 1) := by unfold cz_d1 mz_di1; rw [Nat.zero_add, cz_c_0, ed]; simp only [cz_c_1, cz_c_2, cz_c_3, ex, ey, ez, nI_clamp (show x < 2 ^ 31 by omega), nI_clamp (show y < 2 ^ 31 by omega), nI_clamp (show z < 2 ^ 31 by omega)]
  rw [eD]
  exact ⟨i + 1, A 43, by omega, rfl, Or.inl rfl, rfl, by rw [← ht, upI_i], (by rw [mz_rk2]; exact cz_M41_42)⟩
set_option maxRecDepth 100000 in
set_option maxHeartbeats 4000000 in
theorem cd_line41_4_3 {G : am_G} (I A : Nat → Nat → Int32) (n : Nat) (hn : I 4 4 = nI n) (hN : n ≤ 60) (i : Nat) (hi : i < n) (t : Nat) (ht : I 41 4 = nI t) (ht2 : t < 4000) (ek : A 5 i = nI 3) (x : Nat) (hx : x < 32) (ex : A 6 i = nI x) (y : Nat) (hy : y < 32) (ey : A 7 i = nI y) (z : Nat) (hz : z < 32) (ez : A 8 i = nI z) : Cm G MX4_lineBehind 3 68 [.ref 41, .ref 4, .int (nI i)] I A (fun r I' A' => ∃ q s', q ≤ 401 ∧ r = some (.int (nI q)) ∧ (q = (cz_d1 (A 5) (A 6) (A 7) (A 8) i (A 42) (A 44) (A 45) (cz_sl (A 43)) t).2.2.2.2.2 ∨ (n ≤ q ∧ n ≤ (cz_d1 (A 5) (A 6) (A 7) (A 8) i (A 42) (A 44) (A 45) (cz_sl (A 43)) t).2.2.2.2.2)) ∧ cz_sl s' = (cz_d1 (A 5) (A 6) (A 7) (A 8) i (A 42) (A 44) (A 45) (cz_sl (A 43)) t).2.2.2.1 ∧ upI I 41 4 (nI (cz_d1 (A 5) (A 6) (A 7) (A 8) i (A 42) (A 44) (A 45) (cz_sl (A 43)) t).2.2.2.2.1) = I' ∧ upA (upA (upA (upA A 42 (cz_d1 (A 5) (A 6) (A 7) (A 8) i (A 42) (A 44) (A 45) (cz_sl (A 43)) t).1) 44 (cz_d1 (A 5) (A 6) (A 7) (A 8) i (A 42) (A 44) (A 45) (cz_sl (A 43)) t).2.1) 45 (cz_d1 (A 5) (A 6) (A 7) (A 8) i (A 42) (A 44) (A 45) (cz_sl (A 43)) t).2.2.1) 43 s' = A') := by
  refine Cm.of (by decide) (Nat.le_of_ble_eq_true rfl) rfl ?_
  show V G MX4_lineBehind (am_R 3 68 0 0) _ 0 0 0 [(0, .ref 41), (1, .ref 4), (2, .int (nI i))] [] (hp I A)
  refine V.aload_n (j := 1) rfl dX4_lineBehind_0 ?_
  refine V.getr (q := 6) dX4_lineBehind_1 fX4_44 rfl rfl ?_
  refine V.iload_n (j := 2) rfl dX4_lineBehind_4 ?_
  refine V.lda (v := nI x) dX4_lineBehind_5 rfl (by omega) (by decide) ex ?_
  refine V.istore_n (ls' := [(0, .ref 41), (1, .ref 4), (2, .int (nI i)), (3, .int (nI x))]) dX4_lineBehind_6 (by decide) rfl ?_
  refine V.aload_n (j := 1) rfl dX4_lineBehind_7 ?_
  refine V.getr (q := 5) dX4_lineBehind_8 fX4_47 rfl rfl ?_
  refine V.iload_n (j := 2) rfl dX4_lineBehind_11 ?_
  refine V.lda (v := nI 3) dX4_lineBehind_12 rfl (by omega) (by decide) ek ?_
  refine V.tableOut (tgt := 84) dX4_lineBehind_13 (by decide) (by decide) ?_
  refine V.aload_n (j := 0) rfl dX4_lineBehind_84 ?_
  refine V.aload_n (j := 1) rfl dX4_lineBehind_85 ?_
  refine V.getr (q := 5) dX4_lineBehind_86 fX4_47 rfl rfl ?_
  refine V.iload_n (j := 2) rfl dX4_lineBehind_89 ?_
  refine V.lda (v := nI 3) dX4_lineBehind_90 rfl (by omega) (by decide) ek ?_
  refine V.iload_n (j := 3) rfl dX4_lineBehind_91 ?_
  refine V.aload_n (j := 1) rfl dX4_lineBehind_92 ?_
  refine V.getr (q := 7) dX4_lineBehind_93 fX4_50 rfl rfl ?_
  refine V.iload_n (j := 2) rfl dX4_lineBehind_96 ?_
  refine V.lda (v := nI y) dX4_lineBehind_97 rfl (by omega) (by decide) ey ?_
  refine V.aload_n (j := 1) rfl dX4_lineBehind_98 ?_
  refine V.getr (q := 8) dX4_lineBehind_99 fX4_53 rfl rfl ?_
  refine V.iload_n (j := 2) rfl dX4_lineBehind_102 ?_
  refine V.lda (v := nI z) dX4_lineBehind_103 rfl (by omega) (by decide) ez ?_
  refine V.cV (As := [.int (nI 3), .int (nI x), .int (nI y), .int (nI z)]) (st := []) dX4_lineBehind_104 sX4_56 iX4_act lX4_act rfl rfl (cd_act41_3 I A x hx y hy z hz) ⟨by decide, by decide⟩ (Nat.le_of_ble_eq_true rfl) rfl (fun r I' A' hq => ?_)
  obtain ⟨rfl, rfl, rfl⟩ := hq
  refine V.st (st' := []) rfl ?_
  refine V.iload_n (j := 2) rfl dX4_lineBehind_107 ?_
  refine V.iconst (v := nI 1) (by decide) dX4_lineBehind_108 ?_
  refine V.iaddN dX4_lineBehind_109 ?_
  refine V.ri dX4_lineBehind_110 rfl ?_
  have ed : (A 5 i).toNatClampNeg = 3 := by rw [ek, nI_clamp (by omega)]
  have eD : cz_d1 (A 5) (A 6) (A 7) (A 8) i (A 42) (A 44) (A 45) (cz_sl (A 43)) t = (upd (A 42) x (mz_rk (nI 3) (A 42 y) (A 42 z)), A 44, A 45, cz_sl (A 43), t, i + 1) := by unfold cz_d1 mz_di1; rw [Nat.zero_add, cz_c_0, ed]; simp only [cz_c_1, cz_c_2, cz_c_3, ex, ey, ez, nI_clamp (show x < 2 ^ 31 by omega), nI_clamp (show y < 2 ^ 31 by omega), nI_clamp (show z < 2 ^ 31 by omega)]
  rw [eD]
  exact ⟨i + 1, A 43, by omega, rfl, Or.inl rfl, rfl, by rw [← ht, upI_i], (by rw [mz_rk3]; exact cz_M41_42)⟩
set_option maxRecDepth 100000 in
set_option maxHeartbeats 4000000 in
theorem cd_line41_4_4 {G : am_G} (I A : Nat → Nat → Int32) (n : Nat) (hn : I 4 4 = nI n) (hN : n ≤ 60) (i : Nat) (hi : i < n) (t : Nat) (ht : I 41 4 = nI t) (ht2 : t < 4000) (ek : A 5 i = nI 4) (x : Nat) (hx : x < 32) (ex : A 6 i = nI x) (y : Nat) (hy : y < 32) (ey : A 7 i = nI y) (z : Nat) (hz : z < 32) (ez : A 8 i = nI z) : Cm G MX4_lineBehind 3 68 [.ref 41, .ref 4, .int (nI i)] I A (fun r I' A' => ∃ q s', q ≤ 401 ∧ r = some (.int (nI q)) ∧ (q = (cz_d1 (A 5) (A 6) (A 7) (A 8) i (A 42) (A 44) (A 45) (cz_sl (A 43)) t).2.2.2.2.2 ∨ (n ≤ q ∧ n ≤ (cz_d1 (A 5) (A 6) (A 7) (A 8) i (A 42) (A 44) (A 45) (cz_sl (A 43)) t).2.2.2.2.2)) ∧ cz_sl s' = (cz_d1 (A 5) (A 6) (A 7) (A 8) i (A 42) (A 44) (A 45) (cz_sl (A 43)) t).2.2.2.1 ∧ upI I 41 4 (nI (cz_d1 (A 5) (A 6) (A 7) (A 8) i (A 42) (A 44) (A 45) (cz_sl (A 43)) t).2.2.2.2.1) = I' ∧ upA (upA (upA (upA A 42 (cz_d1 (A 5) (A 6) (A 7) (A 8) i (A 42) (A 44) (A 45) (cz_sl (A 43)) t).1) 44 (cz_d1 (A 5) (A 6) (A 7) (A 8) i (A 42) (A 44) (A 45) (cz_sl (A 43)) t).2.1) 45 (cz_d1 (A 5) (A 6) (A 7) (A 8) i (A 42) (A 44) (A 45) (cz_sl (A 43)) t).2.2.1) 43 s' = A') := by
  refine Cm.of (by decide) (Nat.le_of_ble_eq_true rfl) rfl ?_
  show V G MX4_lineBehind (am_R 3 68 0 0) _ 0 0 0 [(0, .ref 41), (1, .ref 4), (2, .int (nI i))] [] (hp I A)
  refine V.aload_n (j := 1) rfl dX4_lineBehind_0 ?_
  refine V.getr (q := 6) dX4_lineBehind_1 fX4_44 rfl rfl ?_
  refine V.iload_n (j := 2) rfl dX4_lineBehind_4 ?_
  refine V.lda (v := nI x) dX4_lineBehind_5 rfl (by omega) (by decide) ex ?_
  refine V.istore_n (ls' := [(0, .ref 41), (1, .ref 4), (2, .int (nI i)), (3, .int (nI x))]) dX4_lineBehind_6 (by decide) rfl ?_
  refine V.aload_n (j := 1) rfl dX4_lineBehind_7 ?_
  refine V.getr (q := 5) dX4_lineBehind_8 fX4_47 rfl rfl ?_
  refine V.iload_n (j := 2) rfl dX4_lineBehind_11 ?_
  refine V.lda (v := nI 4) dX4_lineBehind_12 rfl (by omega) (by decide) ek ?_
  refine V.tableOut (tgt := 84) dX4_lineBehind_13 (by decide) (by decide) ?_
  refine V.aload_n (j := 0) rfl dX4_lineBehind_84 ?_
  refine V.aload_n (j := 1) rfl dX4_lineBehind_85 ?_
  refine V.getr (q := 5) dX4_lineBehind_86 fX4_47 rfl rfl ?_
  refine V.iload_n (j := 2) rfl dX4_lineBehind_89 ?_
  refine V.lda (v := nI 4) dX4_lineBehind_90 rfl (by omega) (by decide) ek ?_
  refine V.iload_n (j := 3) rfl dX4_lineBehind_91 ?_
  refine V.aload_n (j := 1) rfl dX4_lineBehind_92 ?_
  refine V.getr (q := 7) dX4_lineBehind_93 fX4_50 rfl rfl ?_
  refine V.iload_n (j := 2) rfl dX4_lineBehind_96 ?_
  refine V.lda (v := nI y) dX4_lineBehind_97 rfl (by omega) (by decide) ey ?_
  refine V.aload_n (j := 1) rfl dX4_lineBehind_98 ?_
  refine V.getr (q := 8) dX4_lineBehind_99 fX4_53 rfl rfl ?_
  refine V.iload_n (j := 2) rfl dX4_lineBehind_102 ?_
  refine V.lda (v := nI z) dX4_lineBehind_103 rfl (by omega) (by decide) ez ?_
  refine V.cV (As := [.int (nI 4), .int (nI x), .int (nI y), .int (nI z)]) (st := []) dX4_lineBehind_104 sX4_56 iX4_act lX4_act rfl rfl (cd_act41_4 I A x hx y hy z hz) ⟨by decide, by decide⟩ (Nat.le_of_ble_eq_true rfl) rfl (fun r I' A' hq => ?_)
  obtain ⟨rfl, rfl, rfl⟩ := hq
  refine V.st (st' := []) rfl ?_
  refine V.iload_n (j := 2) rfl dX4_lineBehind_107 ?_
  refine V.iconst (v := nI 1) (by decide) dX4_lineBehind_108 ?_
  refine V.iaddN dX4_lineBehind_109 ?_
  refine V.ri dX4_lineBehind_110 rfl ?_
  have ed : (A 5 i).toNatClampNeg = 4 := by rw [ek, nI_clamp (by omega)]
  have eD : cz_d1 (A 5) (A 6) (A 7) (A 8) i (A 42) (A 44) (A 45) (cz_sl (A 43)) t = (upd (A 42) x (mz_rk (nI 4) (A 42 y) (A 42 z)), A 44, A 45, cz_sl (A 43), t, i + 1) := by unfold cz_d1 mz_di1; rw [Nat.zero_add, cz_c_0, ed]; simp only [cz_c_1, cz_c_2, cz_c_3, ex, ey, ez, nI_clamp (show x < 2 ^ 31 by omega), nI_clamp (show y < 2 ^ 31 by omega), nI_clamp (show z < 2 ^ 31 by omega)]
  rw [eD]
  exact ⟨i + 1, A 43, by omega, rfl, Or.inl rfl, rfl, by rw [← ht, upI_i], (by rw [mz_rk4]; exact cz_M41_42)⟩
set_option maxRecDepth 100000 in
set_option maxHeartbeats 4000000 in
theorem cd_line41_4_5 {G : am_G} (I A : Nat → Nat → Int32) (n : Nat) (hn : I 4 4 = nI n) (hN : n ≤ 60) (i : Nat) (hi : i < n) (t : Nat) (ht : I 41 4 = nI t) (ht2 : t < 4000) (ek : A 5 i = nI 5) (x : Nat) (hx : x < 32) (ex : A 6 i = nI x) (y : Nat) (hy : y < 32) (ey : A 7 i = nI y) : Cm G MX4_lineBehind 3 68 [.ref 41, .ref 4, .int (nI i)] I A (fun r I' A' => ∃ q s', q ≤ 401 ∧ r = some (.int (nI q)) ∧ (q = (cz_d1 (A 5) (A 6) (A 7) (A 8) i (A 42) (A 44) (A 45) (cz_sl (A 43)) t).2.2.2.2.2 ∨ (n ≤ q ∧ n ≤ (cz_d1 (A 5) (A 6) (A 7) (A 8) i (A 42) (A 44) (A 45) (cz_sl (A 43)) t).2.2.2.2.2)) ∧ cz_sl s' = (cz_d1 (A 5) (A 6) (A 7) (A 8) i (A 42) (A 44) (A 45) (cz_sl (A 43)) t).2.2.2.1 ∧ upI I 41 4 (nI (cz_d1 (A 5) (A 6) (A 7) (A 8) i (A 42) (A 44) (A 45) (cz_sl (A 43)) t).2.2.2.2.1) = I' ∧ upA (upA (upA (upA A 42 (cz_d1 (A 5) (A 6) (A 7) (A 8) i (A 42) (A 44) (A 45) (cz_sl (A 43)) t).1) 44 (cz_d1 (A 5) (A 6) (A 7) (A 8) i (A 42) (A 44) (A 45) (cz_sl (A 43)) t).2.1) 45 (cz_d1 (A 5) (A 6) (A 7) (A 8) i (A 42) (A 44) (A 45) (cz_sl (A 43)) t).2.2.1) 43 s' = A') := by
  refine Cm.of (by decide) (Nat.le_of_ble_eq_true rfl) rfl ?_
  show V G MX4_lineBehind (am_R 3 68 0 0) _ 0 0 0 [(0, .ref 41), (1, .ref 4), (2, .int (nI i))] [] (hp I A)
  refine V.aload_n (j := 1) rfl dX4_lineBehind_0 ?_
  refine V.getr (q := 6) dX4_lineBehind_1 fX4_44 rfl rfl ?_
  refine V.iload_n (j := 2) rfl dX4_lineBehind_4 ?_
  refine V.lda (v := nI x) dX4_lineBehind_5 rfl (by omega) (by decide) ex ?_
  refine V.istore_n (ls' := [(0, .ref 41), (1, .ref 4), (2, .int (nI i)), (3, .int (nI x))]) dX4_lineBehind_6 (by decide) rfl ?_
  refine V.aload_n (j := 1) rfl dX4_lineBehind_7 ?_
  refine V.getr (q := 5) dX4_lineBehind_8 fX4_47 rfl rfl ?_
  refine V.iload_n (j := 2) rfl dX4_lineBehind_11 ?_
  refine V.lda (v := nI 5) dX4_lineBehind_12 rfl (by omega) (by decide) ek ?_
  refine V.tableOut (tgt := 84) dX4_lineBehind_13 (by decide) (by decide) ?_
  refine V.aload_n (j := 0) rfl dX4_lineBehind_84 ?_
  refine V.aload_n (j := 1) rfl dX4_lineBehind_85 ?_
  refine V.getr (q := 5) dX4_lineBehind_86 fX4_47 rfl rfl ?_
  refine V.iload_n (j := 2) rfl dX4_lineBehind_89 ?_
  refine V.lda (v := nI 5) dX4_lineBehind_90 rfl (by omega) (by decide) ek ?_
  refine V.iload_n (j := 3) rfl dX4_lineBehind_91 ?_
  refine V.aload_n (j := 1) rfl dX4_lineBehind_92 ?_
  refine V.getr (q := 7) dX4_lineBehind_93 fX4_50 rfl rfl ?_
  refine V.iload_n (j := 2) rfl dX4_lineBehind_96 ?_
  refine V.lda (v := nI y) dX4_lineBehind_97 rfl (by omega) (by decide) ey ?_
  refine V.aload_n (j := 1) rfl dX4_lineBehind_98 ?_
  refine V.getr (q := 8) dX4_lineBehind_99 fX4_53 rfl rfl ?_
  refine V.iload_n (j := 2) rfl dX4_lineBehind_102 ?_
  refine V.lda (v := A 8 i) dX4_lineBehind_103 rfl (by omega) (by decide) rfl ?_
  refine V.cV (As := [.int (nI 5), .int (nI x), .int (nI y), .int (A 8 i)]) (st := []) dX4_lineBehind_104 sX4_56 iX4_act lX4_act rfl rfl (cd_act41_5 I A x hx y hy _) ⟨by decide, by decide⟩ (Nat.le_of_ble_eq_true rfl) rfl (fun r I' A' hq => ?_)
  obtain ⟨rfl, rfl, rfl⟩ := hq
  refine V.st (st' := []) rfl ?_
  refine V.iload_n (j := 2) rfl dX4_lineBehind_107 ?_
  refine V.iconst (v := nI 1) (by decide) dX4_lineBehind_108 ?_
  refine V.iaddN dX4_lineBehind_109 ?_
  refine V.ri dX4_lineBehind_110 rfl ?_
  have ed : (A 5 i).toNatClampNeg = 5 := by rw [ek, nI_clamp (by omega)]
  have eD : cz_d1 (A 5) (A 6) (A 7) (A 8) i (A 42) (A 44) (A 45) (cz_sl (A 43)) t = (upd (A 42) x (A 44 (mz_cl (A 42 y + A 8 i))), A 44, A 45, cz_sl (A 43), t, i + 1) := by unfold cz_d1 mz_di1; rw [Nat.zero_add, cz_c_0, ed]; simp only [cz_c_1, cz_c_2, cz_c_3, ex, ey, nI_clamp (show x < 2 ^ 31 by omega), nI_clamp (show y < 2 ^ 31 by omega)]
  rw [eD]
  exact ⟨i + 1, A 43, by omega, rfl, Or.inl rfl, rfl, by rw [← ht, upI_i], cz_M41_42⟩
set_option maxRecDepth 100000 in
set_option maxHeartbeats 4000000 in
theorem cd_line41_4_6 {G : am_G} (I A : Nat → Nat → Int32) (n : Nat) (hn : I 4 4 = nI n) (hN : n ≤ 60) (i : Nat) (hi : i < n) (t : Nat) (ht : I 41 4 = nI t) (ht2 : t < 4000) (ek : A 5 i = nI 6) (x : Nat) (hx : x < 32) (ex : A 6 i = nI x) (y : Nat) (hy : y < 32) (ey : A 7 i = nI y) : Cm G MX4_lineBehind 3 68 [.ref 41, .ref 4, .int (nI i)] I A (fun r I' A' => ∃ q s', q ≤ 401 ∧ r = some (.int (nI q)) ∧ (q = (cz_d1 (A 5) (A 6) (A 7) (A 8) i (A 42) (A 44) (A 45) (cz_sl (A 43)) t).2.2.2.2.2 ∨ (n ≤ q ∧ n ≤ (cz_d1 (A 5) (A 6) (A 7) (A 8) i (A 42) (A 44) (A 45) (cz_sl (A 43)) t).2.2.2.2.2)) ∧ cz_sl s' = (cz_d1 (A 5) (A 6) (A 7) (A 8) i (A 42) (A 44) (A 45) (cz_sl (A 43)) t).2.2.2.1 ∧ upI I 41 4 (nI (cz_d1 (A 5) (A 6) (A 7) (A 8) i (A 42) (A 44) (A 45) (cz_sl (A 43)) t).2.2.2.2.1) = I' ∧ upA (upA (upA (upA A 42 (cz_d1 (A 5) (A 6) (A 7) (A 8) i (A 42) (A 44) (A 45) (cz_sl (A 43)) t).1) 44 (cz_d1 (A 5) (A 6) (A 7) (A 8) i (A 42) (A 44) (A 45) (cz_sl (A 43)) t).2.1) 45 (cz_d1 (A 5) (A 6) (A 7) (A 8) i (A 42) (A 44) (A 45) (cz_sl (A 43)) t).2.2.1) 43 s' = A') := by
  refine Cm.of (by decide) (Nat.le_of_ble_eq_true rfl) rfl ?_
  show V G MX4_lineBehind (am_R 3 68 0 0) _ 0 0 0 [(0, .ref 41), (1, .ref 4), (2, .int (nI i))] [] (hp I A)
  refine V.aload_n (j := 1) rfl dX4_lineBehind_0 ?_
  refine V.getr (q := 6) dX4_lineBehind_1 fX4_44 rfl rfl ?_
  refine V.iload_n (j := 2) rfl dX4_lineBehind_4 ?_
  refine V.lda (v := nI x) dX4_lineBehind_5 rfl (by omega) (by decide) ex ?_
  refine V.istore_n (ls' := [(0, .ref 41), (1, .ref 4), (2, .int (nI i)), (3, .int (nI x))]) dX4_lineBehind_6 (by decide) rfl ?_
  refine V.aload_n (j := 1) rfl dX4_lineBehind_7 ?_
  refine V.getr (q := 5) dX4_lineBehind_8 fX4_47 rfl rfl ?_
  refine V.iload_n (j := 2) rfl dX4_lineBehind_11 ?_
  refine V.lda (v := nI 6) dX4_lineBehind_12 rfl (by omega) (by decide) ek ?_
  refine V.tableOut (tgt := 84) dX4_lineBehind_13 (by decide) (by decide) ?_
  refine V.aload_n (j := 0) rfl dX4_lineBehind_84 ?_
  refine V.aload_n (j := 1) rfl dX4_lineBehind_85 ?_
  refine V.getr (q := 5) dX4_lineBehind_86 fX4_47 rfl rfl ?_
  refine V.iload_n (j := 2) rfl dX4_lineBehind_89 ?_
  refine V.lda (v := nI 6) dX4_lineBehind_90 rfl (by omega) (by decide) ek ?_
  refine V.iload_n (j := 3) rfl dX4_lineBehind_91 ?_
  refine V.aload_n (j := 1) rfl dX4_lineBehind_92 ?_
  refine V.getr (q := 7) dX4_lineBehind_93 fX4_50 rfl rfl ?_
  refine V.iload_n (j := 2) rfl dX4_lineBehind_96 ?_
  refine V.lda (v := nI y) dX4_lineBehind_97 rfl (by omega) (by decide) ey ?_
  refine V.aload_n (j := 1) rfl dX4_lineBehind_98 ?_
  refine V.getr (q := 8) dX4_lineBehind_99 fX4_53 rfl rfl ?_
  refine V.iload_n (j := 2) rfl dX4_lineBehind_102 ?_
  refine V.lda (v := A 8 i) dX4_lineBehind_103 rfl (by omega) (by decide) rfl ?_
  refine V.cV (As := [.int (nI 6), .int (nI x), .int (nI y), .int (A 8 i)]) (st := []) dX4_lineBehind_104 sX4_56 iX4_act lX4_act rfl rfl (cd_act41_6 I A x hx y hy _) ⟨by decide, by decide⟩ (Nat.le_of_ble_eq_true rfl) rfl (fun r I' A' hq => ?_)
  obtain ⟨rfl, rfl, rfl⟩ := hq
  refine V.st (st' := []) rfl ?_
  refine V.iload_n (j := 2) rfl dX4_lineBehind_107 ?_
  refine V.iconst (v := nI 1) (by decide) dX4_lineBehind_108 ?_
  refine V.iaddN dX4_lineBehind_109 ?_
  refine V.ri dX4_lineBehind_110 rfl ?_
  have ed : (A 5 i).toNatClampNeg = 6 := by rw [ek, nI_clamp (by omega)]
  have eD : cz_d1 (A 5) (A 6) (A 7) (A 8) i (A 42) (A 44) (A 45) (cz_sl (A 43)) t = (A 42, upd (A 44) (mz_cl (A 42 y + A 8 i)) (A 42 x), A 45, cz_sl (A 43), t, i + 1) := by unfold cz_d1 mz_di1; rw [Nat.zero_add, cz_c_0, ed]; simp only [cz_c_1, cz_c_2, cz_c_3, ex, ey, nI_clamp (show x < 2 ^ 31 by omega), nI_clamp (show y < 2 ^ 31 by omega)]
  rw [eD]
  exact ⟨i + 1, A 43, by omega, rfl, Or.inl rfl, rfl, by rw [← ht, upI_i], cz_M41_44⟩
set_option maxRecDepth 100000 in
set_option maxHeartbeats 4000000 in
theorem cd_line41_4_7 {G : am_G} (I A : Nat → Nat → Int32) (n : Nat) (hn : I 4 4 = nI n) (hN : n ≤ 60) (i : Nat) (hi : i < n) (t : Nat) (ht : I 41 4 = nI t) (ht2 : t < 4000) (ek : A 5 i = nI 7) (x : Nat) (hx : x < 32) (ex : A 6 i = nI x) (y : Nat) (hy : y < 32) (ey : A 7 i = nI y) (z : Nat) (hz : z ≤ 400) (ez : A 8 i = nI z) : Cm G MX4_lineBehind 3 68 [.ref 41, .ref 4, .int (nI i)] I A (fun r I' A' => ∃ q s', q ≤ 401 ∧ r = some (.int (nI q)) ∧ (q = (cz_d1 (A 5) (A 6) (A 7) (A 8) i (A 42) (A 44) (A 45) (cz_sl (A 43)) t).2.2.2.2.2 ∨ (n ≤ q ∧ n ≤ (cz_d1 (A 5) (A 6) (A 7) (A 8) i (A 42) (A 44) (A 45) (cz_sl (A 43)) t).2.2.2.2.2)) ∧ cz_sl s' = (cz_d1 (A 5) (A 6) (A 7) (A 8) i (A 42) (A 44) (A 45) (cz_sl (A 43)) t).2.2.2.1 ∧ upI I 41 4 (nI (cz_d1 (A 5) (A 6) (A 7) (A 8) i (A 42) (A 44) (A 45) (cz_sl (A 43)) t).2.2.2.2.1) = I' ∧ upA (upA (upA (upA A 42 (cz_d1 (A 5) (A 6) (A 7) (A 8) i (A 42) (A 44) (A 45) (cz_sl (A 43)) t).1) 44 (cz_d1 (A 5) (A 6) (A 7) (A 8) i (A 42) (A 44) (A 45) (cz_sl (A 43)) t).2.1) 45 (cz_d1 (A 5) (A 6) (A 7) (A 8) i (A 42) (A 44) (A 45) (cz_sl (A 43)) t).2.2.1) 43 s' = A') := by
  refine Cm.of (by decide) (Nat.le_of_ble_eq_true rfl) rfl ?_
  show V G MX4_lineBehind (am_R 3 68 0 0) _ 0 0 0 [(0, .ref 41), (1, .ref 4), (2, .int (nI i))] [] (hp I A)
  refine V.aload_n (j := 1) rfl dX4_lineBehind_0 ?_
  refine V.getr (q := 6) dX4_lineBehind_1 fX4_44 rfl rfl ?_
  refine V.iload_n (j := 2) rfl dX4_lineBehind_4 ?_
  refine V.lda (v := nI x) dX4_lineBehind_5 rfl (by omega) (by decide) ex ?_
  refine V.istore_n (ls' := [(0, .ref 41), (1, .ref 4), (2, .int (nI i)), (3, .int (nI x))]) dX4_lineBehind_6 (by decide) rfl ?_
  refine V.aload_n (j := 1) rfl dX4_lineBehind_7 ?_
  refine V.getr (q := 5) dX4_lineBehind_8 fX4_47 rfl rfl ?_
  refine V.iload_n (j := 2) rfl dX4_lineBehind_11 ?_
  refine V.lda (v := nI 7) dX4_lineBehind_12 rfl (by omega) (by decide) ek ?_
  refine V.tableIn (tgt := 44) dX4_lineBehind_13 (by decide) (by decide) rfl (by decide) ?_
  refine V.aload_n (j := 0) rfl dX4_lineBehind_44 ?_
  refine V.getr (q := 42) dX4_lineBehind_45 fX4_9 rfl rfl ?_
  refine V.iload_n (j := 3) rfl dX4_lineBehind_48 ?_
  refine V.lda (v := A 42 x) dX4_lineBehind_49 rfl (by omega) (by decide) rfl ?_
  refine V.aload_n (j := 0) rfl dX4_lineBehind_50 ?_
  refine V.getr (q := 42) dX4_lineBehind_51 fX4_9 rfl rfl ?_
  refine V.aload_n (j := 1) rfl dX4_lineBehind_54 ?_
  refine V.getr (q := 7) dX4_lineBehind_55 fX4_50 rfl rfl ?_
  refine V.iload_n (j := 2) rfl dX4_lineBehind_58 ?_
  refine V.lda (v := nI y) dX4_lineBehind_59 rfl (by omega) (by decide) ey ?_
  refine V.lda (v := A 42 y) dX4_lineBehind_60 rfl (by omega) (by decide) rfl ?_
  refine V.icmp_ge (tgt := 73) dX4_lineBehind_61 (by decide) (fun c1 => ?_) (fun c1 => ?_)
  · refine V.iload_n (j := 2) rfl dX4_lineBehind_73 ?_
    refine V.iconst (v := nI 1) (by decide) dX4_lineBehind_74 ?_
    refine V.iaddN dX4_lineBehind_75 ?_
    refine V.ri dX4_lineBehind_76 rfl ?_
    have ed : (A 5 i).toNatClampNeg = 7 := by rw [ek, nI_clamp (by omega)]
    have eD : cz_d1 (A 5) (A 6) (A 7) (A 8) i (A 42) (A 44) (A 45) (cz_sl (A 43)) t = (A 42, A 44, A 45, cz_sl (A 43), t, if A 42 y ≤ A 42 x then i + 1 else z) := by unfold cz_d1 mz_di1; rw [Nat.zero_add, cz_c_0, ed]; simp only [cz_c_1, cz_c_2, cz_c_3, ex, ey, ez, nI_clamp (show x < 2 ^ 31 by omega), nI_clamp (show y < 2 ^ 31 by omega), nI_clamp (show z < 2 ^ 31 by omega)]
    rw [eD]
    exact ⟨i + 1, A 43, by omega, rfl, Or.inl (by show _ = (if A 42 y ≤ A 42 x then i + 1 else z); rw [if_pos c1]), rfl, by rw [← ht, upI_i], cz_M41_0⟩
  · refine V.aload_n (j := 1) rfl dX4_lineBehind_64 ?_
    refine V.getr (q := 8) dX4_lineBehind_65 fX4_53 rfl rfl ?_
    refine V.iload_n (j := 2) rfl dX4_lineBehind_68 ?_
    refine V.lda (v := nI z) dX4_lineBehind_69 rfl (by omega) (by decide) ez ?_
    refine V.goto (tgt := 76) dX4_lineBehind_70 (by decide) ?_
    refine V.ri dX4_lineBehind_76 rfl ?_
    have ed : (A 5 i).toNatClampNeg = 7 := by rw [ek, nI_clamp (by omega)]
    have eD : cz_d1 (A 5) (A 6) (A 7) (A 8) i (A 42) (A 44) (A 45) (cz_sl (A 43)) t = (A 42, A 44, A 45, cz_sl (A 43), t, if A 42 y ≤ A 42 x then i + 1 else z) := by unfold cz_d1 mz_di1; rw [Nat.zero_add, cz_c_0, ed]; simp only [cz_c_1, cz_c_2, cz_c_3, ex, ey, ez, nI_clamp (show x < 2 ^ 31 by omega), nI_clamp (show y < 2 ^ 31 by omega), nI_clamp (show z < 2 ^ 31 by omega)]
    rw [eD]
    exact ⟨z, A 43, by omega, rfl, Or.inl (by show _ = (if A 42 y ≤ A 42 x then i + 1 else z); rw [if_neg c1]), rfl, by rw [← ht, upI_i], cz_M41_0⟩
set_option maxRecDepth 100000 in
set_option maxHeartbeats 4000000 in
theorem cd_line41_4_8 {G : am_G} (I A : Nat → Nat → Int32) (n : Nat) (hn : I 4 4 = nI n) (hN : n ≤ 60) (i : Nat) (hi : i < n) (t : Nat) (ht : I 41 4 = nI t) (ht2 : t < 4000) (ek : A 5 i = nI 8) (x : Nat) (hx : x ≤ 400) (ex : A 6 i = nI x) : Cm G MX4_lineBehind 3 68 [.ref 41, .ref 4, .int (nI i)] I A (fun r I' A' => ∃ q s', q ≤ 401 ∧ r = some (.int (nI q)) ∧ (q = (cz_d1 (A 5) (A 6) (A 7) (A 8) i (A 42) (A 44) (A 45) (cz_sl (A 43)) t).2.2.2.2.2 ∨ (n ≤ q ∧ n ≤ (cz_d1 (A 5) (A 6) (A 7) (A 8) i (A 42) (A 44) (A 45) (cz_sl (A 43)) t).2.2.2.2.2)) ∧ cz_sl s' = (cz_d1 (A 5) (A 6) (A 7) (A 8) i (A 42) (A 44) (A 45) (cz_sl (A 43)) t).2.2.2.1 ∧ upI I 41 4 (nI (cz_d1 (A 5) (A 6) (A 7) (A 8) i (A 42) (A 44) (A 45) (cz_sl (A 43)) t).2.2.2.2.1) = I' ∧ upA (upA (upA (upA A 42 (cz_d1 (A 5) (A 6) (A 7) (A 8) i (A 42) (A 44) (A 45) (cz_sl (A 43)) t).1) 44 (cz_d1 (A 5) (A 6) (A 7) (A 8) i (A 42) (A 44) (A 45) (cz_sl (A 43)) t).2.1) 45 (cz_d1 (A 5) (A 6) (A 7) (A 8) i (A 42) (A 44) (A 45) (cz_sl (A 43)) t).2.2.1) 43 s' = A') := by
  refine Cm.of (by decide) (Nat.le_of_ble_eq_true rfl) rfl ?_
  show V G MX4_lineBehind (am_R 3 68 0 0) _ 0 0 0 [(0, .ref 41), (1, .ref 4), (2, .int (nI i))] [] (hp I A)
  refine V.aload_n (j := 1) rfl dX4_lineBehind_0 ?_
  refine V.getr (q := 6) dX4_lineBehind_1 fX4_44 rfl rfl ?_
  refine V.iload_n (j := 2) rfl dX4_lineBehind_4 ?_
  refine V.lda (v := nI x) dX4_lineBehind_5 rfl (by omega) (by decide) ex ?_
  refine V.istore_n (ls' := [(0, .ref 41), (1, .ref 4), (2, .int (nI i)), (3, .int (nI x))]) dX4_lineBehind_6 (by decide) rfl ?_
  refine V.aload_n (j := 1) rfl dX4_lineBehind_7 ?_
  refine V.getr (q := 5) dX4_lineBehind_8 fX4_47 rfl rfl ?_
  refine V.iload_n (j := 2) rfl dX4_lineBehind_11 ?_
  refine V.lda (v := nI 8) dX4_lineBehind_12 rfl (by omega) (by decide) ek ?_
  refine V.tableIn (tgt := 77) dX4_lineBehind_13 (by decide) (by decide) rfl (by decide) ?_
  refine V.iload_n (j := 3) rfl dX4_lineBehind_77 ?_
  refine V.ri dX4_lineBehind_78 rfl ?_
  have ed : (A 5 i).toNatClampNeg = 8 := by rw [ek, nI_clamp (by omega)]
  have eD : cz_d1 (A 5) (A 6) (A 7) (A 8) i (A 42) (A 44) (A 45) (cz_sl (A 43)) t = (A 42, A 44, A 45, cz_sl (A 43), t, x) := by unfold cz_d1 mz_di1; rw [Nat.zero_add, cz_c_0, ed]; simp only [cz_c_1, cz_c_2, cz_c_3, ex, nI_clamp (show x < 2 ^ 31 by omega)]
  rw [eD]
  exact ⟨x, A 43, by omega, rfl, Or.inl rfl, rfl, by rw [← ht, upI_i], cz_M41_0⟩
set_option maxRecDepth 100000 in
set_option maxHeartbeats 4000000 in
theorem cd_line41_4_9 {G : am_G} (I A : Nat → Nat → Int32) (n : Nat) (hn : I 4 4 = nI n) (hN : n ≤ 60) (i : Nat) (hi : i < n) (t : Nat) (ht : I 41 4 = nI t) (ht2 : t < 4000) (ek : A 5 i = nI 9) (x : Nat) (hx : x < 32) (ex : A 6 i = nI x) : Cm G MX4_lineBehind 3 68 [.ref 41, .ref 4, .int (nI i)] I A (fun r I' A' => ∃ q s', q ≤ 401 ∧ r = some (.int (nI q)) ∧ (q = (cz_d1 (A 5) (A 6) (A 7) (A 8) i (A 42) (A 44) (A 45) (cz_sl (A 43)) t).2.2.2.2.2 ∨ (n ≤ q ∧ n ≤ (cz_d1 (A 5) (A 6) (A 7) (A 8) i (A 42) (A 44) (A 45) (cz_sl (A 43)) t).2.2.2.2.2)) ∧ cz_sl s' = (cz_d1 (A 5) (A 6) (A 7) (A 8) i (A 42) (A 44) (A 45) (cz_sl (A 43)) t).2.2.2.1 ∧ upI I 41 4 (nI (cz_d1 (A 5) (A 6) (A 7) (A 8) i (A 42) (A 44) (A 45) (cz_sl (A 43)) t).2.2.2.2.1) = I' ∧ upA (upA (upA (upA A 42 (cz_d1 (A 5) (A 6) (A 7) (A 8) i (A 42) (A 44) (A 45) (cz_sl (A 43)) t).1) 44 (cz_d1 (A 5) (A 6) (A 7) (A 8) i (A 42) (A 44) (A 45) (cz_sl (A 43)) t).2.1) 45 (cz_d1 (A 5) (A 6) (A 7) (A 8) i (A 42) (A 44) (A 45) (cz_sl (A 43)) t).2.2.1) 43 s' = A') := by
  refine Cm.of (by decide) (Nat.le_of_ble_eq_true rfl) rfl ?_
  show V G MX4_lineBehind (am_R 3 68 0 0) _ 0 0 0 [(0, .ref 41), (1, .ref 4), (2, .int (nI i))] [] (hp I A)
  refine V.aload_n (j := 1) rfl dX4_lineBehind_0 ?_
  refine V.getr (q := 6) dX4_lineBehind_1 fX4_44 rfl rfl ?_
  refine V.iload_n (j := 2) rfl dX4_lineBehind_4 ?_
  refine V.lda (v := nI x) dX4_lineBehind_5 rfl (by omega) (by decide) ex ?_
  refine V.istore_n (ls' := [(0, .ref 41), (1, .ref 4), (2, .int (nI i)), (3, .int (nI x))]) dX4_lineBehind_6 (by decide) rfl ?_
  refine V.aload_n (j := 1) rfl dX4_lineBehind_7 ?_
  refine V.getr (q := 5) dX4_lineBehind_8 fX4_47 rfl rfl ?_
  refine V.iload_n (j := 2) rfl dX4_lineBehind_11 ?_
  refine V.lda (v := nI 9) dX4_lineBehind_12 rfl (by omega) (by decide) ek ?_
  refine V.tableIn (tgt := 84) dX4_lineBehind_13 (by decide) (by decide) rfl (by decide) ?_
  refine V.aload_n (j := 0) rfl dX4_lineBehind_84 ?_
  refine V.aload_n (j := 1) rfl dX4_lineBehind_85 ?_
  refine V.getr (q := 5) dX4_lineBehind_86 fX4_47 rfl rfl ?_
  refine V.iload_n (j := 2) rfl dX4_lineBehind_89 ?_
  refine V.lda (v := nI 9) dX4_lineBehind_90 rfl (by omega) (by decide) ek ?_
  refine V.iload_n (j := 3) rfl dX4_lineBehind_91 ?_
  refine V.aload_n (j := 1) rfl dX4_lineBehind_92 ?_
  refine V.getr (q := 7) dX4_lineBehind_93 fX4_50 rfl rfl ?_
  refine V.iload_n (j := 2) rfl dX4_lineBehind_96 ?_
  refine V.lda (v := A 7 i) dX4_lineBehind_97 rfl (by omega) (by decide) rfl ?_
  refine V.aload_n (j := 1) rfl dX4_lineBehind_98 ?_
  refine V.getr (q := 8) dX4_lineBehind_99 fX4_53 rfl rfl ?_
  refine V.iload_n (j := 2) rfl dX4_lineBehind_102 ?_
  refine V.lda (v := A 8 i) dX4_lineBehind_103 rfl (by omega) (by decide) rfl ?_
  refine V.cV (As := [.int (nI 9), .int (nI x), .int (A 7 i), .int (A 8 i)]) (st := []) dX4_lineBehind_104 sX4_56 iX4_act lX4_act rfl rfl (cd_act41_9 I A x hx _ _ t ht ht2) ⟨by decide, by decide⟩ (Nat.le_of_ble_eq_true rfl) rfl (fun r I' A' hq => ?_)
  obtain ⟨rfl, rfl, rfl⟩ := hq
  refine V.st (st' := []) rfl ?_
  refine V.iload_n (j := 2) rfl dX4_lineBehind_107 ?_
  refine V.iconst (v := nI 1) (by decide) dX4_lineBehind_108 ?_
  refine V.iaddN dX4_lineBehind_109 ?_
  refine V.ri dX4_lineBehind_110 rfl ?_
  have ed : (A 5 i).toNatClampNeg = 9 := by rw [ek, nI_clamp (by omega)]
  have eD : cz_d1 (A 5) (A 6) (A 7) (A 8) i (A 42) (A 44) (A 45) (cz_sl (A 43)) t = (A 42, A 44, mz_sy t (A 45) (A 42 x), cz_sl (A 43), t + 1, i + 1) := by unfold cz_d1 mz_di1; rw [Nat.zero_add, cz_c_0, ed]; simp only [cz_c_1, cz_c_2, cz_c_3, ex, nI_clamp (show x < 2 ^ 31 by omega)]
  rw [eD]
  exact ⟨i + 1, A 43, by omega, rfl, Or.inl rfl, rfl, rfl, cz_M41_45⟩
set_option maxRecDepth 100000 in
set_option maxHeartbeats 4000000 in
theorem cd_line41_4_10 {G : am_G} (I A : Nat → Nat → Int32) (n : Nat) (hn : I 4 4 = nI n) (hN : n ≤ 60) (i : Nat) (hi : i < n) (t : Nat) (ht : I 41 4 = nI t) (ht2 : t < 4000) (ek : A 5 i = nI 10) : Cm G MX4_lineBehind 3 68 [.ref 41, .ref 4, .int (nI i)] I A (fun r I' A' => ∃ q s', q ≤ 401 ∧ r = some (.int (nI q)) ∧ (q = (cz_d1 (A 5) (A 6) (A 7) (A 8) i (A 42) (A 44) (A 45) (cz_sl (A 43)) t).2.2.2.2.2 ∨ (n ≤ q ∧ n ≤ (cz_d1 (A 5) (A 6) (A 7) (A 8) i (A 42) (A 44) (A 45) (cz_sl (A 43)) t).2.2.2.2.2)) ∧ cz_sl s' = (cz_d1 (A 5) (A 6) (A 7) (A 8) i (A 42) (A 44) (A 45) (cz_sl (A 43)) t).2.2.2.1 ∧ upI I 41 4 (nI (cz_d1 (A 5) (A 6) (A 7) (A 8) i (A 42) (A 44) (A 45) (cz_sl (A 43)) t).2.2.2.2.1) = I' ∧ upA (upA (upA (upA A 42 (cz_d1 (A 5) (A 6) (A 7) (A 8) i (A 42) (A 44) (A 45) (cz_sl (A 43)) t).1) 44 (cz_d1 (A 5) (A 6) (A 7) (A 8) i (A 42) (A 44) (A 45) (cz_sl (A 43)) t).2.1) 45 (cz_d1 (A 5) (A 6) (A 7) (A 8) i (A 42) (A 44) (A 45) (cz_sl (A 43)) t).2.2.1) 43 s' = A') := by
  refine Cm.of (by decide) (Nat.le_of_ble_eq_true rfl) rfl ?_
  show V G MX4_lineBehind (am_R 3 68 0 0) _ 0 0 0 [(0, .ref 41), (1, .ref 4), (2, .int (nI i))] [] (hp I A)
  refine V.aload_n (j := 1) rfl dX4_lineBehind_0 ?_
  refine V.getr (q := 6) dX4_lineBehind_1 fX4_44 rfl rfl ?_
  refine V.iload_n (j := 2) rfl dX4_lineBehind_4 ?_
  refine V.lda (v := A 6 i) dX4_lineBehind_5 rfl (by omega) (by decide) rfl ?_
  refine V.istore_n (ls' := [(0, .ref 41), (1, .ref 4), (2, .int (nI i)), (3, .int (A 6 i))]) dX4_lineBehind_6 (by decide) rfl ?_
  refine V.aload_n (j := 1) rfl dX4_lineBehind_7 ?_
  refine V.getr (q := 5) dX4_lineBehind_8 fX4_47 rfl rfl ?_
  refine V.iload_n (j := 2) rfl dX4_lineBehind_11 ?_
  refine V.lda (v := nI 10) dX4_lineBehind_12 rfl (by omega) (by decide) ek ?_
  refine V.tableIn (tgt := 79) dX4_lineBehind_13 (by decide) (by decide) rfl (by decide) ?_
  refine V.aload_n (j := 1) rfl dX4_lineBehind_79 ?_
  refine V.geti (v := nI n) dX4_lineBehind_80 fX4_35 rfl rfl hn ?_
  refine V.ri dX4_lineBehind_83 rfl ?_
  have ed : (A 5 i).toNatClampNeg = 10 := by rw [ek, nI_clamp (by omega)]
  have eD : cz_d1 (A 5) (A 6) (A 7) (A 8) i (A 42) (A 44) (A 45) (cz_sl (A 43)) t = (A 42, A 44, A 45, cz_sl (A 43), t, 400) := by unfold cz_d1 mz_di1; rw [Nat.zero_add, cz_c_0, ed]; simp only [cz_c_1, cz_c_2, cz_c_3]
  rw [eD]
  exact ⟨n, A 43, by omega, rfl, Or.inr ⟨Nat.le_refl _, by show n ≤ 400; omega⟩, rfl, by rw [← ht, upI_i], cz_M41_0⟩
set_option maxHeartbeats 4000000 in
theorem cd_line41_4 {G : am_G} (I A : Nat → Nat → Int32) (n : Nat) (hn : I 4 4 = nI n) (hN : n ≤ 60) (i : Nat) (hi : i < n) (t : Nat) (ht : I 41 4 = nI t) (ht2 : t < 4000) (hiw : cz_iw (A 5) (A 6) (A 7) (A 8) i) (h10 : ∀ k, A 5 i = nI k → k ≤ 12 → k ≤ 10) : Cm G MX4_lineBehind 3 68 [.ref 41, .ref 4, .int (nI i)] I A (fun r I' A' => ∃ q s', q ≤ 401 ∧ r = some (.int (nI q)) ∧ (q = (cz_d1 (A 5) (A 6) (A 7) (A 8) i (A 42) (A 44) (A 45) (cz_sl (A 43)) t).2.2.2.2.2 ∨ (n ≤ q ∧ n ≤ (cz_d1 (A 5) (A 6) (A 7) (A 8) i (A 42) (A 44) (A 45) (cz_sl (A 43)) t).2.2.2.2.2)) ∧ cz_sl s' = (cz_d1 (A 5) (A 6) (A 7) (A 8) i (A 42) (A 44) (A 45) (cz_sl (A 43)) t).2.2.2.1 ∧ upI I 41 4 (nI (cz_d1 (A 5) (A 6) (A 7) (A 8) i (A 42) (A 44) (A 45) (cz_sl (A 43)) t).2.2.2.2.1) = I' ∧ upA (upA (upA (upA A 42 (cz_d1 (A 5) (A 6) (A 7) (A 8) i (A 42) (A 44) (A 45) (cz_sl (A 43)) t).1) 44 (cz_d1 (A 5) (A 6) (A 7) (A 8) i (A 42) (A 44) (A 45) (cz_sl (A 43)) t).2.1) 45 (cz_d1 (A 5) (A 6) (A 7) (A 8) i (A 42) (A 44) (A 45) (cz_sl (A 43)) t).2.2.1) 43 s' = A') := by
  obtain ⟨k, h1, ek, h3, h4, h5, h6, h7, h8⟩ := hiw
  have hk10 : k ≤ 10 := h10 k ek h1
  rcases (show k = 0 ∨ k = 1 ∨ k = 2 ∨ k = 3 ∨ k = 4 ∨ k = 5 ∨ k = 6 ∨ k = 7 ∨ k = 8 ∨ k = 9 ∨ k = 10 by omega) with rfl | rfl | rfl | rfl | rfl | rfl | rfl | rfl | rfl | rfl | rfl
  · obtain ⟨x, hx, ex⟩ := h3 (by omega)
    exact cd_line41_4_0 I A n hn hN i hi t ht ht2 ek x hx ex
  · obtain ⟨x, hx, ex⟩ := h3 (by omega)
    obtain ⟨y, hy, ey⟩ := h4 (by omega)
    exact cd_line41_4_1 I A n hn hN i hi t ht ht2 ek x hx ex y hy ey
  · obtain ⟨x, hx, ex⟩ := h3 (by omega)
    obtain ⟨y, hy, ey⟩ := h4 (by omega)
    obtain ⟨z, hz, ez⟩ := h6 (by omega)
    exact cd_line41_4_2 I A n hn hN i hi t ht ht2 ek x hx ex y hy ey z hz ez
  · obtain ⟨x, hx, ex⟩ := h3 (by omega)
    obtain ⟨y, hy, ey⟩ := h4 (by omega)
    obtain ⟨z, hz, ez⟩ := h6 (by omega)
    exact cd_line41_4_3 I A n hn hN i hi t ht ht2 ek x hx ex y hy ey z hz ez
  · obtain ⟨x, hx, ex⟩ := h3 (by omega)
    obtain ⟨y, hy, ey⟩ := h4 (by omega)
    obtain ⟨z, hz, ez⟩ := h6 (by omega)
    exact cd_line41_4_4 I A n hn hN i hi t ht ht2 ek x hx ex y hy ey z hz ez
  · obtain ⟨x, hx, ex⟩ := h3 (by omega)
    obtain ⟨y, hy, ey⟩ := h4 (by omega)
    exact cd_line41_4_5 I A n hn hN i hi t ht ht2 ek x hx ex y hy ey
  · obtain ⟨x, hx, ex⟩ := h3 (by omega)
    obtain ⟨y, hy, ey⟩ := h4 (by omega)
    exact cd_line41_4_6 I A n hn hN i hi t ht ht2 ek x hx ex y hy ey
  · obtain ⟨x, hx, ex⟩ := h3 (by omega)
    obtain ⟨y, hy, ey⟩ := h4 (by omega)
    obtain ⟨z, hz, ez⟩ := h7 rfl
    exact cd_line41_4_7 I A n hn hN i hi t ht ht2 ek x hx ex y hy ey z hz ez
  · obtain ⟨x, hx, ex⟩ := h8 rfl
    exact cd_line41_4_8 I A n hn hN i hi t ht ht2 ek x hx ex
  · obtain ⟨x, hx, ex⟩ := h3 (by omega)
    exact cd_line41_4_9 I A n hn hN i hi t ht ht2 ek x hx ex
  · exact cd_line41_4_10 I A n hn hN i hi t ht ht2 ek 
set_option maxRecDepth 100000 in
set_option maxHeartbeats 4000000 in
theorem cd_line46_25_0 {G : am_G} (I A : Nat → Nat → Int32) (n : Nat) (hn : I 25 4 = nI n) (hN : n ≤ 240) (i : Nat) (hi : i < n) (t : Nat) (ht : I 46 4 = nI t) (ht2 : t < 4000) (ek : A 26 i = nI 0) (x : Nat) (hx : x < 32) (ex : A 27 i = nI x) : Cm G MX4_lineBehind 3 68 [.ref 46, .ref 25, .int (nI i)] I A (fun r I' A' => ∃ q s', q ≤ 401 ∧ r = some (.int (nI q)) ∧ (q = (cz_d1 (A 26) (A 27) (A 28) (A 29) i (A 47) (A 49) (A 50) (cz_sl (A 48)) t).2.2.2.2.2 ∨ (n ≤ q ∧ n ≤ (cz_d1 (A 26) (A 27) (A 28) (A 29) i (A 47) (A 49) (A 50) (cz_sl (A 48)) t).2.2.2.2.2)) ∧ cz_sl s' = (cz_d1 (A 26) (A 27) (A 28) (A 29) i (A 47) (A 49) (A 50) (cz_sl (A 48)) t).2.2.2.1 ∧ upI I 46 4 (nI (cz_d1 (A 26) (A 27) (A 28) (A 29) i (A 47) (A 49) (A 50) (cz_sl (A 48)) t).2.2.2.2.1) = I' ∧ upA (upA (upA (upA A 47 (cz_d1 (A 26) (A 27) (A 28) (A 29) i (A 47) (A 49) (A 50) (cz_sl (A 48)) t).1) 49 (cz_d1 (A 26) (A 27) (A 28) (A 29) i (A 47) (A 49) (A 50) (cz_sl (A 48)) t).2.1) 50 (cz_d1 (A 26) (A 27) (A 28) (A 29) i (A 47) (A 49) (A 50) (cz_sl (A 48)) t).2.2.1) 48 s' = A') := by
  refine Cm.of (by decide) (Nat.le_of_ble_eq_true rfl) rfl ?_
  show V G MX4_lineBehind (am_R 3 68 0 0) _ 0 0 0 [(0, .ref 46), (1, .ref 25), (2, .int (nI i))] [] (hp I A)
  refine V.aload_n (j := 1) rfl dX4_lineBehind_0 ?_
  refine V.getr (q := 27) dX4_lineBehind_1 fX4_44 rfl rfl ?_
  refine V.iload_n (j := 2) rfl dX4_lineBehind_4 ?_
  refine V.lda (v := nI x) dX4_lineBehind_5 rfl (by omega) (by decide) ex ?_
  refine V.istore_n (ls' := [(0, .ref 46), (1, .ref 25), (2, .int (nI i)), (3, .int (nI x))]) dX4_lineBehind_6 (by decide) rfl ?_
  refine V.aload_n (j := 1) rfl dX4_lineBehind_7 ?_
  refine V.getr (q := 26) dX4_lineBehind_8 fX4_47 rfl rfl ?_
  refine V.iload_n (j := 2) rfl dX4_lineBehind_11 ?_
  refine V.lda (v := nI 0) dX4_lineBehind_12 rfl (by omega) (by decide) ek ?_
  refine V.tableOut (tgt := 84) dX4_lineBehind_13 (by decide) (by decide) ?_
  refine V.aload_n (j := 0) rfl dX4_lineBehind_84 ?_
  refine V.aload_n (j := 1) rfl dX4_lineBehind_85 ?_
  refine V.getr (q := 26) dX4_lineBehind_86 fX4_47 rfl rfl ?_
  refine V.iload_n (j := 2) rfl dX4_lineBehind_89 ?_
  refine V.lda (v := nI 0) dX4_lineBehind_90 rfl (by omega) (by decide) ek ?_
  refine V.iload_n (j := 3) rfl dX4_lineBehind_91 ?_
  refine V.aload_n (j := 1) rfl dX4_lineBehind_92 ?_
  refine V.getr (q := 28) dX4_lineBehind_93 fX4_50 rfl rfl ?_
  refine V.iload_n (j := 2) rfl dX4_lineBehind_96 ?_
  refine V.lda (v := A 28 i) dX4_lineBehind_97 rfl (by omega) (by decide) rfl ?_
  refine V.aload_n (j := 1) rfl dX4_lineBehind_98 ?_
  refine V.getr (q := 29) dX4_lineBehind_99 fX4_53 rfl rfl ?_
  refine V.iload_n (j := 2) rfl dX4_lineBehind_102 ?_
  refine V.lda (v := A 29 i) dX4_lineBehind_103 rfl (by omega) (by decide) rfl ?_
  refine V.cV (As := [.int (nI 0), .int (nI x), .int (A 28 i), .int (A 29 i)]) (st := []) dX4_lineBehind_104 sX4_56 iX4_act lX4_act rfl rfl (cd_act46_0 I A x hx _ _) ⟨by decide, by decide⟩ (Nat.le_of_ble_eq_true rfl) rfl (fun r I' A' hq => ?_)
  obtain ⟨rfl, rfl, rfl⟩ := hq
  refine V.st (st' := []) rfl ?_
  refine V.iload_n (j := 2) rfl dX4_lineBehind_107 ?_
  refine V.iconst (v := nI 1) (by decide) dX4_lineBehind_108 ?_
  refine V.iaddN dX4_lineBehind_109 ?_
  refine V.ri dX4_lineBehind_110 rfl ?_
  have ed : (A 26 i).toNatClampNeg = 0 := by rw [ek, nI_clamp (by omega)]
  have eD : cz_d1 (A 26) (A 27) (A 28) (A 29) i (A 47) (A 49) (A 50) (cz_sl (A 48)) t = (upd (A 47) x (A 28 i), A 49, A 50, cz_sl (A 48), t, i + 1) := by unfold cz_d1 mz_di1; rw [Nat.zero_add, cz_c_0, ed]; simp only [cz_c_1, cz_c_2, cz_c_3, ex, nI_clamp (show x < 2 ^ 31 by omega)]
  rw [eD]
  exact ⟨i + 1, A 48, by omega, rfl, Or.inl rfl, rfl, by rw [← ht, upI_i], cz_M46_47⟩
set_option maxRecDepth 100000 in
set_option maxHeartbeats 4000000 in
theorem cd_line46_25_1 {G : am_G} (I A : Nat → Nat → Int32) (n : Nat) (hn : I 25 4 = nI n) (hN : n ≤ 240) (i : Nat) (hi : i < n) (t : Nat) (ht : I 46 4 = nI t) (ht2 : t < 4000) (ek : A 26 i = nI 1) (x : Nat) (hx : x < 32) (ex : A 27 i = nI x) (y : Nat) (hy : y < 32) (ey : A 28 i = nI y) : Cm G MX4_lineBehind 3 68 [.ref 46, .ref 25, .int (nI i)] I A (fun r I' A' => ∃ q s', q ≤ 401 ∧ r = some (.int (nI q)) ∧ (q = (cz_d1 (A 26) (A 27) (A 28) (A 29) i (A 47) (A 49) (A 50) (cz_sl (A 48)) t).2.2.2.2.2 ∨ (n ≤ q ∧ n ≤ (cz_d1 (A 26) (A 27) (A 28) (A 29) i (A 47) (A 49) (A 50) (cz_sl (A 48)) t).2.2.2.2.2)) ∧ cz_sl s' = (cz_d1 (A 26) (A 27) (A 28) (A 29) i (A 47) (A 49) (A 50) (cz_sl (A 48)) t).2.2.2.1 ∧ upI I 46 4 (nI (cz_d1 (A 26) (A 27) (A 28) (A 29) i (A 47) (A 49) (A 50) (cz_sl (A 48)) t).2.2.2.2.1) = I' ∧ upA (upA (upA (upA A 47 (cz_d1 (A 26) (A 27) (A 28) (A 29) i (A 47) (A 49) (A 50) (cz_sl (A 48)) t).1) 49 (cz_d1 (A 26) (A 27) (A 28) (A 29) i (A 47) (A 49) (A 50) (cz_sl (A 48)) t).2.1) 50 (cz_d1 (A 26) (A 27) (A 28) (A 29) i (A 47) (A 49) (A 50) (cz_sl (A 48)) t).2.2.1) 48 s' = A') := by
  refine Cm.of (by decide) (Nat.le_of_ble_eq_true rfl) rfl ?_
  show V G MX4_lineBehind (am_R 3 68 0 0) _ 0 0 0 [(0, .ref 46), (1, .ref 25), (2, .int (nI i))] [] (hp I A)
  refine V.aload_n (j := 1) rfl dX4_lineBehind_0 ?_
  refine V.getr (q := 27) dX4_lineBehind_1 fX4_44 rfl rfl ?_
  refine V.iload_n (j := 2) rfl dX4_lineBehind_4 ?_
  refine V.lda (v := nI x) dX4_lineBehind_5 rfl (by omega) (by decide) ex ?_
  refine V.istore_n (ls' := [(0, .ref 46), (1, .ref 25), (2, .int (nI i)), (3, .int (nI x))]) dX4_lineBehind_6 (by decide) rfl ?_
  refine V.aload_n (j := 1) rfl dX4_lineBehind_7 ?_
  refine V.getr (q := 26) dX4_lineBehind_8 fX4_47 rfl rfl ?_
  refine V.iload_n (j := 2) rfl dX4_lineBehind_11 ?_
  refine V.lda (v := nI 1) dX4_lineBehind_12 rfl (by omega) (by decide) ek ?_
  refine V.tableOut (tgt := 84) dX4_lineBehind_13 (by decide) (by decide) ?_
  refine V.aload_n (j := 0) rfl dX4_lineBehind_84 ?_
  refine V.aload_n (j := 1) rfl dX4_lineBehind_85 ?_
  refine V.getr (q := 26) dX4_lineBehind_86 fX4_47 rfl rfl ?_
  refine V.iload_n (j := 2) rfl dX4_lineBehind_89 ?_
  refine V.lda (v := nI 1) dX4_lineBehind_90 rfl (by omega) (by decide) ek ?_
  refine V.iload_n (j := 3) rfl dX4_lineBehind_91 ?_
  refine V.aload_n (j := 1) rfl dX4_lineBehind_92 ?_
  refine V.getr (q := 28) dX4_lineBehind_93 fX4_50 rfl rfl ?_
  refine V.iload_n (j := 2) rfl dX4_lineBehind_96 ?_
  refine V.lda (v := nI y) dX4_lineBehind_97 rfl (by omega) (by decide) ey ?_
  refine V.aload_n (j := 1) rfl dX4_lineBehind_98 ?_
  refine V.getr (q := 29) dX4_lineBehind_99 fX4_53 rfl rfl ?_
  refine V.iload_n (j := 2) rfl dX4_lineBehind_102 ?_
  refine V.lda (v := A 29 i) dX4_lineBehind_103 rfl (by omega) (by decide) rfl ?_
  refine V.cV (As := [.int (nI 1), .int (nI x), .int (nI y), .int (A 29 i)]) (st := []) dX4_lineBehind_104 sX4_56 iX4_act lX4_act rfl rfl (cd_act46_1 I A x hx y hy _) ⟨by decide, by decide⟩ (Nat.le_of_ble_eq_true rfl) rfl (fun r I' A' hq => ?_)
  obtain ⟨rfl, rfl, rfl⟩ := hq
  refine V.st (st' := []) rfl ?_
  refine V.iload_n (j := 2) rfl dX4_lineBehind_107 ?_
  refine V.iconst (v := nI 1) (by decide) dX4_lineBehind_108 ?_
  refine V.iaddN dX4_lineBehind_109 ?_
  refine V.ri dX4_lineBehind_110 rfl ?_
  have ed : (A 26 i).toNatClampNeg = 1 := by rw [ek, nI_clamp (by omega)]
  have eD : cz_d1 (A 26) (A 27) (A 28) (A 29) i (A 47) (A 49) (A 50) (cz_sl (A 48)) t = (upd (A 47) x (A 47 y), A 49, A 50, cz_sl (A 48), t, i + 1) := by unfold cz_d1 mz_di1; rw [Nat.zero_add, cz_c_0, ed]; simp only [cz_c_1, cz_c_2, cz_c_3, ex, ey, nI_clamp (show x < 2 ^ 31 by omega), nI_clamp (show y < 2 ^ 31 by omega)]
  rw [eD]
  exact ⟨i + 1, A 48, by omega, rfl, Or.inl rfl, rfl, by rw [← ht, upI_i], cz_M46_47⟩
set_option maxRecDepth 100000 in
set_option maxHeartbeats 4000000 in
theorem cd_line46_25_2 {G : am_G} (I A : Nat → Nat → Int32) (n : Nat) (hn : I 25 4 = nI n) (hN : n ≤ 240) (i : Nat) (hi : i < n) (t : Nat) (ht : I 46 4 = nI t) (ht2 : t < 4000) (ek : A 26 i = nI 2) (x : Nat) (hx : x < 32) (ex : A 27 i = nI x) (y : Nat) (hy : y < 32) (ey : A 28 i = nI y) (z : Nat) (hz : z < 32) (ez : A 29 i = nI z) : Cm G MX4_lineBehind 3 68 [.ref 46, .ref 25, .int (nI i)] I A (fun r I' A' => ∃ q s', q ≤ 401 ∧ r = some (.int (nI q)) ∧ (q = (cz_d1 (A 26) (A 27) (A 28) (A 29) i (A 47) (A 49) (A 50) (cz_sl (A 48)) t).2.2.2.2.2 ∨ (n ≤ q ∧ n ≤ (cz_d1 (A 26) (A 27) (A 28) (A 29) i (A 47) (A 49) (A 50) (cz_sl (A 48)) t).2.2.2.2.2)) ∧ cz_sl s' = (cz_d1 (A 26) (A 27) (A 28) (A 29) i (A 47) (A 49) (A 50) (cz_sl (A 48)) t).2.2.2.1 ∧ upI I 46 4 (nI (cz_d1 (A 26) (A 27) (A 28) (A 29) i (A 47) (A 49) (A 50) (cz_sl (A 48)) t).2.2.2.2.1) = I' ∧ upA (upA (upA (upA A 47 (cz_d1 (A 26) (A 27) (A 28) (A 29) i (A 47) (A 49) (A 50) (cz_sl (A 48)) t).1) 49 (cz_d1 (A 26) (A 27) (A 28) (A 29) i (A 47) (A 49) (A 50) (cz_sl (A 48)) t).2.1) 50 (cz_d1 (A 26) (A 27) (A 28) (A 29) i (A 47) (A 49) (A 50) (cz_sl (A 48)) t).2.2.1) 48 s' = A') := by
  refine Cm.of (by decide) (Nat.le_of_ble_eq_true rfl) rfl ?_
  show V G MX4_lineBehind (am_R 3 68 0 0) _ 0 0 0 [(0, .ref 46), (1, .ref 25), (2, .int (nI i))] [] (hp I A)
  refine V.aload_n (j := 1) rfl dX4_lineBehind_0 ?_
  refine V.getr (q := 27) dX4_lineBehind_1 fX4_44 rfl rfl ?_
  refine V.iload_n (j := 2) rfl dX4_lineBehind_4 ?_
  refine V.lda (v := nI x) dX4_lineBehind_5 rfl (by omega) (by decide) ex ?_
  refine V.istore_n (ls' := [(0, .ref 46), (1, .ref 25), (2, .int (nI i)), (3, .int (nI x))]) dX4_lineBehind_6 (by decide) rfl ?_
  refine V.aload_n (j := 1) rfl dX4_lineBehind_7 ?_
  refine V.getr (q := 26) dX4_lineBehind_8 fX4_47 rfl rfl ?_
  refine V.iload_n (j := 2) rfl dX4_lineBehind_11 ?_
  refine V.lda (v := nI 2) dX4_lineBehind_12 rfl (by omega) (by decide) ek ?_
  refine V.tableOut (tgt := 84) dX4_lineBehind_13 (by decide) (by decide) ?_
  refine V.aload_n (j := 0) rfl dX4_lineBehind_84 ?_
  refine V.aload_n (j := 1) rfl dX4_lineBehind_85 ?_
  refine V.getr (q := 26) dX4_lineBehind_86 fX4_47 rfl rfl ?_
  refine V.iload_n (j := 2) rfl dX4_lineBehind_89 ?_
  refine V.lda (v := nI 2) dX4_lineBehind_90 rfl (by omega) (by decide) ek ?_
  refine V.iload_n (j := 3) rfl dX4_lineBehind_91 ?_
  refine V.aload_n (j := 1) rfl dX4_lineBehind_92 ?_
  refine V.getr (q := 28) dX4_lineBehind_93 fX4_50 rfl rfl ?_
  refine V.iload_n (j := 2) rfl dX4_lineBehind_96 ?_
  refine V.lda (v := nI y) dX4_lineBehind_97 rfl (by omega) (by decide) ey ?_
  refine V.aload_n (j := 1) rfl dX4_lineBehind_98 ?_
  refine V.getr (q := 29) dX4_lineBehind_99 fX4_53 rfl rfl ?_
  refine V.iload_n (j := 2) rfl dX4_lineBehind_102 ?_
  refine V.lda (v := nI z) dX4_lineBehind_103 rfl (by omega) (by decide) ez ?_
  refine V.cV (As := [.int (nI 2), .int (nI x), .int (nI y), .int (nI z)]) (st := []) dX4_lineBehind_104 sX4_56 iX4_act lX4_act rfl rfl (cd_act46_2 I A x hx y hy z hz) ⟨by decide, by decide⟩ (Nat.le_of_ble_eq_true rfl) rfl (fun r I' A' hq => ?_)
  obtain ⟨rfl, rfl, rfl⟩ := hq
  refine V.st (st' := []) rfl ?_
  refine V.iload_n (j := 2) rfl dX4_lineBehind_107 ?_
  refine V.iconst (v := nI 1) (by decide) dX4_lineBehind_108 ?_
  refine V.iaddN dX4_lineBehind_109 ?_
  refine V.ri dX4_lineBehind_110 rfl ?_
  have ed : (A 26 i).toNatClampNeg = 2 := by rw [ek, nI_clamp (by omega)]
  have eD : cz_d1 (A 26) (A 27) (A 28) (A 29) i (A 47) (A 49) (A 50) (cz_sl (A 48)) t = (upd (A 47) x (mz_rk (nI 2) (A 47 y) (A 47 z)), A 49, A 50, cz_sl (A 48), t, i + 1) := by unfold cz_d1 mz_di1; rw [Nat.zero_add, cz_c_0, ed]; simp only [cz_c_1, cz_c_2, cz_c_3, ex, ey, ez, nI_clamp (show x < 2 ^ 31 by omega), nI_clamp (show y < 2 ^ 31 by omega), nI_clamp (show z < 2 ^ 31 by omega)]
  rw [eD]
  exact ⟨i + 1, A 48, by omega, rfl, Or.inl rfl, rfl, by rw [← ht, upI_i], (by rw [mz_rk2]; exact cz_M46_47)⟩
set_option maxRecDepth 100000 in
set_option maxHeartbeats 4000000 in
theorem cd_line46_25_3 {G : am_G} (I A : Nat → Nat → Int32) (n : Nat) (hn : I 25 4 = nI n) (hN : n ≤ 240) (i : Nat) (hi : i < n) (t : Nat) (ht : I 46 4 = nI t) (ht2 : t < 4000) (ek : A 26 i = nI 3) (x : Nat) (hx : x < 32) (ex : A 27 i = nI x) (y : Nat) (hy : y < 32) (ey : A 28 i = nI y) (z : Nat) (hz : z < 32) (ez : A 29 i = nI z) : Cm G MX4_lineBehind 3 68 [.ref 46, .ref 25, .int (nI i)] I A (fun r I' A' => ∃ q s', q ≤ 401 ∧ r = some (.int (nI q)) ∧ (q = (cz_d1 (A 26) (A 27) (A 28) (A 29) i (A 47) (A 49) (A 50) (cz_sl (A 48)) t).2.2.2.2.2 ∨ (n ≤ q ∧ n ≤ (cz_d1 (A 26) (A 27) (A 28) (A 29) i (A 47) (A 49) (A 50) (cz_sl (A 48)) t).2.2.2.2.2)) ∧ cz_sl s' = (cz_d1 (A 26) (A 27) (A 28) (A 29) i (A 47) (A 49) (A 50) (cz_sl (A 48)) t).2.2.2.1 ∧ upI I 46 4 (nI (cz_d1 (A 26) (A 27) (A 28) (A 29) i (A 47) (A 49) (A 50) (cz_sl (A 48)) t).2.2.2.2.1) = I' ∧ upA (upA (upA (upA A 47 (cz_d1 (A 26) (A 27) (A 28) (A 29) i (A 47) (A 49) (A 50) (cz_sl (A 48)) t).1) 49 (cz_d1 (A 26) (A 27) (A 28) (A 29) i (A 47) (A 49) (A 50) (cz_sl (A 48)) t).2.1) 50 (cz_d1 (A 26) (A 27) (A 28) (A 29) i (A 47) (A 49) (A 50) (cz_sl (A 48)) t).2.2.1) 48 s' = A') := by
  refine Cm.of (by decide) (Nat.le_of_ble_eq_true rfl) rfl ?_
  show V G MX4_lineBehind (am_R 3 68 0 0) _ 0 0 0 [(0, .ref 46), (1, .ref 25), (2, .int (nI i))] [] (hp I A)
  refine V.aload_n (j := 1) rfl dX4_lineBehind_0 ?_
  refine V.getr (q := 27) dX4_lineBehind_1 fX4_44 rfl rfl ?_
  refine V.iload_n (j := 2) rfl dX4_lineBehind_4 ?_
  refine V.lda (v := nI x) dX4_lineBehind_5 rfl (by omega) (by decide) ex ?_
  refine V.istore_n (ls' := [(0, .ref 46), (1, .ref 25), (2, .int (nI i)), (3, .int (nI x))]) dX4_lineBehind_6 (by decide) rfl ?_
  refine V.aload_n (j := 1) rfl dX4_lineBehind_7 ?_
  refine V.getr (q := 26) dX4_lineBehind_8 fX4_47 rfl rfl ?_
  refine V.iload_n (j := 2) rfl dX4_lineBehind_11 ?_
  refine V.lda (v := nI 3) dX4_lineBehind_12 rfl (by omega) (by decide) ek ?_
  refine V.tableOut (tgt := 84) dX4_lineBehind_13 (by decide) (by decide) ?_
  refine V.aload_n (j := 0) rfl dX4_lineBehind_84 ?_
  refine V.aload_n (j := 1) rfl dX4_lineBehind_85 ?_
  refine V.getr (q := 26) dX4_lineBehind_86 fX4_47 rfl rfl ?_
  refine V.iload_n (j := 2) rfl dX4_lineBehind_89 ?_
  refine V.lda (v := nI 3) dX4_lineBehind_90 rfl (by omega) (by decide) ek ?_
  refine V.iload_n (j := 3) rfl dX4_lineBehind_91 ?_
  refine V.aload_n (j := 1) rfl dX4_lineBehind_92 ?_
  refine V.getr (q := 28) dX4_lineBehind_93 fX4_50 rfl rfl ?_
  refine V.iload_n (j := 2) rfl dX4_lineBehind_96 ?_
  refine V.lda (v := nI y) dX4_lineBehind_97 rfl (by omega) (by decide) ey ?_
  refine V.aload_n (j := 1) rfl dX4_lineBehind_98 ?_
  refine V.getr (q := 29) dX4_lineBehind_99 fX4_53 rfl rfl ?_
  refine V.iload_n (j := 2) rfl dX4_lineBehind_102 ?_
  refine V.lda (v := nI z) dX4_lineBehind_103 rfl (by omega) (by decide) ez ?_
  refine V.cV (As := [.int (nI 3), .int (nI x), .int (nI y), .int (nI z)]) (st := []) dX4_lineBehind_104 sX4_56 iX4_act lX4_act rfl rfl (cd_act46_3 I A x hx y hy z hz) ⟨by decide, by decide⟩ (Nat.le_of_ble_eq_true rfl) rfl (fun r I' A' hq => ?_)
  obtain ⟨rfl, rfl, rfl⟩ := hq
  refine V.st (st' := []) rfl ?_
  refine V.iload_n (j := 2) rfl dX4_lineBehind_107 ?_
  refine V.iconst (v := nI 1) (by decide) dX4_lineBehind_108 ?_
  refine V.iaddN dX4_lineBehind_109 ?_
  refine V.ri dX4_lineBehind_110 rfl ?_
  have ed : (A 26 i).toNatClampNeg = 3 := by rw [ek, nI_clamp (by omega)]
  have eD : cz_d1 (A 26) (A 27) (A 28) (A 29) i (A 47) (A 49) (A 50) (cz_sl (A 48)) t = (upd (A 47) x (mz_rk (nI 3) (A 47 y) (A 47 z)), A 49, A 50, cz_sl (A 48), t, i + 1) := by unfold cz_d1 mz_di1; rw [Nat.zero_add, cz_c_0, ed]; simp only [cz_c_1, cz_c_2, cz_c_3, ex, ey, ez, nI_clamp (show x < 2 ^ 31 by omega), nI_clamp (show y < 2 ^ 31 by omega), nI_clamp (show z < 2 ^ 31 by omega)]
  rw [eD]
  exact ⟨i + 1, A 48, by omega, rfl, Or.inl rfl, rfl, by rw [← ht, upI_i], (by rw [mz_rk3]; exact cz_M46_47)⟩
set_option maxRecDepth 100000 in
set_option maxHeartbeats 4000000 in
theorem cd_line46_25_4 {G : am_G} (I A : Nat → Nat → Int32) (n : Nat) (hn : I 25 4 = nI n) (hN : n ≤ 240) (i : Nat) (hi : i < n) (t : Nat) (ht : I 46 4 = nI t) (ht2 : t < 4000) (ek : A 26 i = nI 4) (x : Nat) (hx : x < 32) (ex : A 27 i = nI x) (y : Nat) (hy : y < 32) (ey : A 28 i = nI y) (z : Nat) (hz : z < 32) (ez : A 29 i = nI z) : Cm G MX4_lineBehind 3 68 [.ref 46, .ref 25, .int (nI i)] I A (fun r I' A' => ∃ q s', q ≤ 401 ∧ r = some (.int (nI q)) ∧ (q = (cz_d1 (A 26) (A 27) (A 28) (A 29) i (A 47) (A 49) (A 50) (cz_sl (A 48)) t).2.2.2.2.2 ∨ (n ≤ q ∧ n ≤ (cz_d1 (A 26) (A 27) (A 28) (A 29) i (A 47) (A 49) (A 50) (cz_sl (A 48)) t).2.2.2.2.2)) ∧ cz_sl s' = (cz_d1 (A 26) (A 27) (A 28) (A 29) i (A 47) (A 49) (A 50) (cz_sl (A 48)) t).2.2.2.1 ∧ upI I 46 4 (nI (cz_d1 (A 26) (A 27) (A 28) (A 29) i (A 47) (A 49) (A 50) (cz_sl (A 48)) t).2.2.2.2.1) = I' ∧ upA (upA (upA (upA A 47 (cz_d1 (A 26) (A 27) (A 28) (A 29) i (A 47) (A 49) (A 50) (cz_sl (A 48)) t).1) 49 (cz_d1 (A 26) (A 27) (A 28) (A 29) i (A 47) (A 49) (A 50) (cz_sl (A 48)) t).2.1) 50 (cz_d1 (A 26) (A 27) (A 28) (A 29) i (A 47) (A 49) (A 50) (cz_sl (A 48)) t).2.2.1) 48 s' = A') := by
  refine Cm.of (by decide) (Nat.le_of_ble_eq_true rfl) rfl ?_
  show V G MX4_lineBehind (am_R 3 68 0 0) _ 0 0 0 [(0, .ref 46), (1, .ref 25), (2, .int (nI i))] [] (hp I A)
  refine V.aload_n (j := 1) rfl dX4_lineBehind_0 ?_
  refine V.getr (q := 27) dX4_lineBehind_1 fX4_44 rfl rfl ?_
  refine V.iload_n (j := 2) rfl dX4_lineBehind_4 ?_
  refine V.lda (v := nI x) dX4_lineBehind_5 rfl (by omega) (by decide) ex ?_
  refine V.istore_n (ls' := [(0, .ref 46), (1, .ref 25), (2, .int (nI i)), (3, .int (nI x))]) dX4_lineBehind_6 (by decide) rfl ?_
  refine V.aload_n (j := 1) rfl dX4_lineBehind_7 ?_
  refine V.getr (q := 26) dX4_lineBehind_8 fX4_47 rfl rfl ?_
  refine V.iload_n (j := 2) rfl dX4_lineBehind_11 ?_
  refine V.lda (v := nI 4) dX4_lineBehind_12 rfl (by omega) (by decide) ek ?_
  refine V.tableOut (tgt := 84) dX4_lineBehind_13 (by decide) (by decide) ?_
  refine V.aload_n (j := 0) rfl dX4_lineBehind_84 ?_
  refine V.aload_n (j := 1) rfl dX4_lineBehind_85 ?_
  refine V.getr (q := 26) dX4_lineBehind_86 fX4_47 rfl rfl ?_
  refine V.iload_n (j := 2) rfl dX4_lineBehind_89 ?_
  refine V.lda (v := nI 4) dX4_lineBehind_90 rfl (by omega) (by decide) ek ?_
  refine V.iload_n (j := 3) rfl dX4_lineBehind_91 ?_
  refine V.aload_n (j := 1) rfl dX4_lineBehind_92 ?_
  refine V.getr (q := 28) dX4_lineBehind_93 fX4_50 rfl rfl ?_
  refine V.iload_n (j := 2) rfl dX4_lineBehind_96 ?_
  refine V.lda (v := nI y) dX4_lineBehind_97 rfl (by omega) (by decide) ey ?_
  refine V.aload_n (j := 1) rfl dX4_lineBehind_98 ?_
  refine V.getr (q := 29) dX4_lineBehind_99 fX4_53 rfl rfl ?_
  refine V.iload_n (j := 2) rfl dX4_lineBehind_102 ?_
  refine V.lda (v := nI z) dX4_lineBehind_103 rfl (by omega) (by decide) ez ?_
  refine V.cV (As := [.int (nI 4), .int (nI x), .int (nI y), .int (nI z)]) (st := []) dX4_lineBehind_104 sX4_56 iX4_act lX4_act rfl rfl (cd_act46_4 I A x hx y hy z hz) ⟨by decide, by decide⟩ (Nat.le_of_ble_eq_true rfl) rfl (fun r I' A' hq => ?_)
  obtain ⟨rfl, rfl, rfl⟩ := hq
  refine V.st (st' := []) rfl ?_
  refine V.iload_n (j := 2) rfl dX4_lineBehind_107 ?_
  refine V.iconst (v := nI 1) (by decide) dX4_lineBehind_108 ?_
  refine V.iaddN dX4_lineBehind_109 ?_
  refine V.ri dX4_lineBehind_110 rfl ?_
  have ed : (A 26 i).toNatClampNeg = 4 := by rw [ek, nI_clamp (by omega)]
  have eD : cz_d1 (A 26) (A 27) (A 28) (A 29) i (A 47) (A 49) (A 50) (cz_sl (A 48)) t = (upd (A 47) x (mz_rk (nI 4) (A 47 y) (A 47 z)), A 49, A 50, cz_sl (A 48), t, i + 1) := by unfold cz_d1 mz_di1; rw [Nat.zero_add, cz_c_0, ed]; simp only [cz_c_1, cz_c_2, cz_c_3, ex, ey, ez, nI_clamp (show x < 2 ^ 31 by omega), nI_clamp (show y < 2 ^ 31 by omega), nI_clamp (show z < 2 ^ 31 by omega)]
  rw [eD]
  exact ⟨i + 1, A 48, by omega, rfl, Or.inl rfl, rfl, by rw [← ht, upI_i], (by rw [mz_rk4]; exact cz_M46_47)⟩
set_option maxRecDepth 100000 in
set_option maxHeartbeats 4000000 in
theorem cd_line46_25_5 {G : am_G} (I A : Nat → Nat → Int32) (n : Nat) (hn : I 25 4 = nI n) (hN : n ≤ 240) (i : Nat) (hi : i < n) (t : Nat) (ht : I 46 4 = nI t) (ht2 : t < 4000) (ek : A 26 i = nI 5) (x : Nat) (hx : x < 32) (ex : A 27 i = nI x) (y : Nat) (hy : y < 32) (ey : A 28 i = nI y) : Cm G MX4_lineBehind 3 68 [.ref 46, .ref 25, .int (nI i)] I A (fun r I' A' => ∃ q s', q ≤ 401 ∧ r = some (.int (nI q)) ∧ (q = (cz_d1 (A 26) (A 27) (A 28) (A 29) i (A 47) (A 49) (A 50) (cz_sl (A 48)) t).2.2.2.2.2 ∨ (n ≤ q ∧ n ≤ (cz_d1 (A 26) (A 27) (A 28) (A 29) i (A 47) (A 49) (A 50) (cz_sl (A 48)) t).2.2.2.2.2)) ∧ cz_sl s' = (cz_d1 (A 26) (A 27) (A 28) (A 29) i (A 47) (A 49) (A 50) (cz_sl (A 48)) t).2.2.2.1 ∧ upI I 46 4 (nI (cz_d1 (A 26) (A 27) (A 28) (A 29) i (A 47) (A 49) (A 50) (cz_sl (A 48)) t).2.2.2.2.1) = I' ∧ upA (upA (upA (upA A 47 (cz_d1 (A 26) (A 27) (A 28) (A 29) i (A 47) (A 49) (A 50) (cz_sl (A 48)) t).1) 49 (cz_d1 (A 26) (A 27) (A 28) (A 29) i (A 47) (A 49) (A 50) (cz_sl (A 48)) t).2.1) 50 (cz_d1 (A 26) (A 27) (A 28) (A 29) i (A 47) (A 49) (A 50) (cz_sl (A 48)) t).2.2.1) 48 s' = A') := by
  refine Cm.of (by decide) (Nat.le_of_ble_eq_true rfl) rfl ?_
  show V G MX4_lineBehind (am_R 3 68 0 0) _ 0 0 0 [(0, .ref 46), (1, .ref 25), (2, .int (nI i))] [] (hp I A)
  refine V.aload_n (j := 1) rfl dX4_lineBehind_0 ?_
  refine V.getr (q := 27) dX4_lineBehind_1 fX4_44 rfl rfl ?_
  refine V.iload_n (j := 2) rfl dX4_lineBehind_4 ?_
  refine V.lda (v := nI x) dX4_lineBehind_5 rfl (by omega) (by decide) ex ?_
  refine V.istore_n (ls' := [(0, .ref 46), (1, .ref 25), (2, .int (nI i)), (3, .int (nI x))]) dX4_lineBehind_6 (by decide) rfl ?_
  refine V.aload_n (j := 1) rfl dX4_lineBehind_7 ?_
  refine V.getr (q := 26) dX4_lineBehind_8 fX4_47 rfl rfl ?_
  refine V.iload_n (j := 2) rfl dX4_lineBehind_11 ?_
  refine V.lda (v := nI 5) dX4_lineBehind_12 rfl (by omega) (by decide) ek ?_
  refine V.tableOut (tgt := 84) dX4_lineBehind_13 (by decide) (by decide) ?_
  refine V.aload_n (j := 0) rfl dX4_lineBehind_84 ?_
  refine V.aload_n (j := 1) rfl dX4_lineBehind_85 ?_
  refine V.getr (q := 26) dX4_lineBehind_86 fX4_47 rfl rfl ?_
  refine V.iload_n (j := 2) rfl dX4_lineBehind_89 ?_
  refine V.lda (v := nI 5) dX4_lineBehind_90 rfl (by omega) (by decide) ek ?_
  refine V.iload_n (j := 3) rfl dX4_lineBehind_91 ?_
  refine V.aload_n (j := 1) rfl dX4_lineBehind_92 ?_
  refine V.getr (q := 28) dX4_lineBehind_93 fX4_50 rfl rfl ?_
  refine V.iload_n (j := 2) rfl dX4_lineBehind_96 ?_
  refine V.lda (v := nI y) dX4_lineBehind_97 rfl (by omega) (by decide) ey ?_
  refine V.aload_n (j := 1) rfl dX4_lineBehind_98 ?_
  refine V.getr (q := 29) dX4_lineBehind_99 fX4_53 rfl rfl ?_
  refine V.iload_n (j := 2) rfl dX4_lineBehind_102 ?_
  refine V.lda (v := A 29 i) dX4_lineBehind_103 rfl (by omega) (by decide) rfl ?_
  refine V.cV (As := [.int (nI 5), .int (nI x), .int (nI y), .int (A 29 i)]) (st := []) dX4_lineBehind_104 sX4_56 iX4_act lX4_act rfl rfl (cd_act46_5 I A x hx y hy _) ⟨by decide, by decide⟩ (Nat.le_of_ble_eq_true rfl) rfl (fun r I' A' hq => ?_)
  obtain ⟨rfl, rfl, rfl⟩ := hq
  refine V.st (st' := []) rfl ?_
  refine V.iload_n (j := 2) rfl dX4_lineBehind_107 ?_
  refine V.iconst (v := nI 1) (by decide) dX4_lineBehind_108 ?_
  refine V.iaddN dX4_lineBehind_109 ?_
  refine V.ri dX4_lineBehind_110 rfl ?_
  have ed : (A 26 i).toNatClampNeg = 5 := by rw [ek, nI_clamp (by omega)]
  have eD : cz_d1 (A 26) (A 27) (A 28) (A 29) i (A 47) (A 49) (A 50) (cz_sl (A 48)) t = (upd (A 47) x (A 49 (mz_cl (A 47 y + A 29 i))), A 49, A 50, cz_sl (A 48), t, i + 1) := by unfold cz_d1 mz_di1; rw [Nat.zero_add, cz_c_0, ed]; simp only [cz_c_1, cz_c_2, cz_c_3, ex, ey, nI_clamp (show x < 2 ^ 31 by omega), nI_clamp (show y < 2 ^ 31 by omega)]
  rw [eD]
  exact ⟨i + 1, A 48, by omega, rfl, Or.inl rfl, rfl, by rw [← ht, upI_i], cz_M46_47⟩
set_option maxRecDepth 100000 in
set_option maxHeartbeats 4000000 in
theorem cd_line46_25_6 {G : am_G} (I A : Nat → Nat → Int32) (n : Nat) (hn : I 25 4 = nI n) (hN : n ≤ 240) (i : Nat) (hi : i < n) (t : Nat) (ht : I 46 4 = nI t) (ht2 : t < 4000) (ek : A 26 i = nI 6) (x : Nat) (hx : x < 32) (ex : A 27 i = nI x) (y : Nat) (hy : y < 32) (ey : A 28 i = nI y) : Cm G MX4_lineBehind 3 68 [.ref 46, .ref 25, .int (nI i)] I A (fun r I' A' => ∃ q s', q ≤ 401 ∧ r = some (.int (nI q)) ∧ (q = (cz_d1 (A 26) (A 27) (A 28) (A 29) i (A 47) (A 49) (A 50) (cz_sl (A 48)) t).2.2.2.2.2 ∨ (n ≤ q ∧ n ≤ (cz_d1 (A 26) (A 27) (A 28) (A 29) i (A 47) (A 49) (A 50) (cz_sl (A 48)) t).2.2.2.2.2)) ∧ cz_sl s' = (cz_d1 (A 26) (A 27) (A 28) (A 29) i (A 47) (A 49) (A 50) (cz_sl (A 48)) t).2.2.2.1 ∧ upI I 46 4 (nI (cz_d1 (A 26) (A 27) (A 28) (A 29) i (A 47) (A 49) (A 50) (cz_sl (A 48)) t).2.2.2.2.1) = I' ∧ upA (upA (upA (upA A 47 (cz_d1 (A 26) (A 27) (A 28) (A 29) i (A 47) (A 49) (A 50) (cz_sl (A 48)) t).1) 49 (cz_d1 (A 26) (A 27) (A 28) (A 29) i (A 47) (A 49) (A 50) (cz_sl (A 48)) t).2.1) 50 (cz_d1 (A 26) (A 27) (A 28) (A 29) i (A 47) (A 49) (A 50) (cz_sl (A 48)) t).2.2.1) 48 s' = A') := by
  refine Cm.of (by decide) (Nat.le_of_ble_eq_true rfl) rfl ?_
  show V G MX4_lineBehind (am_R 3 68 0 0) _ 0 0 0 [(0, .ref 46), (1, .ref 25), (2, .int (nI i))] [] (hp I A)
  refine V.aload_n (j := 1) rfl dX4_lineBehind_0 ?_
  refine V.getr (q := 27) dX4_lineBehind_1 fX4_44 rfl rfl ?_
  refine V.iload_n (j := 2) rfl dX4_lineBehind_4 ?_
  refine V.lda (v := nI x) dX4_lineBehind_5 rfl (by omega) (by decide) ex ?_
  refine V.istore_n (ls' := [(0, .ref 46), (1, .ref 25), (2, .int (nI i)), (3, .int (nI x))]) dX4_lineBehind_6 (by decide) rfl ?_
  refine V.aload_n (j := 1) rfl dX4_lineBehind_7 ?_
  refine V.getr (q := 26) dX4_lineBehind_8 fX4_47 rfl rfl ?_
  refine V.iload_n (j := 2) rfl dX4_lineBehind_11 ?_
  refine V.lda (v := nI 6) dX4_lineBehind_12 rfl (by omega) (by decide) ek ?_
  refine V.tableOut (tgt := 84) dX4_lineBehind_13 (by decide) (by decide) ?_
  refine V.aload_n (j := 0) rfl dX4_lineBehind_84 ?_
  refine V.aload_n (j := 1) rfl dX4_lineBehind_85 ?_
  refine V.getr (q := 26) dX4_lineBehind_86 fX4_47 rfl rfl ?_
  refine V.iload_n (j := 2) rfl dX4_lineBehind_89 ?_
  refine V.lda (v := nI 6) dX4_lineBehind_90 rfl (by omega) (by decide) ek ?_
  refine V.iload_n (j := 3) rfl dX4_lineBehind_91 ?_
  refine V.aload_n (j := 1) rfl dX4_lineBehind_92 ?_
  refine V.getr (q := 28) dX4_lineBehind_93 fX4_50 rfl rfl ?_
  refine V.iload_n (j := 2) rfl dX4_lineBehind_96 ?_
  refine V.lda (v := nI y) dX4_lineBehind_97 rfl (by omega) (by decide) ey ?_
  refine V.aload_n (j := 1) rfl dX4_lineBehind_98 ?_
  refine V.getr (q := 29) dX4_lineBehind_99 fX4_53 rfl rfl ?_
  refine V.iload_n (j := 2) rfl dX4_lineBehind_102 ?_
  refine V.lda (v := A 29 i) dX4_lineBehind_103 rfl (by omega) (by decide) rfl ?_
  refine V.cV (As := [.int (nI 6), .int (nI x), .int (nI y), .int (A 29 i)]) (st := []) dX4_lineBehind_104 sX4_56 iX4_act lX4_act rfl rfl (cd_act46_6 I A x hx y hy _) ⟨by decide, by decide⟩ (Nat.le_of_ble_eq_true rfl) rfl (fun r I' A' hq => ?_)
  obtain ⟨rfl, rfl, rfl⟩ := hq
  refine V.st (st' := []) rfl ?_
  refine V.iload_n (j := 2) rfl dX4_lineBehind_107 ?_
  refine V.iconst (v := nI 1) (by decide) dX4_lineBehind_108 ?_
  refine V.iaddN dX4_lineBehind_109 ?_
  refine V.ri dX4_lineBehind_110 rfl ?_
  have ed : (A 26 i).toNatClampNeg = 6 := by rw [ek, nI_clamp (by omega)]
  have eD : cz_d1 (A 26) (A 27) (A 28) (A 29) i (A 47) (A 49) (A 50) (cz_sl (A 48)) t = (A 47, upd (A 49) (mz_cl (A 47 y + A 29 i)) (A 47 x), A 50, cz_sl (A 48), t, i + 1) := by unfold cz_d1 mz_di1; rw [Nat.zero_add, cz_c_0, ed]; simp only [cz_c_1, cz_c_2, cz_c_3, ex, ey, nI_clamp (show x < 2 ^ 31 by omega), nI_clamp (show y < 2 ^ 31 by omega)]
  rw [eD]
  exact ⟨i + 1, A 48, by omega, rfl, Or.inl rfl, rfl, by rw [← ht, upI_i], cz_M46_49⟩
set_option maxRecDepth 100000 in
set_option maxHeartbeats 4000000 in
theorem cd_line46_25_7 {G : am_G} (I A : Nat → Nat → Int32) (n : Nat) (hn : I 25 4 = nI n) (hN : n ≤ 240) (i : Nat) (hi : i < n) (t : Nat) (ht : I 46 4 = nI t) (ht2 : t < 4000) (ek : A 26 i = nI 7) (x : Nat) (hx : x < 32) (ex : A 27 i = nI x) (y : Nat) (hy : y < 32) (ey : A 28 i = nI y) (z : Nat) (hz : z ≤ 400) (ez : A 29 i = nI z) : Cm G MX4_lineBehind 3 68 [.ref 46, .ref 25, .int (nI i)] I A (fun r I' A' => ∃ q s', q ≤ 401 ∧ r = some (.int (nI q)) ∧ (q = (cz_d1 (A 26) (A 27) (A 28) (A 29) i (A 47) (A 49) (A 50) (cz_sl (A 48)) t).2.2.2.2.2 ∨ (n ≤ q ∧ n ≤ (cz_d1 (A 26) (A 27) (A 28) (A 29) i (A 47) (A 49) (A 50) (cz_sl (A 48)) t).2.2.2.2.2)) ∧ cz_sl s' = (cz_d1 (A 26) (A 27) (A 28) (A 29) i (A 47) (A 49) (A 50) (cz_sl (A 48)) t).2.2.2.1 ∧ upI I 46 4 (nI (cz_d1 (A 26) (A 27) (A 28) (A 29) i (A 47) (A 49) (A 50) (cz_sl (A 48)) t).2.2.2.2.1) = I' ∧ upA (upA (upA (upA A 47 (cz_d1 (A 26) (A 27) (A 28) (A 29) i (A 47) (A 49) (A 50) (cz_sl (A 48)) t).1) 49 (cz_d1 (A 26) (A 27) (A 28) (A 29) i (A 47) (A 49) (A 50) (cz_sl (A 48)) t).2.1) 50 (cz_d1 (A 26) (A 27) (A 28) (A 29) i (A 47) (A 49) (A 50) (cz_sl (A 48)) t).2.2.1) 48 s' = A') := by
  refine Cm.of (by decide) (Nat.le_of_ble_eq_true rfl) rfl ?_
  show V G MX4_lineBehind (am_R 3 68 0 0) _ 0 0 0 [(0, .ref 46), (1, .ref 25), (2, .int (nI i))] [] (hp I A)
  refine V.aload_n (j := 1) rfl dX4_lineBehind_0 ?_
  refine V.getr (q := 27) dX4_lineBehind_1 fX4_44 rfl rfl ?_
  refine V.iload_n (j := 2) rfl dX4_lineBehind_4 ?_
  refine V.lda (v := nI x) dX4_lineBehind_5 rfl (by omega) (by decide) ex ?_
  refine V.istore_n (ls' := [(0, .ref 46), (1, .ref 25), (2, .int (nI i)), (3, .int (nI x))]) dX4_lineBehind_6 (by decide) rfl ?_
  refine V.aload_n (j := 1) rfl dX4_lineBehind_7 ?_
  refine V.getr (q := 26) dX4_lineBehind_8 fX4_47 rfl rfl ?_
  refine V.iload_n (j := 2) rfl dX4_lineBehind_11 ?_
  refine V.lda (v := nI 7) dX4_lineBehind_12 rfl (by omega) (by decide) ek ?_
  refine V.tableIn (tgt := 44) dX4_lineBehind_13 (by decide) (by decide) rfl (by decide) ?_
  refine V.aload_n (j := 0) rfl dX4_lineBehind_44 ?_
  refine V.getr (q := 47) dX4_lineBehind_45 fX4_9 rfl rfl ?_
  refine V.iload_n (j := 3) rfl dX4_lineBehind_48 ?_
  refine V.lda (v := A 47 x) dX4_lineBehind_49 rfl (by omega) (by decide) rfl ?_
  refine V.aload_n (j := 0) rfl dX4_lineBehind_50 ?_
  refine V.getr (q := 47) dX4_lineBehind_51 fX4_9 rfl rfl ?_
  refine V.aload_n (j := 1) rfl dX4_lineBehind_54 ?_
  refine V.getr (q := 28) dX4_lineBehind_55 fX4_50 rfl rfl ?_
  refine V.iload_n (j := 2) rfl dX4_lineBehind_58 ?_
  refine V.lda (v := nI y) dX4_lineBehind_59 rfl (by omega) (by decide) ey ?_
  refine V.lda (v := A 47 y) dX4_lineBehind_60 rfl (by omega) (by decide) rfl ?_
  refine V.icmp_ge (tgt := 73) dX4_lineBehind_61 (by decide) (fun c1 => ?_) (fun c1 => ?_)
  · refine V.iload_n (j := 2) rfl dX4_lineBehind_73 ?_
    refine V.iconst (v := nI 1) (by decide) dX4_lineBehind_74 ?_
    refine V.iaddN dX4_lineBehind_75 ?_
    refine V.ri dX4_lineBehind_76 rfl ?_
    have ed : (A 26 i).toNatClampNeg = 7 := by rw [ek, nI_clamp (by omega)]
    have eD : cz_d1 (A 26) (A 27) (A 28) (A 29) i (A 47) (A 49) (A 50) (cz_sl (A 48)) t = (A 47, A 49, A 50, cz_sl (A 48), t, if A 47 y ≤ A 47 x then i + 1 else z) := by unfold cz_d1 mz_di1; rw [Nat.zero_add, cz_c_0, ed]; simp only [cz_c_1, cz_c_2, cz_c_3, ex, ey, ez, nI_clamp (show x < 2 ^ 31 by omega), nI_clamp (show y < 2 ^ 31 by omega), nI_clamp (show z < 2 ^ 31 by omega)]
    rw [eD]
    exact ⟨i + 1, A 48, by omega, rfl, Or.inl (by show _ = (if A 47 y ≤ A 47 x then i + 1 else z); rw [if_pos c1]), rfl, by rw [← ht, upI_i], cz_M46_0⟩
  · refine V.aload_n (j := 1) rfl dX4_lineBehind_64 ?_
    refine V.getr (q := 29) dX4_lineBehind_65 fX4_53 rfl rfl ?_
    refine V.iload_n (j := 2) rfl dX4_lineBehind_68 ?_
    refine V.lda (v := nI z) dX4_lineBehind_69 rfl (by omega) (by decide) ez ?_
    refine V.goto (tgt := 76) dX4_lineBehind_70 (by decide) ?_
    refine V.ri dX4_lineBehind_76 rfl ?_
    have ed : (A 26 i).toNatClampNeg = 7 := by rw [ek, nI_clamp (by omega)]
    have eD : cz_d1 (A 26) (A 27) (A 28) (A 29) i (A 47) (A 49) (A 50) (cz_sl (A 48)) t = (A 47, A 49, A 50, cz_sl (A 48), t, if A 47 y ≤ A 47 x then i + 1 else z) := by unfold cz_d1 mz_di1; rw [Nat.zero_add, cz_c_0, ed]; simp only [cz_c_1, cz_c_2, cz_c_3, ex, ey, ez, nI_clamp (show x < 2 ^ 31 by omega), nI_clamp (show y < 2 ^ 31 by omega), nI_clamp (show z < 2 ^ 31 by omega)]
    rw [eD]
    exact ⟨z, A 48, by omega, rfl, Or.inl (by show _ = (if A 47 y ≤ A 47 x then i + 1 else z); rw [if_neg c1]), rfl, by rw [← ht, upI_i], cz_M46_0⟩
set_option maxRecDepth 100000 in
set_option maxHeartbeats 4000000 in
theorem cd_line46_25_8 {G : am_G} (I A : Nat → Nat → Int32) (n : Nat) (hn : I 25 4 = nI n) (hN : n ≤ 240) (i : Nat) (hi : i < n) (t : Nat) (ht : I 46 4 = nI t) (ht2 : t < 4000) (ek : A 26 i = nI 8) (x : Nat) (hx : x ≤ 400) (ex : A 27 i = nI x) : Cm G MX4_lineBehind 3 68 [.ref 46, .ref 25, .int (nI i)] I A (fun r I' A' => ∃ q s', q ≤ 401 ∧ r = some (.int (nI q)) ∧ (q = (cz_d1 (A 26) (A 27) (A 28) (A 29) i (A 47) (A 49) (A 50) (cz_sl (A 48)) t).2.2.2.2.2 ∨ (n ≤ q ∧ n ≤ (cz_d1 (A 26) (A 27) (A 28) (A 29) i (A 47) (A 49) (A 50) (cz_sl (A 48)) t).2.2.2.2.2)) ∧ cz_sl s' = (cz_d1 (A 26) (A 27) (A 28) (A 29) i (A 47) (A 49) (A 50) (cz_sl (A 48)) t).2.2.2.1 ∧ upI I 46 4 (nI (cz_d1 (A 26) (A 27) (A 28) (A 29) i (A 47) (A 49) (A 50) (cz_sl (A 48)) t).2.2.2.2.1) = I' ∧ upA (upA (upA (upA A 47 (cz_d1 (A 26) (A 27) (A 28) (A 29) i (A 47) (A 49) (A 50) (cz_sl (A 48)) t).1) 49 (cz_d1 (A 26) (A 27) (A 28) (A 29) i (A 47) (A 49) (A 50) (cz_sl (A 48)) t).2.1) 50 (cz_d1 (A 26) (A 27) (A 28) (A 29) i (A 47) (A 49) (A 50) (cz_sl (A 48)) t).2.2.1) 48 s' = A') := by
  refine Cm.of (by decide) (Nat.le_of_ble_eq_true rfl) rfl ?_
  show V G MX4_lineBehind (am_R 3 68 0 0) _ 0 0 0 [(0, .ref 46), (1, .ref 25), (2, .int (nI i))] [] (hp I A)
  refine V.aload_n (j := 1) rfl dX4_lineBehind_0 ?_
  refine V.getr (q := 27) dX4_lineBehind_1 fX4_44 rfl rfl ?_
  refine V.iload_n (j := 2) rfl dX4_lineBehind_4 ?_
  refine V.lda (v := nI x) dX4_lineBehind_5 rfl (by omega) (by decide) ex ?_
  refine V.istore_n (ls' := [(0, .ref 46), (1, .ref 25), (2, .int (nI i)), (3, .int (nI x))]) dX4_lineBehind_6 (by decide) rfl ?_
  refine V.aload_n (j := 1) rfl dX4_lineBehind_7 ?_
  refine V.getr (q := 26) dX4_lineBehind_8 fX4_47 rfl rfl ?_
  refine V.iload_n (j := 2) rfl dX4_lineBehind_11 ?_
  refine V.lda (v := nI 8) dX4_lineBehind_12 rfl (by omega) (by decide) ek ?_
  refine V.tableIn (tgt := 77) dX4_lineBehind_13 (by decide) (by decide) rfl (by decide) ?_
  refine V.iload_n (j := 3) rfl dX4_lineBehind_77 ?_
  refine V.ri dX4_lineBehind_78 rfl ?_
  have ed : (A 26 i).toNatClampNeg = 8 := by rw [ek, nI_clamp (by omega)]
  have eD : cz_d1 (A 26) (A 27) (A 28) (A 29) i (A 47) (A 49) (A 50) (cz_sl (A 48)) t = (A 47, A 49, A 50, cz_sl (A 48), t, x) := by unfold cz_d1 mz_di1; rw [Nat.zero_add, cz_c_0, ed]; simp only [cz_c_1, cz_c_2, cz_c_3, ex, nI_clamp (show x < 2 ^ 31 by omega)]
  rw [eD]
  exact ⟨x, A 48, by omega, rfl, Or.inl rfl, rfl, by rw [← ht, upI_i], cz_M46_0⟩
set_option maxRecDepth 100000 in
set_option maxHeartbeats 4000000 in
theorem cd_line46_25_9 {G : am_G} (I A : Nat → Nat → Int32) (n : Nat) (hn : I 25 4 = nI n) (hN : n ≤ 240) (i : Nat) (hi : i < n) (t : Nat) (ht : I 46 4 = nI t) (ht2 : t < 4000) (ek : A 26 i = nI 9) (x : Nat) (hx : x < 32) (ex : A 27 i = nI x) : Cm G MX4_lineBehind 3 68 [.ref 46, .ref 25, .int (nI i)] I A (fun r I' A' => ∃ q s', q ≤ 401 ∧ r = some (.int (nI q)) ∧ (q = (cz_d1 (A 26) (A 27) (A 28) (A 29) i (A 47) (A 49) (A 50) (cz_sl (A 48)) t).2.2.2.2.2 ∨ (n ≤ q ∧ n ≤ (cz_d1 (A 26) (A 27) (A 28) (A 29) i (A 47) (A 49) (A 50) (cz_sl (A 48)) t).2.2.2.2.2)) ∧ cz_sl s' = (cz_d1 (A 26) (A 27) (A 28) (A 29) i (A 47) (A 49) (A 50) (cz_sl (A 48)) t).2.2.2.1 ∧ upI I 46 4 (nI (cz_d1 (A 26) (A 27) (A 28) (A 29) i (A 47) (A 49) (A 50) (cz_sl (A 48)) t).2.2.2.2.1) = I' ∧ upA (upA (upA (upA A 47 (cz_d1 (A 26) (A 27) (A 28) (A 29) i (A 47) (A 49) (A 50) (cz_sl (A 48)) t).1) 49 (cz_d1 (A 26) (A 27) (A 28) (A 29) i (A 47) (A 49) (A 50) (cz_sl (A 48)) t).2.1) 50 (cz_d1 (A 26) (A 27) (A 28) (A 29) i (A 47) (A 49) (A 50) (cz_sl (A 48)) t).2.2.1) 48 s' = A') := by
  refine Cm.of (by decide) (Nat.le_of_ble_eq_true rfl) rfl ?_
  show V G MX4_lineBehind (am_R 3 68 0 0) _ 0 0 0 [(0, .ref 46), (1, .ref 25), (2, .int (nI i))] [] (hp I A)
  refine V.aload_n (j := 1) rfl dX4_lineBehind_0 ?_
  refine V.getr (q := 27) dX4_lineBehind_1 fX4_44 rfl rfl ?_
  refine V.iload_n (j := 2) rfl dX4_lineBehind_4 ?_
  refine V.lda (v := nI x) dX4_lineBehind_5 rfl (by omega) (by decide) ex ?_
  refine V.istore_n (ls' := [(0, .ref 46), (1, .ref 25), (2, .int (nI i)), (3, .int (nI x))]) dX4_lineBehind_6 (by decide) rfl ?_
  refine V.aload_n (j := 1) rfl dX4_lineBehind_7 ?_
  refine V.getr (q := 26) dX4_lineBehind_8 fX4_47 rfl rfl ?_
  refine V.iload_n (j := 2) rfl dX4_lineBehind_11 ?_
  refine V.lda (v := nI 9) dX4_lineBehind_12 rfl (by omega) (by decide) ek ?_
  refine V.tableIn (tgt := 84) dX4_lineBehind_13 (by decide) (by decide) rfl (by decide) ?_
  refine V.aload_n (j := 0) rfl dX4_lineBehind_84 ?_
  refine V.aload_n (j := 1) rfl dX4_lineBehind_85 ?_
  refine V.getr (q := 26) dX4_lineBehind_86 fX4_47 rfl rfl ?_
  refine V.iload_n (j := 2) rfl dX4_lineBehind_89 ?_
  refine V.lda (v := nI 9) dX4_lineBehind_90 rfl (by omega) (by decide) ek ?_
  refine V.iload_n (j := 3) rfl dX4_lineBehind_91 ?_
  refine V.aload_n (j := 1) rfl dX4_lineBehind_92 ?_
  refine V.getr (q := 28) dX4_lineBehind_93 fX4_50 rfl rfl ?_
  refine V.iload_n (j := 2) rfl dX4_lineBehind_96 ?_
  refine V.lda (v := A 28 i) dX4_lineBehind_97 rfl (by omega) (by decide) rfl ?_
  refine V.aload_n (j := 1) rfl dX4_lineBehind_98 ?_
  refine V.getr (q := 29) dX4_lineBehind_99 fX4_53 rfl rfl ?_
  refine V.iload_n (j := 2) rfl dX4_lineBehind_102 ?_
  refine V.lda (v := A 29 i) dX4_lineBehind_103 rfl (by omega) (by decide) rfl ?_
  refine V.cV (As := [.int (nI 9), .int (nI x), .int (A 28 i), .int (A 29 i)]) (st := []) dX4_lineBehind_104 sX4_56 iX4_act lX4_act rfl rfl (cd_act46_9 I A x hx _ _ t ht ht2) ⟨by decide, by decide⟩ (Nat.le_of_ble_eq_true rfl) rfl (fun r I' A' hq => ?_)
  obtain ⟨rfl, rfl, rfl⟩ := hq
  refine V.st (st' := []) rfl ?_
  refine V.iload_n (j := 2) rfl dX4_lineBehind_107 ?_
  refine V.iconst (v := nI 1) (by decide) dX4_lineBehind_108 ?_
  refine V.iaddN dX4_lineBehind_109 ?_
  refine V.ri dX4_lineBehind_110 rfl ?_
  have ed : (A 26 i).toNatClampNeg = 9 := by rw [ek, nI_clamp (by omega)]
  have eD : cz_d1 (A 26) (A 27) (A 28) (A 29) i (A 47) (A 49) (A 50) (cz_sl (A 48)) t = (A 47, A 49, mz_sy t (A 50) (A 47 x), cz_sl (A 48), t + 1, i + 1) := by unfold cz_d1 mz_di1; rw [Nat.zero_add, cz_c_0, ed]; simp only [cz_c_1, cz_c_2, cz_c_3, ex, nI_clamp (show x < 2 ^ 31 by omega)]
  rw [eD]
  exact ⟨i + 1, A 48, by omega, rfl, Or.inl rfl, rfl, rfl, cz_M46_50⟩
set_option maxRecDepth 100000 in
set_option maxHeartbeats 4000000 in
theorem cd_line46_25_10 {G : am_G} (I A : Nat → Nat → Int32) (n : Nat) (hn : I 25 4 = nI n) (hN : n ≤ 240) (i : Nat) (hi : i < n) (t : Nat) (ht : I 46 4 = nI t) (ht2 : t < 4000) (ek : A 26 i = nI 10) : Cm G MX4_lineBehind 3 68 [.ref 46, .ref 25, .int (nI i)] I A (fun r I' A' => ∃ q s', q ≤ 401 ∧ r = some (.int (nI q)) ∧ (q = (cz_d1 (A 26) (A 27) (A 28) (A 29) i (A 47) (A 49) (A 50) (cz_sl (A 48)) t).2.2.2.2.2 ∨ (n ≤ q ∧ n ≤ (cz_d1 (A 26) (A 27) (A 28) (A 29) i (A 47) (A 49) (A 50) (cz_sl (A 48)) t).2.2.2.2.2)) ∧ cz_sl s' = (cz_d1 (A 26) (A 27) (A 28) (A 29) i (A 47) (A 49) (A 50) (cz_sl (A 48)) t).2.2.2.1 ∧ upI I 46 4 (nI (cz_d1 (A 26) (A 27) (A 28) (A 29) i (A 47) (A 49) (A 50) (cz_sl (A 48)) t).2.2.2.2.1) = I' ∧ upA (upA (upA (upA A 47 (cz_d1 (A 26) (A 27) (A 28) (A 29) i (A 47) (A 49) (A 50) (cz_sl (A 48)) t).1) 49 (cz_d1 (A 26) (A 27) (A 28) (A 29) i (A 47) (A 49) (A 50) (cz_sl (A 48)) t).2.1) 50 (cz_d1 (A 26) (A 27) (A 28) (A 29) i (A 47) (A 49) (A 50) (cz_sl (A 48)) t).2.2.1) 48 s' = A') := by
  refine Cm.of (by decide) (Nat.le_of_ble_eq_true rfl) rfl ?_
  show V G MX4_lineBehind (am_R 3 68 0 0) _ 0 0 0 [(0, .ref 46), (1, .ref 25), (2, .int (nI i))] [] (hp I A)
  refine V.aload_n (j := 1) rfl dX4_lineBehind_0 ?_
  refine V.getr (q := 27) dX4_lineBehind_1 fX4_44 rfl rfl ?_
  refine V.iload_n (j := 2) rfl dX4_lineBehind_4 ?_
  refine V.lda (v := A 27 i) dX4_lineBehind_5 rfl (by omega) (by decide) rfl ?_
  refine V.istore_n (ls' := [(0, .ref 46), (1, .ref 25), (2, .int (nI i)), (3, .int (A 27 i))]) dX4_lineBehind_6 (by decide) rfl ?_
  refine V.aload_n (j := 1) rfl dX4_lineBehind_7 ?_
  refine V.getr (q := 26) dX4_lineBehind_8 fX4_47 rfl rfl ?_
  refine V.iload_n (j := 2) rfl dX4_lineBehind_11 ?_
  refine V.lda (v := nI 10) dX4_lineBehind_12 rfl (by omega) (by decide) ek ?_
  refine V.tableIn (tgt := 79) dX4_lineBehind_13 (by decide) (by decide) rfl (by decide) ?_
  refine V.aload_n (j := 1) rfl dX4_lineBehind_79 ?_
  refine V.geti (v := nI n) dX4_lineBehind_80 fX4_35 rfl rfl hn ?_
  refine V.ri dX4_lineBehind_83 rfl ?_
  have ed : (A 26 i).toNatClampNeg = 10 := by rw [ek, nI_clamp (by omega)]
  have eD : cz_d1 (A 26) (A 27) (A 28) (A 29) i (A 47) (A 49) (A 50) (cz_sl (A 48)) t = (A 47, A 49, A 50, cz_sl (A 48), t, 400) := by unfold cz_d1 mz_di1; rw [Nat.zero_add, cz_c_0, ed]; simp only [cz_c_1, cz_c_2, cz_c_3]
  rw [eD]
  exact ⟨n, A 48, by omega, rfl, Or.inr ⟨Nat.le_refl _, by show n ≤ 400; omega⟩, rfl, by rw [← ht, upI_i], cz_M46_0⟩
set_option maxRecDepth 100000 in
set_option maxHeartbeats 4000000 in
theorem cd_line46_25_11 {G : am_G} (I A : Nat → Nat → Int32) (n : Nat) (hn : I 25 4 = nI n) (hN : n ≤ 240) (i : Nat) (hi : i < n) (t : Nat) (ht : I 46 4 = nI t) (ht2 : t < 4000) (ek : A 26 i = nI 11) (x : Nat) (hx : x < 32) (ex : A 27 i = nI x) (y : Nat) (hy : y < 24) (ey : A 28 i = nI y) : Cm G MX4_lineBehind 3 68 [.ref 46, .ref 25, .int (nI i)] I A (fun r I' A' => ∃ q s', q ≤ 401 ∧ r = some (.int (nI q)) ∧ (q = (cz_d1 (A 26) (A 27) (A 28) (A 29) i (A 47) (A 49) (A 50) (cz_sl (A 48)) t).2.2.2.2.2 ∨ (n ≤ q ∧ n ≤ (cz_d1 (A 26) (A 27) (A 28) (A 29) i (A 47) (A 49) (A 50) (cz_sl (A 48)) t).2.2.2.2.2)) ∧ cz_sl s' = (cz_d1 (A 26) (A 27) (A 28) (A 29) i (A 47) (A 49) (A 50) (cz_sl (A 48)) t).2.2.2.1 ∧ upI I 46 4 (nI (cz_d1 (A 26) (A 27) (A 28) (A 29) i (A 47) (A 49) (A 50) (cz_sl (A 48)) t).2.2.2.2.1) = I' ∧ upA (upA (upA (upA A 47 (cz_d1 (A 26) (A 27) (A 28) (A 29) i (A 47) (A 49) (A 50) (cz_sl (A 48)) t).1) 49 (cz_d1 (A 26) (A 27) (A 28) (A 29) i (A 47) (A 49) (A 50) (cz_sl (A 48)) t).2.1) 50 (cz_d1 (A 26) (A 27) (A 28) (A 29) i (A 47) (A 49) (A 50) (cz_sl (A 48)) t).2.2.1) 48 s' = A') := by
  refine Cm.of (by decide) (Nat.le_of_ble_eq_true rfl) rfl ?_
  show V G MX4_lineBehind (am_R 3 68 0 0) _ 0 0 0 [(0, .ref 46), (1, .ref 25), (2, .int (nI i))] [] (hp I A)
  refine V.aload_n (j := 1) rfl dX4_lineBehind_0 ?_
  refine V.getr (q := 27) dX4_lineBehind_1 fX4_44 rfl rfl ?_
  refine V.iload_n (j := 2) rfl dX4_lineBehind_4 ?_
  refine V.lda (v := nI x) dX4_lineBehind_5 rfl (by omega) (by decide) ex ?_
  refine V.istore_n (ls' := [(0, .ref 46), (1, .ref 25), (2, .int (nI i)), (3, .int (nI x))]) dX4_lineBehind_6 (by decide) rfl ?_
  refine V.aload_n (j := 1) rfl dX4_lineBehind_7 ?_
  refine V.getr (q := 26) dX4_lineBehind_8 fX4_47 rfl rfl ?_
  refine V.iload_n (j := 2) rfl dX4_lineBehind_11 ?_
  refine V.lda (v := nI 11) dX4_lineBehind_12 rfl (by omega) (by decide) ek ?_
  refine V.tableOut (tgt := 84) dX4_lineBehind_13 (by decide) (by decide) ?_
  refine V.aload_n (j := 0) rfl dX4_lineBehind_84 ?_
  refine V.aload_n (j := 1) rfl dX4_lineBehind_85 ?_
  refine V.getr (q := 26) dX4_lineBehind_86 fX4_47 rfl rfl ?_
  refine V.iload_n (j := 2) rfl dX4_lineBehind_89 ?_
  refine V.lda (v := nI 11) dX4_lineBehind_90 rfl (by omega) (by decide) ek ?_
  refine V.iload_n (j := 3) rfl dX4_lineBehind_91 ?_
  refine V.aload_n (j := 1) rfl dX4_lineBehind_92 ?_
  refine V.getr (q := 28) dX4_lineBehind_93 fX4_50 rfl rfl ?_
  refine V.iload_n (j := 2) rfl dX4_lineBehind_96 ?_
  refine V.lda (v := nI y) dX4_lineBehind_97 rfl (by omega) (by decide) ey ?_
  refine V.aload_n (j := 1) rfl dX4_lineBehind_98 ?_
  refine V.getr (q := 29) dX4_lineBehind_99 fX4_53 rfl rfl ?_
  refine V.iload_n (j := 2) rfl dX4_lineBehind_102 ?_
  refine V.lda (v := A 29 i) dX4_lineBehind_103 rfl (by omega) (by decide) rfl ?_
  refine V.cV (As := [.int (nI 11), .int (nI x), .int (nI y), .int (A 29 i)]) (st := []) dX4_lineBehind_104 sX4_56 iX4_act lX4_act rfl rfl (cd_act46_11 I A x hx y hy _) ⟨by decide, by decide⟩ (Nat.le_of_ble_eq_true rfl) rfl (fun r I' A' hq => ?_)
  obtain ⟨rfl, rfl, rfl⟩ := hq
  refine V.st (st' := []) rfl ?_
  refine V.iload_n (j := 2) rfl dX4_lineBehind_107 ?_
  refine V.iconst (v := nI 1) (by decide) dX4_lineBehind_108 ?_
  refine V.iaddN dX4_lineBehind_109 ?_
  refine V.ri dX4_lineBehind_110 rfl ?_
  have ed : (A 26 i).toNatClampNeg = 11 := by rw [ek, nI_clamp (by omega)]
  have eD : cz_d1 (A 26) (A 27) (A 28) (A 29) i (A 47) (A 49) (A 50) (cz_sl (A 48)) t = (upd (A 47) x (cz_sl (A 48) (32 * (x / 16) + y)), A 49, A 50, cz_sl (A 48), t, i + 1) := by unfold cz_d1 mz_di1; rw [Nat.zero_add, cz_c_0, ed]; simp only [cz_c_1, cz_c_2, cz_c_3, ex, ey, nI_clamp (show x < 2 ^ 31 by omega), nI_clamp (show y < 2 ^ 31 by omega)]
  rw [eD]
  exact ⟨i + 1, A 48, by omega, rfl, Or.inl rfl, rfl, by rw [← ht, upI_i], (by rw [cz_sl_at hy]; exact cz_M46_47)⟩
set_option maxRecDepth 100000 in
set_option maxHeartbeats 4000000 in
theorem cd_line46_25_12 {G : am_G} (I A : Nat → Nat → Int32) (n : Nat) (hn : I 25 4 = nI n) (hN : n ≤ 240) (i : Nat) (hi : i < n) (t : Nat) (ht : I 46 4 = nI t) (ht2 : t < 4000) (ek : A 26 i = nI 12) (x : Nat) (hx : x < 32) (ex : A 27 i = nI x) (y : Nat) (hy : y < 24) (ey : A 28 i = nI y) : Cm G MX4_lineBehind 3 68 [.ref 46, .ref 25, .int (nI i)] I A (fun r I' A' => ∃ q s', q ≤ 401 ∧ r = some (.int (nI q)) ∧ (q = (cz_d1 (A 26) (A 27) (A 28) (A 29) i (A 47) (A 49) (A 50) (cz_sl (A 48)) t).2.2.2.2.2 ∨ (n ≤ q ∧ n ≤ (cz_d1 (A 26) (A 27) (A 28) (A 29) i (A 47) (A 49) (A 50) (cz_sl (A 48)) t).2.2.2.2.2)) ∧ cz_sl s' = (cz_d1 (A 26) (A 27) (A 28) (A 29) i (A 47) (A 49) (A 50) (cz_sl (A 48)) t).2.2.2.1 ∧ upI I 46 4 (nI (cz_d1 (A 26) (A 27) (A 28) (A 29) i (A 47) (A 49) (A 50) (cz_sl (A 48)) t).2.2.2.2.1) = I' ∧ upA (upA (upA (upA A 47 (cz_d1 (A 26) (A 27) (A 28) (A 29) i (A 47) (A 49) (A 50) (cz_sl (A 48)) t).1) 49 (cz_d1 (A 26) (A 27) (A 28) (A 29) i (A 47) (A 49) (A 50) (cz_sl (A 48)) t).2.1) 50 (cz_d1 (A 26) (A 27) (A 28) (A 29) i (A 47) (A 49) (A 50) (cz_sl (A 48)) t).2.2.1) 48 s' = A') := by
  refine Cm.of (by decide) (Nat.le_of_ble_eq_true rfl) rfl ?_
  show V G MX4_lineBehind (am_R 3 68 0 0) _ 0 0 0 [(0, .ref 46), (1, .ref 25), (2, .int (nI i))] [] (hp I A)
  refine V.aload_n (j := 1) rfl dX4_lineBehind_0 ?_
  refine V.getr (q := 27) dX4_lineBehind_1 fX4_44 rfl rfl ?_
  refine V.iload_n (j := 2) rfl dX4_lineBehind_4 ?_
  refine V.lda (v := nI x) dX4_lineBehind_5 rfl (by omega) (by decide) ex ?_
  refine V.istore_n (ls' := [(0, .ref 46), (1, .ref 25), (2, .int (nI i)), (3, .int (nI x))]) dX4_lineBehind_6 (by decide) rfl ?_
  refine V.aload_n (j := 1) rfl dX4_lineBehind_7 ?_
  refine V.getr (q := 26) dX4_lineBehind_8 fX4_47 rfl rfl ?_
  refine V.iload_n (j := 2) rfl dX4_lineBehind_11 ?_
  refine V.lda (v := nI 12) dX4_lineBehind_12 rfl (by omega) (by decide) ek ?_
  refine V.tableOut (tgt := 84) dX4_lineBehind_13 (by decide) (by decide) ?_
  refine V.aload_n (j := 0) rfl dX4_lineBehind_84 ?_
  refine V.aload_n (j := 1) rfl dX4_lineBehind_85 ?_
  refine V.getr (q := 26) dX4_lineBehind_86 fX4_47 rfl rfl ?_
  refine V.iload_n (j := 2) rfl dX4_lineBehind_89 ?_
  refine V.lda (v := nI 12) dX4_lineBehind_90 rfl (by omega) (by decide) ek ?_
  refine V.iload_n (j := 3) rfl dX4_lineBehind_91 ?_
  refine V.aload_n (j := 1) rfl dX4_lineBehind_92 ?_
  refine V.getr (q := 28) dX4_lineBehind_93 fX4_50 rfl rfl ?_
  refine V.iload_n (j := 2) rfl dX4_lineBehind_96 ?_
  refine V.lda (v := nI y) dX4_lineBehind_97 rfl (by omega) (by decide) ey ?_
  refine V.aload_n (j := 1) rfl dX4_lineBehind_98 ?_
  refine V.getr (q := 29) dX4_lineBehind_99 fX4_53 rfl rfl ?_
  refine V.iload_n (j := 2) rfl dX4_lineBehind_102 ?_
  refine V.lda (v := A 29 i) dX4_lineBehind_103 rfl (by omega) (by decide) rfl ?_
  refine V.cV (As := [.int (nI 12), .int (nI x), .int (nI y), .int (A 29 i)]) (st := []) dX4_lineBehind_104 sX4_56 iX4_act lX4_act rfl rfl (cd_act46_12 I A x hx y hy _) ⟨by decide, by decide⟩ (Nat.le_of_ble_eq_true rfl) rfl (fun r I' A' hq => ?_)
  obtain ⟨rfl, rfl, rfl⟩ := hq
  refine V.st (st' := []) rfl ?_
  refine V.iload_n (j := 2) rfl dX4_lineBehind_107 ?_
  refine V.iconst (v := nI 1) (by decide) dX4_lineBehind_108 ?_
  refine V.iaddN dX4_lineBehind_109 ?_
  refine V.ri dX4_lineBehind_110 rfl ?_
  have ed : (A 26 i).toNatClampNeg = 12 := by rw [ek, nI_clamp (by omega)]
  have eD : cz_d1 (A 26) (A 27) (A 28) (A 29) i (A 47) (A 49) (A 50) (cz_sl (A 48)) t = (A 47, A 49, A 50, upd (cz_sl (A 48)) (32 * (x / 16) + y) (A 47 x), t, i + 1) := by unfold cz_d1 mz_di1; rw [Nat.zero_add, cz_c_0, ed]; simp only [cz_c_1, cz_c_2, cz_c_3, ex, ey, nI_clamp (show x < 2 ^ 31 by omega), nI_clamp (show y < 2 ^ 31 by omega)]
  rw [eD]
  exact ⟨i + 1, upd (A 48) (x / 16 * 24 + y) (A 47 x), by omega, rfl, Or.inl rfl, cz_sl_upd hy, by rw [← ht, upI_i], cz_M46_48⟩
set_option maxHeartbeats 4000000 in
theorem cd_line46_25 {G : am_G} (I A : Nat → Nat → Int32) (n : Nat) (hn : I 25 4 = nI n) (hN : n ≤ 240) (i : Nat) (hi : i < n) (t : Nat) (ht : I 46 4 = nI t) (ht2 : t < 4000) (hiw : cz_iw (A 26) (A 27) (A 28) (A 29) i) : Cm G MX4_lineBehind 3 68 [.ref 46, .ref 25, .int (nI i)] I A (fun r I' A' => ∃ q s', q ≤ 401 ∧ r = some (.int (nI q)) ∧ (q = (cz_d1 (A 26) (A 27) (A 28) (A 29) i (A 47) (A 49) (A 50) (cz_sl (A 48)) t).2.2.2.2.2 ∨ (n ≤ q ∧ n ≤ (cz_d1 (A 26) (A 27) (A 28) (A 29) i (A 47) (A 49) (A 50) (cz_sl (A 48)) t).2.2.2.2.2)) ∧ cz_sl s' = (cz_d1 (A 26) (A 27) (A 28) (A 29) i (A 47) (A 49) (A 50) (cz_sl (A 48)) t).2.2.2.1 ∧ upI I 46 4 (nI (cz_d1 (A 26) (A 27) (A 28) (A 29) i (A 47) (A 49) (A 50) (cz_sl (A 48)) t).2.2.2.2.1) = I' ∧ upA (upA (upA (upA A 47 (cz_d1 (A 26) (A 27) (A 28) (A 29) i (A 47) (A 49) (A 50) (cz_sl (A 48)) t).1) 49 (cz_d1 (A 26) (A 27) (A 28) (A 29) i (A 47) (A 49) (A 50) (cz_sl (A 48)) t).2.1) 50 (cz_d1 (A 26) (A 27) (A 28) (A 29) i (A 47) (A 49) (A 50) (cz_sl (A 48)) t).2.2.1) 48 s' = A') := by
  obtain ⟨k, h1, ek, h3, h4, h5, h6, h7, h8⟩ := hiw
  rcases (show k = 0 ∨ k = 1 ∨ k = 2 ∨ k = 3 ∨ k = 4 ∨ k = 5 ∨ k = 6 ∨ k = 7 ∨ k = 8 ∨ k = 9 ∨ k = 10 ∨ k = 11 ∨ k = 12 by omega) with rfl | rfl | rfl | rfl | rfl | rfl | rfl | rfl | rfl | rfl | rfl | rfl | rfl
  · obtain ⟨x, hx, ex⟩ := h3 (by omega)
    exact cd_line46_25_0 I A n hn hN i hi t ht ht2 ek x hx ex
  · obtain ⟨x, hx, ex⟩ := h3 (by omega)
    obtain ⟨y, hy, ey⟩ := h4 (by omega)
    exact cd_line46_25_1 I A n hn hN i hi t ht ht2 ek x hx ex y hy ey
  · obtain ⟨x, hx, ex⟩ := h3 (by omega)
    obtain ⟨y, hy, ey⟩ := h4 (by omega)
    obtain ⟨z, hz, ez⟩ := h6 (by omega)
    exact cd_line46_25_2 I A n hn hN i hi t ht ht2 ek x hx ex y hy ey z hz ez
  · obtain ⟨x, hx, ex⟩ := h3 (by omega)
    obtain ⟨y, hy, ey⟩ := h4 (by omega)
    obtain ⟨z, hz, ez⟩ := h6 (by omega)
    exact cd_line46_25_3 I A n hn hN i hi t ht ht2 ek x hx ex y hy ey z hz ez
  · obtain ⟨x, hx, ex⟩ := h3 (by omega)
    obtain ⟨y, hy, ey⟩ := h4 (by omega)
    obtain ⟨z, hz, ez⟩ := h6 (by omega)
    exact cd_line46_25_4 I A n hn hN i hi t ht ht2 ek x hx ex y hy ey z hz ez
  · obtain ⟨x, hx, ex⟩ := h3 (by omega)
    obtain ⟨y, hy, ey⟩ := h4 (by omega)
    exact cd_line46_25_5 I A n hn hN i hi t ht ht2 ek x hx ex y hy ey
  · obtain ⟨x, hx, ex⟩ := h3 (by omega)
    obtain ⟨y, hy, ey⟩ := h4 (by omega)
    exact cd_line46_25_6 I A n hn hN i hi t ht ht2 ek x hx ex y hy ey
  · obtain ⟨x, hx, ex⟩ := h3 (by omega)
    obtain ⟨y, hy, ey⟩ := h4 (by omega)
    obtain ⟨z, hz, ez⟩ := h7 rfl
    exact cd_line46_25_7 I A n hn hN i hi t ht ht2 ek x hx ex y hy ey z hz ez
  · obtain ⟨x, hx, ex⟩ := h8 rfl
    exact cd_line46_25_8 I A n hn hN i hi t ht ht2 ek x hx ex
  · obtain ⟨x, hx, ex⟩ := h3 (by omega)
    exact cd_line46_25_9 I A n hn hN i hi t ht ht2 ek x hx ex
  · exact cd_line46_25_10 I A n hn hN i hi t ht ht2 ek 
  · obtain ⟨x, hx, ex⟩ := h3 (by omega)
    obtain ⟨y, hy, ey⟩ := h5 (by omega)
    exact cd_line46_25_11 I A n hn hN i hi t ht ht2 ek x hx ex y hy ey
  · obtain ⟨x, hx, ex⟩ := h3 (by omega)
    obtain ⟨y, hy, ey⟩ := h5 (by omega)
    exact cd_line46_25_12 I A n hn hN i hi t ht ht2 ek x hx ex y hy ey
