def mz_IA (A : Nat → Nat → Int32) (hd l sd sl : Nat → Int32) : Nat → Nat → Int32 := upA (upA (upA (upA A m_held hd) m_left l) m_said sd) m_slots sl
theorem mz_IA_h {A : Nat → Nat → Int32} {hd : Nat → Int32} : mz_IA A hd (A m_left) (A m_said) (A m_slots) = upA A m_held hd := by
  unfold mz_IA
  rw [upA_ii (A := upA A m_held hd) (a := m_left) (f := A m_left) rfl, upA_ii (A := upA A m_held hd) (a := m_said) (f := A m_said) rfl, upA_ii (A := upA A m_held hd) (a := m_slots) (f := A m_slots) rfl]
theorem mz_IA_l {A : Nat → Nat → Int32} {l : Nat → Int32} : mz_IA A (A m_held) l (A m_said) (A m_slots) = upA A m_left l := by
  unfold mz_IA
  rw [upA_i, upA_ii (A := upA A m_left l) (a := m_said) (f := A m_said) rfl, upA_ii (A := upA A m_left l) (a := m_slots) (f := A m_slots) rfl]
theorem mz_IA_s {A : Nat → Nat → Int32} {sd : Nat → Int32} : mz_IA A (A m_held) (A m_left) sd (A m_slots) = upA A m_said sd := by
  unfold mz_IA
  rw [upA_i, upA_i, upA_ii (A := upA A m_said sd) (a := m_slots) (f := A m_slots) rfl]
theorem mz_IA_k {A : Nat → Nat → Int32} {sl : Nat → Int32} : mz_IA A (A m_held) (A m_left) (A m_said) sl = upA A m_slots sl := by
  unfold mz_IA
  rw [upA_i, upA_i, upA_i]
theorem mz_IA_i {A : Nat → Nat → Int32} : mz_IA A (A m_held) (A m_left) (A m_said) (A m_slots) = A := by
  unfold mz_IA
  rw [upA_i, upA_i, upA_i, upA_i]
theorem mz_sl_e {x y : Nat} (hx : x < 32) (hy : y < 32) : nI 32 * (nI x / nI 16) + nI y = nI (32 * (x / 16) + y) := by
  rw [pk_div (by omega) (by omega) (by omega), pk_mul, nI_add]
set_option maxRecDepth 100000 in
set_option maxHeartbeats 4000000 in
theorem md_doItem0 {G : am_G} (I A : Nat → Nat → Int32) (ba i : Nat) (hba : ba ≤ 1600) (hi : i < 390) (t : Nat) (ht : I mM 19 = nI t) (ht2 : t < 4000) (ek : A m_code (ba + 4 * i) = nI 0) (x : Nat) (hx : x < 32) (ex : A m_code (ba + 4 * i + 1) = nI x) : Cm G MX8_doItem 1 22 [.ref mM, .int (nI ba), .int (nI i)] I A (fun r I' A' => r = some (.int (nI (i + 1))) ∧ upI I mM 19 (nI (t)) = I' ∧ mz_IA A (upd (A m_held) x (A m_code (ba + 4 * i + 2))) ((A m_left)) ((A m_said)) ((A m_slots)) = A') := by
  refine Cm.of (by decide) (Nat.le_of_ble_eq_true rfl) rfl ?_
  show V G MX8_doItem (am_R 1 22 0 0) _ 0 0 0 [(0, .ref mM), (1, .int (nI ba)), (2, .int (nI i))] [] (hp I A)
  refine V.iload_n (j := 1) rfl dX8_doItem_0 ?_
  refine V.iconst (v := nI 4) (by decide) dX8_doItem_1 ?_
  refine V.iload_n (j := 2) rfl dX8_doItem_2 ?_
  refine V.imulN dX8_doItem_3 ?_
  refine V.iaddN dX8_doItem_4 ?_
  refine V.istore_n (ls' := [(0, .ref mM), (1, .int (nI ba)), (2, .int (nI i)), (3, .int (nI (ba + (4 * i))))]) dX8_doItem_5 (by decide) rfl ?_
  refine V.aload_n (j := 0) rfl dX8_doItem_6 ?_
  refine V.getr (q := m_code) dX8_doItem_7 fX8_49 rfl rfl ?_
  refine V.iload_n (j := 3) rfl dX8_doItem_10 ?_
  refine V.iconst (v := nI 1) (by decide) dX8_doItem_11 ?_
  refine V.iaddN dX8_doItem_12 ?_
  refine V.lda (v := nI x) dX8_doItem_13 rfl (by omega) (by decide) ex ?_
  refine V.istore (ls' := [(0, .ref mM), (1, .int (nI ba)), (2, .int (nI i)), (3, .int (nI (ba + (4 * i)))), (4, .int (nI x))]) dX8_doItem_14 (by decide) rfl ?_
  refine V.aload_n (j := 0) rfl dX8_doItem_16 ?_
  refine V.getr (q := m_code) dX8_doItem_17 fX8_49 rfl rfl ?_
  refine V.iload_n (j := 3) rfl dX8_doItem_20 ?_
  refine V.iconst (v := nI 2) (by decide) dX8_doItem_21 ?_
  refine V.iaddN dX8_doItem_22 ?_
  refine V.lda (v := A m_code ((ba + (4 * i)) + 2)) dX8_doItem_23 rfl (by omega) (by decide) rfl ?_
  refine V.istore (ls' := [(0, .ref mM), (1, .int (nI ba)), (2, .int (nI i)), (3, .int (nI (ba + (4 * i)))), (4, .int (nI x)), (5, .int (A m_code ((ba + (4 * i)) + 2)))]) dX8_doItem_24 (by decide) rfl ?_
  refine V.aload_n (j := 0) rfl dX8_doItem_26 ?_
  refine V.getr (q := m_code) dX8_doItem_27 fX8_49 rfl rfl ?_
  refine V.iload_n (j := 3) rfl dX8_doItem_30 ?_
  refine V.iconst (v := nI 3) (by decide) dX8_doItem_31 ?_
  refine V.iaddN dX8_doItem_32 ?_
  refine V.lda (v := A m_code ((ba + (4 * i)) + 3)) dX8_doItem_33 rfl (by omega) (by decide) rfl ?_
  refine V.istore (ls' := [(0, .ref mM), (1, .int (nI ba)), (2, .int (nI i)), (3, .int (nI (ba + (4 * i)))), (4, .int (nI x)), (5, .int (A m_code ((ba + (4 * i)) + 2))), (6, .int (A m_code ((ba + (4 * i)) + 3)))]) dX8_doItem_34 (by decide) rfl ?_
  refine V.aload_n (j := 0) rfl dX8_doItem_36 ?_
  refine V.getr (q := m_code) dX8_doItem_37 fX8_49 rfl rfl ?_
  refine V.iload_n (j := 3) rfl dX8_doItem_40 ?_
  refine V.lda (v := nI 0) dX8_doItem_41 rfl (by omega) (by decide) ek ?_
  refine V.tableIn (tgt := 108) dX8_doItem_42 (by decide) (by decide) rfl (by decide) ?_
  refine V.aload_n (j := 0) rfl dX8_doItem_108 ?_
  refine V.getr (q := m_held) dX8_doItem_109 fX8_64 rfl rfl ?_
  refine V.iload (j := 4) rfl dX8_doItem_112 ?_
  refine V.iload (j := 5) rfl dX8_doItem_114 ?_
  refine V.sta (g := upd (A m_held) x (A m_code ((ba + (4 * i)) + 2))) dX8_doItem_116 rfl (by omega) (by decide) rfl ?_
  refine V.goto (tgt := 325) dX8_doItem_117 (by decide) ?_
  refine V.iload_n (j := 2) rfl dX8_doItem_325 ?_
  refine V.iconst (v := nI 1) (by decide) dX8_doItem_326 ?_
  refine V.iaddN dX8_doItem_327 ?_
  refine V.ri dX8_doItem_328 rfl ?_
  exact ⟨rfl, by rw [← ht, upI_i], mz_IA_h⟩
set_option maxRecDepth 100000 in
set_option maxHeartbeats 4000000 in
theorem md_doItem1 {G : am_G} (I A : Nat → Nat → Int32) (ba i : Nat) (hba : ba ≤ 1600) (hi : i < 390) (t : Nat) (ht : I mM 19 = nI t) (ht2 : t < 4000) (ek : A m_code (ba + 4 * i) = nI 1) (x : Nat) (hx : x < 32) (ex : A m_code (ba + 4 * i + 1) = nI x) (y : Nat) (hy : y < 32) (ey : A m_code (ba + 4 * i + 2) = nI y) : Cm G MX8_doItem 1 22 [.ref mM, .int (nI ba), .int (nI i)] I A (fun r I' A' => r = some (.int (nI (i + 1))) ∧ upI I mM 19 (nI (t)) = I' ∧ mz_IA A (upd (A m_held) x ((A m_held) y)) ((A m_left)) ((A m_said)) ((A m_slots)) = A') := by
  refine Cm.of (by decide) (Nat.le_of_ble_eq_true rfl) rfl ?_
  show V G MX8_doItem (am_R 1 22 0 0) _ 0 0 0 [(0, .ref mM), (1, .int (nI ba)), (2, .int (nI i))] [] (hp I A)
  refine V.iload_n (j := 1) rfl dX8_doItem_0 ?_
  refine V.iconst (v := nI 4) (by decide) dX8_doItem_1 ?_
  refine V.iload_n (j := 2) rfl dX8_doItem_2 ?_
  refine V.imulN dX8_doItem_3 ?_
  refine V.iaddN dX8_doItem_4 ?_
  refine V.istore_n (ls' := [(0, .ref mM), (1, .int (nI ba)), (2, .int (nI i)), (3, .int (nI (ba + (4 * i))))]) dX8_doItem_5 (by decide) rfl ?_
  refine V.aload_n (j := 0) rfl dX8_doItem_6 ?_
  refine V.getr (q := m_code) dX8_doItem_7 fX8_49 rfl rfl ?_
  refine V.iload_n (j := 3) rfl dX8_doItem_10 ?_
  refine V.iconst (v := nI 1) (by decide) dX8_doItem_11 ?_
  refine V.iaddN dX8_doItem_12 ?_
  refine V.lda (v := nI x) dX8_doItem_13 rfl (by omega) (by decide) ex ?_
  refine V.istore (ls' := [(0, .ref mM), (1, .int (nI ba)), (2, .int (nI i)), (3, .int (nI (ba + (4 * i)))), (4, .int (nI x))]) dX8_doItem_14 (by decide) rfl ?_
  refine V.aload_n (j := 0) rfl dX8_doItem_16 ?_
  refine V.getr (q := m_code) dX8_doItem_17 fX8_49 rfl rfl ?_
  refine V.iload_n (j := 3) rfl dX8_doItem_20 ?_
  refine V.iconst (v := nI 2) (by decide) dX8_doItem_21 ?_
  refine V.iaddN dX8_doItem_22 ?_
  refine V.lda (v := nI y) dX8_doItem_23 rfl (by omega) (by decide) ey ?_
  refine V.istore (ls' := [(0, .ref mM), (1, .int (nI ba)), (2, .int (nI i)), (3, .int (nI (ba + (4 * i)))), (4, .int (nI x)), (5, .int (nI y))]) dX8_doItem_24 (by decide) rfl ?_
  refine V.aload_n (j := 0) rfl dX8_doItem_26 ?_
  refine V.getr (q := m_code) dX8_doItem_27 fX8_49 rfl rfl ?_
  refine V.iload_n (j := 3) rfl dX8_doItem_30 ?_
  refine V.iconst (v := nI 3) (by decide) dX8_doItem_31 ?_
  refine V.iaddN dX8_doItem_32 ?_
  refine V.lda (v := A m_code ((ba + (4 * i)) + 3)) dX8_doItem_33 rfl (by omega) (by decide) rfl ?_
  refine V.istore (ls' := [(0, .ref mM), (1, .int (nI ba)), (2, .int (nI i)), (3, .int (nI (ba + (4 * i)))), (4, .int (nI x)), (5, .int (nI y)), (6, .int (A m_code ((ba + (4 * i)) + 3)))]) dX8_doItem_34 (by decide) rfl ?_
  refine V.aload_n (j := 0) rfl dX8_doItem_36 ?_
  refine V.getr (q := m_code) dX8_doItem_37 fX8_49 rfl rfl ?_
  refine V.iload_n (j := 3) rfl dX8_doItem_40 ?_
  refine V.lda (v := nI 1) dX8_doItem_41 rfl (by omega) (by decide) ek ?_
  refine V.tableIn (tgt := 120) dX8_doItem_42 (by decide) (by decide) rfl (by decide) ?_
  refine V.aload_n (j := 0) rfl dX8_doItem_120 ?_
  refine V.getr (q := m_held) dX8_doItem_121 fX8_64 rfl rfl ?_
  refine V.iload (j := 4) rfl dX8_doItem_124 ?_
  refine V.aload_n (j := 0) rfl dX8_doItem_126 ?_
  refine V.getr (q := m_held) dX8_doItem_127 fX8_64 rfl rfl ?_
  refine V.iload (j := 5) rfl dX8_doItem_130 ?_
  refine V.lda (v := A m_held y) dX8_doItem_132 rfl (by omega) (by decide) rfl ?_
  refine V.sta (g := upd (A m_held) x (A m_held y)) dX8_doItem_133 rfl (by omega) (by decide) rfl ?_
  refine V.goto (tgt := 325) dX8_doItem_134 (by decide) ?_
  refine V.iload_n (j := 2) rfl dX8_doItem_325 ?_
  refine V.iconst (v := nI 1) (by decide) dX8_doItem_326 ?_
  refine V.iaddN dX8_doItem_327 ?_
  refine V.ri dX8_doItem_328 rfl ?_
  exact ⟨rfl, by rw [← ht, upI_i], mz_IA_h⟩
set_option maxRecDepth 100000 in
set_option maxHeartbeats 4000000 in
theorem md_doItem2 {G : am_G} (I A : Nat → Nat → Int32) (ba i : Nat) (hba : ba ≤ 1600) (hi : i < 390) (t : Nat) (ht : I mM 19 = nI t) (ht2 : t < 4000) (ek : A m_code (ba + 4 * i) = nI 2) (x : Nat) (hx : x < 32) (ex : A m_code (ba + 4 * i + 1) = nI x) (y : Nat) (hy : y < 32) (ey : A m_code (ba + 4 * i + 2) = nI y) (z : Nat) (hz : z < 32) (ez : A m_code (ba + 4 * i + 3) = nI z) : Cm G MX8_doItem 1 22 [.ref mM, .int (nI ba), .int (nI i)] I A (fun r I' A' => r = some (.int (nI (i + 1))) ∧ upI I mM 19 (nI (t)) = I' ∧ mz_IA A (upd (A m_held) x (mz_rk (nI 2) ((A m_held) y) ((A m_held) z))) ((A m_left)) ((A m_said)) ((A m_slots)) = A') := by
  refine Cm.of (by decide) (Nat.le_of_ble_eq_true rfl) rfl ?_
  show V G MX8_doItem (am_R 1 22 0 0) _ 0 0 0 [(0, .ref mM), (1, .int (nI ba)), (2, .int (nI i))] [] (hp I A)
  refine V.iload_n (j := 1) rfl dX8_doItem_0 ?_
  refine V.iconst (v := nI 4) (by decide) dX8_doItem_1 ?_
  refine V.iload_n (j := 2) rfl dX8_doItem_2 ?_
  refine V.imulN dX8_doItem_3 ?_
  refine V.iaddN dX8_doItem_4 ?_
  refine V.istore_n (ls' := [(0, .ref mM), (1, .int (nI ba)), (2, .int (nI i)), (3, .int (nI (ba + (4 * i))))]) dX8_doItem_5 (by decide) rfl ?_
  refine V.aload_n (j := 0) rfl dX8_doItem_6 ?_
  refine V.getr (q := m_code) dX8_doItem_7 fX8_49 rfl rfl ?_
  refine V.iload_n (j := 3) rfl dX8_doItem_10 ?_
  refine V.iconst (v := nI 1) (by decide) dX8_doItem_11 ?_
  refine V.iaddN dX8_doItem_12 ?_
  refine V.lda (v := nI x) dX8_doItem_13 rfl (by omega) (by decide) ex ?_
  refine V.istore (ls' := [(0, .ref mM), (1, .int (nI ba)), (2, .int (nI i)), (3, .int (nI (ba + (4 * i)))), (4, .int (nI x))]) dX8_doItem_14 (by decide) rfl ?_
  refine V.aload_n (j := 0) rfl dX8_doItem_16 ?_
  refine V.getr (q := m_code) dX8_doItem_17 fX8_49 rfl rfl ?_
  refine V.iload_n (j := 3) rfl dX8_doItem_20 ?_
  refine V.iconst (v := nI 2) (by decide) dX8_doItem_21 ?_
  refine V.iaddN dX8_doItem_22 ?_
  refine V.lda (v := nI y) dX8_doItem_23 rfl (by omega) (by decide) ey ?_
  refine V.istore (ls' := [(0, .ref mM), (1, .int (nI ba)), (2, .int (nI i)), (3, .int (nI (ba + (4 * i)))), (4, .int (nI x)), (5, .int (nI y))]) dX8_doItem_24 (by decide) rfl ?_
  refine V.aload_n (j := 0) rfl dX8_doItem_26 ?_
  refine V.getr (q := m_code) dX8_doItem_27 fX8_49 rfl rfl ?_
  refine V.iload_n (j := 3) rfl dX8_doItem_30 ?_
  refine V.iconst (v := nI 3) (by decide) dX8_doItem_31 ?_
  refine V.iaddN dX8_doItem_32 ?_
  refine V.lda (v := nI z) dX8_doItem_33 rfl (by omega) (by decide) ez ?_
  refine V.istore (ls' := [(0, .ref mM), (1, .int (nI ba)), (2, .int (nI i)), (3, .int (nI (ba + (4 * i)))), (4, .int (nI x)), (5, .int (nI y)), (6, .int (nI z))]) dX8_doItem_34 (by decide) rfl ?_
  refine V.aload_n (j := 0) rfl dX8_doItem_36 ?_
  refine V.getr (q := m_code) dX8_doItem_37 fX8_49 rfl rfl ?_
  refine V.iload_n (j := 3) rfl dX8_doItem_40 ?_
  refine V.lda (v := nI 2) dX8_doItem_41 rfl (by omega) (by decide) ek ?_
  refine V.tableIn (tgt := 137) dX8_doItem_42 (by decide) (by decide) rfl (by decide) ?_
  refine V.aload_n (j := 0) rfl dX8_doItem_137 ?_
  refine V.getr (q := m_held) dX8_doItem_138 fX8_64 rfl rfl ?_
  refine V.iload (j := 4) rfl dX8_doItem_141 ?_
  refine V.aload_n (j := 0) rfl dX8_doItem_143 ?_
  refine V.getr (q := m_code) dX8_doItem_144 fX8_49 rfl rfl ?_
  refine V.iload_n (j := 3) rfl dX8_doItem_147 ?_
  refine V.lda (v := nI 2) dX8_doItem_148 rfl (by omega) (by decide) ek ?_
  refine V.aload_n (j := 0) rfl dX8_doItem_149 ?_
  refine V.getr (q := m_held) dX8_doItem_150 fX8_64 rfl rfl ?_
  refine V.iload (j := 5) rfl dX8_doItem_153 ?_
  refine V.lda (v := A m_held y) dX8_doItem_155 rfl (by omega) (by decide) rfl ?_
  refine V.aload_n (j := 0) rfl dX8_doItem_156 ?_
  refine V.getr (q := m_held) dX8_doItem_157 fX8_64 rfl rfl ?_
  refine V.iload (j := 6) rfl dX8_doItem_160 ?_
  refine V.lda (v := A m_held z) dX8_doItem_162 rfl (by omega) (by decide) rfl ?_
  refine V.cS (As := [.int (nI 2), .int (A m_held y), .int (A m_held z)]) (st := [.int (nI x), .ref m_held]) dX8_doItem_163 sX8_178 zX8_reckoned (md_reckoned I A _ _ _) ⟨by decide, by decide⟩ (Nat.le_of_ble_eq_true rfl) rfl (fun r I' A' hq => ?_)
  obtain ⟨rfl, rfl, rfl⟩ := hq
  refine V.st (st' := [.int (mz_rk (nI 2) (A m_held y) (A m_held z)), .int (nI x), .ref m_held]) rfl ?_
  refine V.sta (g := upd (A m_held) x (mz_rk (nI 2) (A m_held y) (A m_held z))) dX8_doItem_166 rfl (by omega) (by decide) rfl ?_
  refine V.goto (tgt := 325) dX8_doItem_167 (by decide) ?_
  refine V.iload_n (j := 2) rfl dX8_doItem_325 ?_
  refine V.iconst (v := nI 1) (by decide) dX8_doItem_326 ?_
  refine V.iaddN dX8_doItem_327 ?_
  refine V.ri dX8_doItem_328 rfl ?_
  exact ⟨rfl, by rw [← ht, upI_i], mz_IA_h⟩
set_option maxRecDepth 100000 in
set_option maxHeartbeats 4000000 in
theorem md_doItem3 {G : am_G} (I A : Nat → Nat → Int32) (ba i : Nat) (hba : ba ≤ 1600) (hi : i < 390) (t : Nat) (ht : I mM 19 = nI t) (ht2 : t < 4000) (ek : A m_code (ba + 4 * i) = nI 3) (x : Nat) (hx : x < 32) (ex : A m_code (ba + 4 * i + 1) = nI x) (y : Nat) (hy : y < 32) (ey : A m_code (ba + 4 * i + 2) = nI y) (z : Nat) (hz : z < 32) (ez : A m_code (ba + 4 * i + 3) = nI z) : Cm G MX8_doItem 1 22 [.ref mM, .int (nI ba), .int (nI i)] I A (fun r I' A' => r = some (.int (nI (i + 1))) ∧ upI I mM 19 (nI (t)) = I' ∧ mz_IA A (upd (A m_held) x (mz_rk (nI 3) ((A m_held) y) ((A m_held) z))) ((A m_left)) ((A m_said)) ((A m_slots)) = A') := by
  refine Cm.of (by decide) (Nat.le_of_ble_eq_true rfl) rfl ?_
  show V G MX8_doItem (am_R 1 22 0 0) _ 0 0 0 [(0, .ref mM), (1, .int (nI ba)), (2, .int (nI i))] [] (hp I A)
  refine V.iload_n (j := 1) rfl dX8_doItem_0 ?_
  refine V.iconst (v := nI 4) (by decide) dX8_doItem_1 ?_
  refine V.iload_n (j := 2) rfl dX8_doItem_2 ?_
  refine V.imulN dX8_doItem_3 ?_
  refine V.iaddN dX8_doItem_4 ?_
  refine V.istore_n (ls' := [(0, .ref mM), (1, .int (nI ba)), (2, .int (nI i)), (3, .int (nI (ba + (4 * i))))]) dX8_doItem_5 (by decide) rfl ?_
  refine V.aload_n (j := 0) rfl dX8_doItem_6 ?_
  refine V.getr (q := m_code) dX8_doItem_7 fX8_49 rfl rfl ?_
  refine V.iload_n (j := 3) rfl dX8_doItem_10 ?_
  refine V.iconst (v := nI 1) (by decide) dX8_doItem_11 ?_
  refine V.iaddN dX8_doItem_12 ?_
  refine V.lda (v := nI x) dX8_doItem_13 rfl (by omega) (by decide) ex ?_
  refine V.istore (ls' := [(0, .ref mM), (1, .int (nI ba)), (2, .int (nI i)), (3, .int (nI (ba + (4 * i)))), (4, .int (nI x))]) dX8_doItem_14 (by decide) rfl ?_
  refine V.aload_n (j := 0) rfl dX8_doItem_16 ?_
  refine V.getr (q := m_code) dX8_doItem_17 fX8_49 rfl rfl ?_
  refine V.iload_n (j := 3) rfl dX8_doItem_20 ?_
  refine V.iconst (v := nI 2) (by decide) dX8_doItem_21 ?_
  refine V.iaddN dX8_doItem_22 ?_
  refine V.lda (v := nI y) dX8_doItem_23 rfl (by omega) (by decide) ey ?_
  refine V.istore (ls' := [(0, .ref mM), (1, .int (nI ba)), (2, .int (nI i)), (3, .int (nI (ba + (4 * i)))), (4, .int (nI x)), (5, .int (nI y))]) dX8_doItem_24 (by decide) rfl ?_
  refine V.aload_n (j := 0) rfl dX8_doItem_26 ?_
  refine V.getr (q := m_code) dX8_doItem_27 fX8_49 rfl rfl ?_
  refine V.iload_n (j := 3) rfl dX8_doItem_30 ?_
  refine V.iconst (v := nI 3) (by decide) dX8_doItem_31 ?_
  refine V.iaddN dX8_doItem_32 ?_
  refine V.lda (v := nI z) dX8_doItem_33 rfl (by omega) (by decide) ez ?_
  refine V.istore (ls' := [(0, .ref mM), (1, .int (nI ba)), (2, .int (nI i)), (3, .int (nI (ba + (4 * i)))), (4, .int (nI x)), (5, .int (nI y)), (6, .int (nI z))]) dX8_doItem_34 (by decide) rfl ?_
  refine V.aload_n (j := 0) rfl dX8_doItem_36 ?_
  refine V.getr (q := m_code) dX8_doItem_37 fX8_49 rfl rfl ?_
  refine V.iload_n (j := 3) rfl dX8_doItem_40 ?_
  refine V.lda (v := nI 3) dX8_doItem_41 rfl (by omega) (by decide) ek ?_
  refine V.tableIn (tgt := 137) dX8_doItem_42 (by decide) (by decide) rfl (by decide) ?_
  refine V.aload_n (j := 0) rfl dX8_doItem_137 ?_
  refine V.getr (q := m_held) dX8_doItem_138 fX8_64 rfl rfl ?_
  refine V.iload (j := 4) rfl dX8_doItem_141 ?_
  refine V.aload_n (j := 0) rfl dX8_doItem_143 ?_
  refine V.getr (q := m_code) dX8_doItem_144 fX8_49 rfl rfl ?_
  refine V.iload_n (j := 3) rfl dX8_doItem_147 ?_
  refine V.lda (v := nI 3) dX8_doItem_148 rfl (by omega) (by decide) ek ?_
  refine V.aload_n (j := 0) rfl dX8_doItem_149 ?_
  refine V.getr (q := m_held) dX8_doItem_150 fX8_64 rfl rfl ?_
  refine V.iload (j := 5) rfl dX8_doItem_153 ?_
  refine V.lda (v := A m_held y) dX8_doItem_155 rfl (by omega) (by decide) rfl ?_
  refine V.aload_n (j := 0) rfl dX8_doItem_156 ?_
  refine V.getr (q := m_held) dX8_doItem_157 fX8_64 rfl rfl ?_
  refine V.iload (j := 6) rfl dX8_doItem_160 ?_
  refine V.lda (v := A m_held z) dX8_doItem_162 rfl (by omega) (by decide) rfl ?_
  refine V.cS (As := [.int (nI 3), .int (A m_held y), .int (A m_held z)]) (st := [.int (nI x), .ref m_held]) dX8_doItem_163 sX8_178 zX8_reckoned (md_reckoned I A _ _ _) ⟨by decide, by decide⟩ (Nat.le_of_ble_eq_true rfl) rfl (fun r I' A' hq => ?_)
  obtain ⟨rfl, rfl, rfl⟩ := hq
  refine V.st (st' := [.int (mz_rk (nI 3) (A m_held y) (A m_held z)), .int (nI x), .ref m_held]) rfl ?_
  refine V.sta (g := upd (A m_held) x (mz_rk (nI 3) (A m_held y) (A m_held z))) dX8_doItem_166 rfl (by omega) (by decide) rfl ?_
  refine V.goto (tgt := 325) dX8_doItem_167 (by decide) ?_
  refine V.iload_n (j := 2) rfl dX8_doItem_325 ?_
  refine V.iconst (v := nI 1) (by decide) dX8_doItem_326 ?_
  refine V.iaddN dX8_doItem_327 ?_
  refine V.ri dX8_doItem_328 rfl ?_
  exact ⟨rfl, by rw [← ht, upI_i], mz_IA_h⟩
set_option maxRecDepth 100000 in
set_option maxHeartbeats 4000000 in
theorem md_doItem4 {G : am_G} (I A : Nat → Nat → Int32) (ba i : Nat) (hba : ba ≤ 1600) (hi : i < 390) (t : Nat) (ht : I mM 19 = nI t) (ht2 : t < 4000) (ek : A m_code (ba + 4 * i) = nI 4) (x : Nat) (hx : x < 32) (ex : A m_code (ba + 4 * i + 1) = nI x) (y : Nat) (hy : y < 32) (ey : A m_code (ba + 4 * i + 2) = nI y) (z : Nat) (hz : z < 32) (ez : A m_code (ba + 4 * i + 3) = nI z) : Cm G MX8_doItem 1 22 [.ref mM, .int (nI ba), .int (nI i)] I A (fun r I' A' => r = some (.int (nI (i + 1))) ∧ upI I mM 19 (nI (t)) = I' ∧ mz_IA A (upd (A m_held) x (mz_rk (nI 4) ((A m_held) y) ((A m_held) z))) ((A m_left)) ((A m_said)) ((A m_slots)) = A') := by
  refine Cm.of (by decide) (Nat.le_of_ble_eq_true rfl) rfl ?_
  show V G MX8_doItem (am_R 1 22 0 0) _ 0 0 0 [(0, .ref mM), (1, .int (nI ba)), (2, .int (nI i))] [] (hp I A)
  refine V.iload_n (j := 1) rfl dX8_doItem_0 ?_
  refine V.iconst (v := nI 4) (by decide) dX8_doItem_1 ?_
  refine V.iload_n (j := 2) rfl dX8_doItem_2 ?_
  refine V.imulN dX8_doItem_3 ?_
  refine V.iaddN dX8_doItem_4 ?_
  refine V.istore_n (ls' := [(0, .ref mM), (1, .int (nI ba)), (2, .int (nI i)), (3, .int (nI (ba + (4 * i))))]) dX8_doItem_5 (by decide) rfl ?_
  refine V.aload_n (j := 0) rfl dX8_doItem_6 ?_
  refine V.getr (q := m_code) dX8_doItem_7 fX8_49 rfl rfl ?_
  refine V.iload_n (j := 3) rfl dX8_doItem_10 ?_
  refine V.iconst (v := nI 1) (by decide) dX8_doItem_11 ?_
  refine V.iaddN dX8_doItem_12 ?_
  refine V.lda (v := nI x) dX8_doItem_13 rfl (by omega) (by decide) ex ?_
  refine V.istore (ls' := [(0, .ref mM), (1, .int (nI ba)), (2, .int (nI i)), (3, .int (nI (ba + (4 * i)))), (4, .int (nI x))]) dX8_doItem_14 (by decide) rfl ?_
  refine V.aload_n (j := 0) rfl dX8_doItem_16 ?_
  refine V.getr (q := m_code) dX8_doItem_17 fX8_49 rfl rfl ?_
  refine V.iload_n (j := 3) rfl dX8_doItem_20 ?_
  refine V.iconst (v := nI 2) (by decide) dX8_doItem_21 ?_
  refine V.iaddN dX8_doItem_22 ?_
  refine V.lda (v := nI y) dX8_doItem_23 rfl (by omega) (by decide) ey ?_
  refine V.istore (ls' := [(0, .ref mM), (1, .int (nI ba)), (2, .int (nI i)), (3, .int (nI (ba + (4 * i)))), (4, .int (nI x)), (5, .int (nI y))]) dX8_doItem_24 (by decide) rfl ?_
  refine V.aload_n (j := 0) rfl dX8_doItem_26 ?_
  refine V.getr (q := m_code) dX8_doItem_27 fX8_49 rfl rfl ?_
  refine V.iload_n (j := 3) rfl dX8_doItem_30 ?_
  refine V.iconst (v := nI 3) (by decide) dX8_doItem_31 ?_
  refine V.iaddN dX8_doItem_32 ?_
  refine V.lda (v := nI z) dX8_doItem_33 rfl (by omega) (by decide) ez ?_
  refine V.istore (ls' := [(0, .ref mM), (1, .int (nI ba)), (2, .int (nI i)), (3, .int (nI (ba + (4 * i)))), (4, .int (nI x)), (5, .int (nI y)), (6, .int (nI z))]) dX8_doItem_34 (by decide) rfl ?_
  refine V.aload_n (j := 0) rfl dX8_doItem_36 ?_
  refine V.getr (q := m_code) dX8_doItem_37 fX8_49 rfl rfl ?_
  refine V.iload_n (j := 3) rfl dX8_doItem_40 ?_
  refine V.lda (v := nI 4) dX8_doItem_41 rfl (by omega) (by decide) ek ?_
  refine V.tableIn (tgt := 137) dX8_doItem_42 (by decide) (by decide) rfl (by decide) ?_
  refine V.aload_n (j := 0) rfl dX8_doItem_137 ?_
  refine V.getr (q := m_held) dX8_doItem_138 fX8_64 rfl rfl ?_
  refine V.iload (j := 4) rfl dX8_doItem_141 ?_
  refine V.aload_n (j := 0) rfl dX8_doItem_143 ?_
  refine V.getr (q := m_code) dX8_doItem_144 fX8_49 rfl rfl ?_
  refine V.iload_n (j := 3) rfl dX8_doItem_147 ?_
  refine V.lda (v := nI 4) dX8_doItem_148 rfl (by omega) (by decide) ek ?_
  refine V.aload_n (j := 0) rfl dX8_doItem_149 ?_
  refine V.getr (q := m_held) dX8_doItem_150 fX8_64 rfl rfl ?_
  refine V.iload (j := 5) rfl dX8_doItem_153 ?_
  refine V.lda (v := A m_held y) dX8_doItem_155 rfl (by omega) (by decide) rfl ?_
  refine V.aload_n (j := 0) rfl dX8_doItem_156 ?_
  refine V.getr (q := m_held) dX8_doItem_157 fX8_64 rfl rfl ?_
  refine V.iload (j := 6) rfl dX8_doItem_160 ?_
  refine V.lda (v := A m_held z) dX8_doItem_162 rfl (by omega) (by decide) rfl ?_
  refine V.cS (As := [.int (nI 4), .int (A m_held y), .int (A m_held z)]) (st := [.int (nI x), .ref m_held]) dX8_doItem_163 sX8_178 zX8_reckoned (md_reckoned I A _ _ _) ⟨by decide, by decide⟩ (Nat.le_of_ble_eq_true rfl) rfl (fun r I' A' hq => ?_)
  obtain ⟨rfl, rfl, rfl⟩ := hq
  refine V.st (st' := [.int (mz_rk (nI 4) (A m_held y) (A m_held z)), .int (nI x), .ref m_held]) rfl ?_
  refine V.sta (g := upd (A m_held) x (mz_rk (nI 4) (A m_held y) (A m_held z))) dX8_doItem_166 rfl (by omega) (by decide) rfl ?_
  refine V.goto (tgt := 325) dX8_doItem_167 (by decide) ?_
  refine V.iload_n (j := 2) rfl dX8_doItem_325 ?_
  refine V.iconst (v := nI 1) (by decide) dX8_doItem_326 ?_
  refine V.iaddN dX8_doItem_327 ?_
  refine V.ri dX8_doItem_328 rfl ?_
  exact ⟨rfl, by rw [← ht, upI_i], mz_IA_h⟩
set_option maxRecDepth 100000 in
set_option maxHeartbeats 4000000 in
theorem md_doItem5 {G : am_G} (I A : Nat → Nat → Int32) (ba i : Nat) (hba : ba ≤ 1600) (hi : i < 390) (t : Nat) (ht : I mM 19 = nI t) (ht2 : t < 4000) (ek : A m_code (ba + 4 * i) = nI 5) (x : Nat) (hx : x < 32) (ex : A m_code (ba + 4 * i + 1) = nI x) (y : Nat) (hy : y < 32) (ey : A m_code (ba + 4 * i + 2) = nI y) : Cm G MX8_doItem 1 22 [.ref mM, .int (nI ba), .int (nI i)] I A (fun r I' A' => r = some (.int (nI (i + 1))) ∧ upI I mM 19 (nI (t)) = I' ∧ mz_IA A (upd (A m_held) x ((A m_left) (mz_cl ((A m_held) y + A m_code (ba + 4 * i + 3))))) ((A m_left)) ((A m_said)) ((A m_slots)) = A') := by
  refine Cm.of (by decide) (Nat.le_of_ble_eq_true rfl) rfl ?_
  show V G MX8_doItem (am_R 1 22 0 0) _ 0 0 0 [(0, .ref mM), (1, .int (nI ba)), (2, .int (nI i))] [] (hp I A)
  refine V.iload_n (j := 1) rfl dX8_doItem_0 ?_
  refine V.iconst (v := nI 4) (by decide) dX8_doItem_1 ?_
  refine V.iload_n (j := 2) rfl dX8_doItem_2 ?_
  refine V.imulN dX8_doItem_3 ?_
  refine V.iaddN dX8_doItem_4 ?_
  refine V.istore_n (ls' := [(0, .ref mM), (1, .int (nI ba)), (2, .int (nI i)), (3, .int (nI (ba + (4 * i))))]) dX8_doItem_5 (by decide) rfl ?_
  refine V.aload_n (j := 0) rfl dX8_doItem_6 ?_
  refine V.getr (q := m_code) dX8_doItem_7 fX8_49 rfl rfl ?_
  refine V.iload_n (j := 3) rfl dX8_doItem_10 ?_
  refine V.iconst (v := nI 1) (by decide) dX8_doItem_11 ?_
  refine V.iaddN dX8_doItem_12 ?_
  refine V.lda (v := nI x) dX8_doItem_13 rfl (by omega) (by decide) ex ?_
  refine V.istore (ls' := [(0, .ref mM), (1, .int (nI ba)), (2, .int (nI i)), (3, .int (nI (ba + (4 * i)))), (4, .int (nI x))]) dX8_doItem_14 (by decide) rfl ?_
  refine V.aload_n (j := 0) rfl dX8_doItem_16 ?_
  refine V.getr (q := m_code) dX8_doItem_17 fX8_49 rfl rfl ?_
  refine V.iload_n (j := 3) rfl dX8_doItem_20 ?_
  refine V.iconst (v := nI 2) (by decide) dX8_doItem_21 ?_
  refine V.iaddN dX8_doItem_22 ?_
  refine V.lda (v := nI y) dX8_doItem_23 rfl (by omega) (by decide) ey ?_
  refine V.istore (ls' := [(0, .ref mM), (1, .int (nI ba)), (2, .int (nI i)), (3, .int (nI (ba + (4 * i)))), (4, .int (nI x)), (5, .int (nI y))]) dX8_doItem_24 (by decide) rfl ?_
  refine V.aload_n (j := 0) rfl dX8_doItem_26 ?_
  refine V.getr (q := m_code) dX8_doItem_27 fX8_49 rfl rfl ?_
  refine V.iload_n (j := 3) rfl dX8_doItem_30 ?_
  refine V.iconst (v := nI 3) (by decide) dX8_doItem_31 ?_
  refine V.iaddN dX8_doItem_32 ?_
  refine V.lda (v := A m_code ((ba + (4 * i)) + 3)) dX8_doItem_33 rfl (by omega) (by decide) rfl ?_
  refine V.istore (ls' := [(0, .ref mM), (1, .int (nI ba)), (2, .int (nI i)), (3, .int (nI (ba + (4 * i)))), (4, .int (nI x)), (5, .int (nI y)), (6, .int (A m_code ((ba + (4 * i)) + 3)))]) dX8_doItem_34 (by decide) rfl ?_
  refine V.aload_n (j := 0) rfl dX8_doItem_36 ?_
  refine V.getr (q := m_code) dX8_doItem_37 fX8_49 rfl rfl ?_
  refine V.iload_n (j := 3) rfl dX8_doItem_40 ?_
  refine V.lda (v := nI 5) dX8_doItem_41 rfl (by omega) (by decide) ek ?_
  refine V.tableIn (tgt := 170) dX8_doItem_42 (by decide) (by decide) rfl (by decide) ?_
  refine V.aload_n (j := 0) rfl dX8_doItem_170 ?_
  refine V.getr (q := m_held) dX8_doItem_171 fX8_64 rfl rfl ?_
  refine V.iload (j := 4) rfl dX8_doItem_174 ?_
  refine V.aload_n (j := 0) rfl dX8_doItem_176 ?_
  refine V.getr (q := m_left) dX8_doItem_177 fX8_61 rfl rfl ?_
  refine V.aload_n (j := 0) rfl dX8_doItem_180 ?_
  refine V.getr (q := m_held) dX8_doItem_181 fX8_64 rfl rfl ?_
  refine V.iload (j := 5) rfl dX8_doItem_184 ?_
  refine V.lda (v := A m_held y) dX8_doItem_186 rfl (by omega) (by decide) rfl ?_
  refine V.iload (j := 6) rfl dX8_doItem_187 ?_
  refine V.iadd dX8_doItem_189 ?_
  refine V.bipush (v := nI 63) (by decide) dX8_doItem_190 ?_
  refine V.iand dX8_doItem_192 ?_
  have hcl := mz_cl_lt (((A m_held y) + (A m_code ((ba + (4 * i)) + 3))))
  refine V.st (st' := [.int (nI (mz_cl (((A m_held y) + (A m_code ((ba + (4 * i)) + 3)))))), .ref m_left, .int (nI x), .ref m_held]) (by rw [mz_cl_e]) ?_
  refine V.lda (v := A m_left (mz_cl (((A m_held y) + (A m_code ((ba + (4 * i)) + 3)))))) dX8_doItem_193 rfl (by omega) (by decide) rfl ?_
  refine V.sta (g := upd (A m_held) x (A m_left (mz_cl (((A m_held y) + (A m_code ((ba + (4 * i)) + 3))))))) dX8_doItem_194 rfl (by omega) (by decide) rfl ?_
  refine V.goto (tgt := 325) dX8_doItem_195 (by decide) ?_
  refine V.iload_n (j := 2) rfl dX8_doItem_325 ?_
  refine V.iconst (v := nI 1) (by decide) dX8_doItem_326 ?_
  refine V.iaddN dX8_doItem_327 ?_
  refine V.ri dX8_doItem_328 rfl ?_
  exact ⟨rfl, by rw [← ht, upI_i], mz_IA_h⟩
set_option maxRecDepth 100000 in
set_option maxHeartbeats 4000000 in
theorem md_doItem6 {G : am_G} (I A : Nat → Nat → Int32) (ba i : Nat) (hba : ba ≤ 1600) (hi : i < 390) (t : Nat) (ht : I mM 19 = nI t) (ht2 : t < 4000) (ek : A m_code (ba + 4 * i) = nI 6) (x : Nat) (hx : x < 32) (ex : A m_code (ba + 4 * i + 1) = nI x) (y : Nat) (hy : y < 32) (ey : A m_code (ba + 4 * i + 2) = nI y) : Cm G MX8_doItem 1 22 [.ref mM, .int (nI ba), .int (nI i)] I A (fun r I' A' => r = some (.int (nI (i + 1))) ∧ upI I mM 19 (nI (t)) = I' ∧ mz_IA A ((A m_held)) (upd (A m_left) (mz_cl ((A m_held) y + A m_code (ba + 4 * i + 3))) ((A m_held) x)) ((A m_said)) ((A m_slots)) = A') := by
  refine Cm.of (by decide) (Nat.le_of_ble_eq_true rfl) rfl ?_
  show V G MX8_doItem (am_R 1 22 0 0) _ 0 0 0 [(0, .ref mM), (1, .int (nI ba)), (2, .int (nI i))] [] (hp I A)
  refine V.iload_n (j := 1) rfl dX8_doItem_0 ?_
  refine V.iconst (v := nI 4) (by decide) dX8_doItem_1 ?_
  refine V.iload_n (j := 2) rfl dX8_doItem_2 ?_
  refine V.imulN dX8_doItem_3 ?_
  refine V.iaddN dX8_doItem_4 ?_
  refine V.istore_n (ls' := [(0, .ref mM), (1, .int (nI ba)), (2, .int (nI i)), (3, .int (nI (ba + (4 * i))))]) dX8_doItem_5 (by decide) rfl ?_
  refine V.aload_n (j := 0) rfl dX8_doItem_6 ?_
  refine V.getr (q := m_code) dX8_doItem_7 fX8_49 rfl rfl ?_
  refine V.iload_n (j := 3) rfl dX8_doItem_10 ?_
  refine V.iconst (v := nI 1) (by decide) dX8_doItem_11 ?_
  refine V.iaddN dX8_doItem_12 ?_
  refine V.lda (v := nI x) dX8_doItem_13 rfl (by omega) (by decide) ex ?_
  refine V.istore (ls' := [(0, .ref mM), (1, .int (nI ba)), (2, .int (nI i)), (3, .int (nI (ba + (4 * i)))), (4, .int (nI x))]) dX8_doItem_14 (by decide) rfl ?_
  refine V.aload_n (j := 0) rfl dX8_doItem_16 ?_
  refine V.getr (q := m_code) dX8_doItem_17 fX8_49 rfl rfl ?_
  refine V.iload_n (j := 3) rfl dX8_doItem_20 ?_
  refine V.iconst (v := nI 2) (by decide) dX8_doItem_21 ?_
  refine V.iaddN dX8_doItem_22 ?_
  refine V.lda (v := nI y) dX8_doItem_23 rfl (by omega) (by decide) ey ?_
  refine V.istore (ls' := [(0, .ref mM), (1, .int (nI ba)), (2, .int (nI i)), (3, .int (nI (ba + (4 * i)))), (4, .int (nI x)), (5, .int (nI y))]) dX8_doItem_24 (by decide) rfl ?_
  refine V.aload_n (j := 0) rfl dX8_doItem_26 ?_
  refine V.getr (q := m_code) dX8_doItem_27 fX8_49 rfl rfl ?_
  refine V.iload_n (j := 3) rfl dX8_doItem_30 ?_
  refine V.iconst (v := nI 3) (by decide) dX8_doItem_31 ?_
  refine V.iaddN dX8_doItem_32 ?_
  refine V.lda (v := A m_code ((ba + (4 * i)) + 3)) dX8_doItem_33 rfl (by omega) (by decide) rfl ?_
  refine V.istore (ls' := [(0, .ref mM), (1, .int (nI ba)), (2, .int (nI i)), (3, .int (nI (ba + (4 * i)))), (4, .int (nI x)), (5, .int (nI y)), (6, .int (A m_code ((ba + (4 * i)) + 3)))]) dX8_doItem_34 (by decide) rfl ?_
  refine V.aload_n (j := 0) rfl dX8_doItem_36 ?_
  refine V.getr (q := m_code) dX8_doItem_37 fX8_49 rfl rfl ?_
  refine V.iload_n (j := 3) rfl dX8_doItem_40 ?_
  refine V.lda (v := nI 6) dX8_doItem_41 rfl (by omega) (by decide) ek ?_
  refine V.tableIn (tgt := 198) dX8_doItem_42 (by decide) (by decide) rfl (by decide) ?_
  refine V.aload_n (j := 0) rfl dX8_doItem_198 ?_
  refine V.getr (q := m_left) dX8_doItem_199 fX8_61 rfl rfl ?_
  refine V.aload_n (j := 0) rfl dX8_doItem_202 ?_
  refine V.getr (q := m_held) dX8_doItem_203 fX8_64 rfl rfl ?_
  refine V.iload (j := 5) rfl dX8_doItem_206 ?_
  refine V.lda (v := A m_held y) dX8_doItem_208 rfl (by omega) (by decide) rfl ?_
  refine V.iload (j := 6) rfl dX8_doItem_209 ?_
  refine V.iadd dX8_doItem_211 ?_
  refine V.bipush (v := nI 63) (by decide) dX8_doItem_212 ?_
  refine V.iand dX8_doItem_214 ?_
  have hcl := mz_cl_lt (((A m_held y) + (A m_code ((ba + (4 * i)) + 3))))
  refine V.st (st' := [.int (nI (mz_cl (((A m_held y) + (A m_code ((ba + (4 * i)) + 3)))))), .ref m_left]) (by rw [mz_cl_e]) ?_
  refine V.aload_n (j := 0) rfl dX8_doItem_215 ?_
  refine V.getr (q := m_held) dX8_doItem_216 fX8_64 rfl rfl ?_
  refine V.iload (j := 4) rfl dX8_doItem_219 ?_
  refine V.lda (v := A m_held x) dX8_doItem_221 rfl (by omega) (by decide) rfl ?_
  refine V.sta (g := upd (A m_left) (mz_cl (((A m_held y) + (A m_code ((ba + (4 * i)) + 3))))) (A m_held x)) dX8_doItem_222 rfl (by omega) (by decide) rfl ?_
  refine V.goto (tgt := 325) dX8_doItem_223 (by decide) ?_
  refine V.iload_n (j := 2) rfl dX8_doItem_325 ?_
  refine V.iconst (v := nI 1) (by decide) dX8_doItem_326 ?_
  refine V.iaddN dX8_doItem_327 ?_
  refine V.ri dX8_doItem_328 rfl ?_
  exact ⟨rfl, by rw [← ht, upI_i], mz_IA_l⟩
set_option maxRecDepth 100000 in
set_option maxHeartbeats 4000000 in
theorem md_doItem7 {G : am_G} (I A : Nat → Nat → Int32) (ba i : Nat) (hba : ba ≤ 1600) (hi : i < 390) (t : Nat) (ht : I mM 19 = nI t) (ht2 : t < 4000) (ek : A m_code (ba + 4 * i) = nI 7) (x : Nat) (hx : x < 32) (ex : A m_code (ba + 4 * i + 1) = nI x) (y : Nat) (hy : y < 32) (ey : A m_code (ba + 4 * i + 2) = nI y) (z : Nat) (hz : z < 401) (ez : A m_code (ba + 4 * i + 3) = nI z) : Cm G MX8_doItem 1 22 [.ref mM, .int (nI ba), .int (nI i)] I A (fun r I' A' => r = some (.int (nI (if (A m_held) y ≤ (A m_held) x then i + 1 else z))) ∧ upI I mM 19 (nI (t)) = I' ∧ mz_IA A ((A m_held)) ((A m_left)) ((A m_said)) ((A m_slots)) = A') := by
  refine Cm.of (by decide) (Nat.le_of_ble_eq_true rfl) rfl ?_
  show V G MX8_doItem (am_R 1 22 0 0) _ 0 0 0 [(0, .ref mM), (1, .int (nI ba)), (2, .int (nI i))] [] (hp I A)
  refine V.iload_n (j := 1) rfl dX8_doItem_0 ?_
  refine V.iconst (v := nI 4) (by decide) dX8_doItem_1 ?_
  refine V.iload_n (j := 2) rfl dX8_doItem_2 ?_
  refine V.imulN dX8_doItem_3 ?_
  refine V.iaddN dX8_doItem_4 ?_
  refine V.istore_n (ls' := [(0, .ref mM), (1, .int (nI ba)), (2, .int (nI i)), (3, .int (nI (ba + (4 * i))))]) dX8_doItem_5 (by decide) rfl ?_
  refine V.aload_n (j := 0) rfl dX8_doItem_6 ?_
  refine V.getr (q := m_code) dX8_doItem_7 fX8_49 rfl rfl ?_
  refine V.iload_n (j := 3) rfl dX8_doItem_10 ?_
  refine V.iconst (v := nI 1) (by decide) dX8_doItem_11 ?_
  refine V.iaddN dX8_doItem_12 ?_
  refine V.lda (v := nI x) dX8_doItem_13 rfl (by omega) (by decide) ex ?_
  refine V.istore (ls' := [(0, .ref mM), (1, .int (nI ba)), (2, .int (nI i)), (3, .int (nI (ba + (4 * i)))), (4, .int (nI x))]) dX8_doItem_14 (by decide) rfl ?_
  refine V.aload_n (j := 0) rfl dX8_doItem_16 ?_
  refine V.getr (q := m_code) dX8_doItem_17 fX8_49 rfl rfl ?_
  refine V.iload_n (j := 3) rfl dX8_doItem_20 ?_
  refine V.iconst (v := nI 2) (by decide) dX8_doItem_21 ?_
  refine V.iaddN dX8_doItem_22 ?_
  refine V.lda (v := nI y) dX8_doItem_23 rfl (by omega) (by decide) ey ?_
  refine V.istore (ls' := [(0, .ref mM), (1, .int (nI ba)), (2, .int (nI i)), (3, .int (nI (ba + (4 * i)))), (4, .int (nI x)), (5, .int (nI y))]) dX8_doItem_24 (by decide) rfl ?_
  refine V.aload_n (j := 0) rfl dX8_doItem_26 ?_
  refine V.getr (q := m_code) dX8_doItem_27 fX8_49 rfl rfl ?_
  refine V.iload_n (j := 3) rfl dX8_doItem_30 ?_
  refine V.iconst (v := nI 3) (by decide) dX8_doItem_31 ?_
  refine V.iaddN dX8_doItem_32 ?_
  refine V.lda (v := nI z) dX8_doItem_33 rfl (by omega) (by decide) ez ?_
  refine V.istore (ls' := [(0, .ref mM), (1, .int (nI ba)), (2, .int (nI i)), (3, .int (nI (ba + (4 * i)))), (4, .int (nI x)), (5, .int (nI y)), (6, .int (nI z))]) dX8_doItem_34 (by decide) rfl ?_
  refine V.aload_n (j := 0) rfl dX8_doItem_36 ?_
  refine V.getr (q := m_code) dX8_doItem_37 fX8_49 rfl rfl ?_
  refine V.iload_n (j := 3) rfl dX8_doItem_40 ?_
  refine V.lda (v := nI 7) dX8_doItem_41 rfl (by omega) (by decide) ek ?_
  refine V.tableIn (tgt := 226) dX8_doItem_42 (by decide) (by decide) rfl (by decide) ?_
  refine V.aload_n (j := 0) rfl dX8_doItem_226 ?_
  refine V.getr (q := m_held) dX8_doItem_227 fX8_64 rfl rfl ?_
  refine V.iload (j := 4) rfl dX8_doItem_230 ?_
  refine V.lda (v := A m_held x) dX8_doItem_232 rfl (by omega) (by decide) rfl ?_
  refine V.aload_n (j := 0) rfl dX8_doItem_233 ?_
  refine V.getr (q := m_held) dX8_doItem_234 fX8_64 rfl rfl ?_
  refine V.iload (j := 5) rfl dX8_doItem_237 ?_
  refine V.lda (v := A m_held y) dX8_doItem_239 rfl (by omega) (by decide) rfl ?_
  refine V.icmp_ge (tgt := 248) dX8_doItem_240 (by decide) (fun c1 => ?_) (fun c1 => ?_)
  · refine V.iload_n (j := 2) rfl dX8_doItem_248 ?_
    refine V.iconst (v := nI 1) (by decide) dX8_doItem_249 ?_
    refine V.iaddN dX8_doItem_250 ?_
    refine V.ri dX8_doItem_251 rfl ?_
    exact ⟨by rw [if_pos c1], by rw [← ht, upI_i], mz_IA_i⟩
  · refine V.iload (j := 6) rfl dX8_doItem_243 ?_
    refine V.goto (tgt := 251) dX8_doItem_245 (by decide) ?_
    refine V.ri dX8_doItem_251 rfl ?_
    exact ⟨by rw [if_neg c1], by rw [← ht, upI_i], mz_IA_i⟩
set_option maxRecDepth 100000 in
set_option maxHeartbeats 4000000 in
theorem md_doItem8 {G : am_G} (I A : Nat → Nat → Int32) (ba i : Nat) (hba : ba ≤ 1600) (hi : i < 390) (t : Nat) (ht : I mM 19 = nI t) (ht2 : t < 4000) (ek : A m_code (ba + 4 * i) = nI 8) (x : Nat) (hx : x < 401) (ex : A m_code (ba + 4 * i + 1) = nI x) : Cm G MX8_doItem 1 22 [.ref mM, .int (nI ba), .int (nI i)] I A (fun r I' A' => r = some (.int (nI (x))) ∧ upI I mM 19 (nI (t)) = I' ∧ mz_IA A ((A m_held)) ((A m_left)) ((A m_said)) ((A m_slots)) = A') := by
  refine Cm.of (by decide) (Nat.le_of_ble_eq_true rfl) rfl ?_
  show V G MX8_doItem (am_R 1 22 0 0) _ 0 0 0 [(0, .ref mM), (1, .int (nI ba)), (2, .int (nI i))] [] (hp I A)
  refine V.iload_n (j := 1) rfl dX8_doItem_0 ?_
  refine V.iconst (v := nI 4) (by decide) dX8_doItem_1 ?_
  refine V.iload_n (j := 2) rfl dX8_doItem_2 ?_
  refine V.imulN dX8_doItem_3 ?_
  refine V.iaddN dX8_doItem_4 ?_
  refine V.istore_n (ls' := [(0, .ref mM), (1, .int (nI ba)), (2, .int (nI i)), (3, .int (nI (ba + (4 * i))))]) dX8_doItem_5 (by decide) rfl ?_
  refine V.aload_n (j := 0) rfl dX8_doItem_6 ?_
  refine V.getr (q := m_code) dX8_doItem_7 fX8_49 rfl rfl ?_
  refine V.iload_n (j := 3) rfl dX8_doItem_10 ?_
  refine V.iconst (v := nI 1) (by decide) dX8_doItem_11 ?_
  refine V.iaddN dX8_doItem_12 ?_
  refine V.lda (v := nI x) dX8_doItem_13 rfl (by omega) (by decide) ex ?_
  refine V.istore (ls' := [(0, .ref mM), (1, .int (nI ba)), (2, .int (nI i)), (3, .int (nI (ba + (4 * i)))), (4, .int (nI x))]) dX8_doItem_14 (by decide) rfl ?_
  refine V.aload_n (j := 0) rfl dX8_doItem_16 ?_
  refine V.getr (q := m_code) dX8_doItem_17 fX8_49 rfl rfl ?_
  refine V.iload_n (j := 3) rfl dX8_doItem_20 ?_
  refine V.iconst (v := nI 2) (by decide) dX8_doItem_21 ?_
  refine V.iaddN dX8_doItem_22 ?_
  refine V.lda (v := A m_code ((ba + (4 * i)) + 2)) dX8_doItem_23 rfl (by omega) (by decide) rfl ?_
  refine V.istore (ls' := [(0, .ref mM), (1, .int (nI ba)), (2, .int (nI i)), (3, .int (nI (ba + (4 * i)))), (4, .int (nI x)), (5, .int (A m_code ((ba + (4 * i)) + 2)))]) dX8_doItem_24 (by decide) rfl ?_
  refine V.aload_n (j := 0) rfl dX8_doItem_26 ?_
  refine V.getr (q := m_code) dX8_doItem_27 fX8_49 rfl rfl ?_
  refine V.iload_n (j := 3) rfl dX8_doItem_30 ?_
  refine V.iconst (v := nI 3) (by decide) dX8_doItem_31 ?_
  refine V.iaddN dX8_doItem_32 ?_
  refine V.lda (v := A m_code ((ba + (4 * i)) + 3)) dX8_doItem_33 rfl (by omega) (by decide) rfl ?_
  refine V.istore (ls' := [(0, .ref mM), (1, .int (nI ba)), (2, .int (nI i)), (3, .int (nI (ba + (4 * i)))), (4, .int (nI x)), (5, .int (A m_code ((ba + (4 * i)) + 2))), (6, .int (A m_code ((ba + (4 * i)) + 3)))]) dX8_doItem_34 (by decide) rfl ?_
  refine V.aload_n (j := 0) rfl dX8_doItem_36 ?_
  refine V.getr (q := m_code) dX8_doItem_37 fX8_49 rfl rfl ?_
  refine V.iload_n (j := 3) rfl dX8_doItem_40 ?_
  refine V.lda (v := nI 8) dX8_doItem_41 rfl (by omega) (by decide) ek ?_
  refine V.tableIn (tgt := 252) dX8_doItem_42 (by decide) (by decide) rfl (by decide) ?_
  refine V.iload (j := 4) rfl dX8_doItem_252 ?_
  refine V.ri dX8_doItem_254 rfl ?_
  exact ⟨rfl, by rw [← ht, upI_i], mz_IA_i⟩
set_option maxRecDepth 100000 in
set_option maxHeartbeats 4000000 in
theorem md_doItem9 {G : am_G} (I A : Nat → Nat → Int32) (ba i : Nat) (hba : ba ≤ 1600) (hi : i < 390) (t : Nat) (ht : I mM 19 = nI t) (ht2 : t < 4000) (ek : A m_code (ba + 4 * i) = nI 9) (x : Nat) (hx : x < 32) (ex : A m_code (ba + 4 * i + 1) = nI x) : Cm G MX8_doItem 1 22 [.ref mM, .int (nI ba), .int (nI i)] I A (fun r I' A' => r = some (.int (nI (i + 1))) ∧ upI I mM 19 (nI (t + 1)) = I' ∧ mz_IA A ((A m_held)) ((A m_left)) (mz_sy t (A m_said) ((A m_held) x)) ((A m_slots)) = A') := by
  refine Cm.of (by decide) (Nat.le_of_ble_eq_true rfl) rfl ?_
  show V G MX8_doItem (am_R 1 22 0 0) _ 0 0 0 [(0, .ref mM), (1, .int (nI ba)), (2, .int (nI i))] [] (hp I A)
  refine V.iload_n (j := 1) rfl dX8_doItem_0 ?_
  refine V.iconst (v := nI 4) (by decide) dX8_doItem_1 ?_
  refine V.iload_n (j := 2) rfl dX8_doItem_2 ?_
  refine V.imulN dX8_doItem_3 ?_
  refine V.iaddN dX8_doItem_4 ?_
  refine V.istore_n (ls' := [(0, .ref mM), (1, .int (nI ba)), (2, .int (nI i)), (3, .int (nI (ba + (4 * i))))]) dX8_doItem_5 (by decide) rfl ?_
  refine V.aload_n (j := 0) rfl dX8_doItem_6 ?_
  refine V.getr (q := m_code) dX8_doItem_7 fX8_49 rfl rfl ?_
  refine V.iload_n (j := 3) rfl dX8_doItem_10 ?_
  refine V.iconst (v := nI 1) (by decide) dX8_doItem_11 ?_
  refine V.iaddN dX8_doItem_12 ?_
  refine V.lda (v := nI x) dX8_doItem_13 rfl (by omega) (by decide) ex ?_
  refine V.istore (ls' := [(0, .ref mM), (1, .int (nI ba)), (2, .int (nI i)), (3, .int (nI (ba + (4 * i)))), (4, .int (nI x))]) dX8_doItem_14 (by decide) rfl ?_
  refine V.aload_n (j := 0) rfl dX8_doItem_16 ?_
  refine V.getr (q := m_code) dX8_doItem_17 fX8_49 rfl rfl ?_
  refine V.iload_n (j := 3) rfl dX8_doItem_20 ?_
  refine V.iconst (v := nI 2) (by decide) dX8_doItem_21 ?_
  refine V.iaddN dX8_doItem_22 ?_
  refine V.lda (v := A m_code ((ba + (4 * i)) + 2)) dX8_doItem_23 rfl (by omega) (by decide) rfl ?_
  refine V.istore (ls' := [(0, .ref mM), (1, .int (nI ba)), (2, .int (nI i)), (3, .int (nI (ba + (4 * i)))), (4, .int (nI x)), (5, .int (A m_code ((ba + (4 * i)) + 2)))]) dX8_doItem_24 (by decide) rfl ?_
  refine V.aload_n (j := 0) rfl dX8_doItem_26 ?_
  refine V.getr (q := m_code) dX8_doItem_27 fX8_49 rfl rfl ?_
  refine V.iload_n (j := 3) rfl dX8_doItem_30 ?_
  refine V.iconst (v := nI 3) (by decide) dX8_doItem_31 ?_
  refine V.iaddN dX8_doItem_32 ?_
  refine V.lda (v := A m_code ((ba + (4 * i)) + 3)) dX8_doItem_33 rfl (by omega) (by decide) rfl ?_
  refine V.istore (ls' := [(0, .ref mM), (1, .int (nI ba)), (2, .int (nI i)), (3, .int (nI (ba + (4 * i)))), (4, .int (nI x)), (5, .int (A m_code ((ba + (4 * i)) + 2))), (6, .int (A m_code ((ba + (4 * i)) + 3)))]) dX8_doItem_34 (by decide) rfl ?_
  refine V.aload_n (j := 0) rfl dX8_doItem_36 ?_
  refine V.getr (q := m_code) dX8_doItem_37 fX8_49 rfl rfl ?_
  refine V.iload_n (j := 3) rfl dX8_doItem_40 ?_
  refine V.lda (v := nI 9) dX8_doItem_41 rfl (by omega) (by decide) ek ?_
  refine V.tableIn (tgt := 255) dX8_doItem_42 (by decide) (by decide) rfl (by decide) ?_
  refine V.aload_n (j := 0) rfl dX8_doItem_255 ?_
  refine V.aload_n (j := 0) rfl dX8_doItem_256 ?_
  refine V.getr (q := m_held) dX8_doItem_257 fX8_64 rfl rfl ?_
  refine V.iload (j := 4) rfl dX8_doItem_260 ?_
  refine V.lda (v := A m_held x) dX8_doItem_262 rfl (by omega) (by decide) rfl ?_
  refine V.cV (As := [.int (A m_held x)]) (st := []) dX8_doItem_263 sX8_182 iX8_say lX8_say rfl rfl (md_say I A t ht (by omega) _) ⟨by decide, by decide⟩ (Nat.le_of_ble_eq_true rfl) rfl (fun r I' A' hq => ?_)
  obtain ⟨rfl, rfl, rfl⟩ := hq
  refine V.st (st' := []) rfl ?_
  refine V.goto (tgt := 325) dX8_doItem_266 (by decide) ?_
  refine V.iload_n (j := 2) rfl dX8_doItem_325 ?_
  refine V.iconst (v := nI 1) (by decide) dX8_doItem_326 ?_
  refine V.iaddN dX8_doItem_327 ?_
  refine V.ri dX8_doItem_328 rfl ?_
  exact ⟨rfl, rfl, mz_IA_s⟩
set_option maxRecDepth 100000 in
set_option maxHeartbeats 4000000 in
theorem md_doItem10 {G : am_G} (I A : Nat → Nat → Int32) (ba i : Nat) (hba : ba ≤ 1600) (hi : i < 390) (t : Nat) (ht : I mM 19 = nI t) (ht2 : t < 4000) (ek : A m_code (ba + 4 * i) = nI 10)  : Cm G MX8_doItem 1 22 [.ref mM, .int (nI ba), .int (nI i)] I A (fun r I' A' => r = some (.int (nI (400))) ∧ upI I mM 19 (nI (t)) = I' ∧ mz_IA A ((A m_held)) ((A m_left)) ((A m_said)) ((A m_slots)) = A') := by
  refine Cm.of (by decide) (Nat.le_of_ble_eq_true rfl) rfl ?_
  show V G MX8_doItem (am_R 1 22 0 0) _ 0 0 0 [(0, .ref mM), (1, .int (nI ba)), (2, .int (nI i))] [] (hp I A)
  refine V.iload_n (j := 1) rfl dX8_doItem_0 ?_
  refine V.iconst (v := nI 4) (by decide) dX8_doItem_1 ?_
  refine V.iload_n (j := 2) rfl dX8_doItem_2 ?_
  refine V.imulN dX8_doItem_3 ?_
  refine V.iaddN dX8_doItem_4 ?_
  refine V.istore_n (ls' := [(0, .ref mM), (1, .int (nI ba)), (2, .int (nI i)), (3, .int (nI (ba + (4 * i))))]) dX8_doItem_5 (by decide) rfl ?_
  refine V.aload_n (j := 0) rfl dX8_doItem_6 ?_
  refine V.getr (q := m_code) dX8_doItem_7 fX8_49 rfl rfl ?_
  refine V.iload_n (j := 3) rfl dX8_doItem_10 ?_
  refine V.iconst (v := nI 1) (by decide) dX8_doItem_11 ?_
  refine V.iaddN dX8_doItem_12 ?_
  refine V.lda (v := A m_code ((ba + (4 * i)) + 1)) dX8_doItem_13 rfl (by omega) (by decide) rfl ?_
  refine V.istore (ls' := [(0, .ref mM), (1, .int (nI ba)), (2, .int (nI i)), (3, .int (nI (ba + (4 * i)))), (4, .int (A m_code ((ba + (4 * i)) + 1)))]) dX8_doItem_14 (by decide) rfl ?_
  refine V.aload_n (j := 0) rfl dX8_doItem_16 ?_
  refine V.getr (q := m_code) dX8_doItem_17 fX8_49 rfl rfl ?_
  refine V.iload_n (j := 3) rfl dX8_doItem_20 ?_
  refine V.iconst (v := nI 2) (by decide) dX8_doItem_21 ?_
  refine V.iaddN dX8_doItem_22 ?_
  refine V.lda (v := A m_code ((ba + (4 * i)) + 2)) dX8_doItem_23 rfl (by omega) (by decide) rfl ?_
  refine V.istore (ls' := [(0, .ref mM), (1, .int (nI ba)), (2, .int (nI i)), (3, .int (nI (ba + (4 * i)))), (4, .int (A m_code ((ba + (4 * i)) + 1))), (5, .int (A m_code ((ba + (4 * i)) + 2)))]) dX8_doItem_24 (by decide) rfl ?_
  refine V.aload_n (j := 0) rfl dX8_doItem_26 ?_
  refine V.getr (q := m_code) dX8_doItem_27 fX8_49 rfl rfl ?_
  refine V.iload_n (j := 3) rfl dX8_doItem_30 ?_
  refine V.iconst (v := nI 3) (by decide) dX8_doItem_31 ?_
  refine V.iaddN dX8_doItem_32 ?_
  refine V.lda (v := A m_code ((ba + (4 * i)) + 3)) dX8_doItem_33 rfl (by omega) (by decide) rfl ?_
  refine V.istore (ls' := [(0, .ref mM), (1, .int (nI ba)), (2, .int (nI i)), (3, .int (nI (ba + (4 * i)))), (4, .int (A m_code ((ba + (4 * i)) + 1))), (5, .int (A m_code ((ba + (4 * i)) + 2))), (6, .int (A m_code ((ba + (4 * i)) + 3)))]) dX8_doItem_34 (by decide) rfl ?_
  refine V.aload_n (j := 0) rfl dX8_doItem_36 ?_
  refine V.getr (q := m_code) dX8_doItem_37 fX8_49 rfl rfl ?_
  refine V.iload_n (j := 3) rfl dX8_doItem_40 ?_
  refine V.lda (v := nI 10) dX8_doItem_41 rfl (by omega) (by decide) ek ?_
  refine V.tableIn (tgt := 321) dX8_doItem_42 (by decide) (by decide) rfl (by decide) ?_
  refine V.sipush (v := nI 400) (by decide) dX8_doItem_321 ?_
  refine V.ri dX8_doItem_324 rfl ?_
  exact ⟨rfl, by rw [← ht, upI_i], mz_IA_i⟩
set_option maxRecDepth 100000 in
set_option maxHeartbeats 4000000 in
theorem md_doItem11 {G : am_G} (I A : Nat → Nat → Int32) (ba i : Nat) (hba : ba ≤ 1600) (hi : i < 390) (t : Nat) (ht : I mM 19 = nI t) (ht2 : t < 4000) (ek : A m_code (ba + 4 * i) = nI 11) (x : Nat) (hx : x < 32) (ex : A m_code (ba + 4 * i + 1) = nI x) (y : Nat) (hy : y < 32) (ey : A m_code (ba + 4 * i + 2) = nI y) : Cm G MX8_doItem 1 22 [.ref mM, .int (nI ba), .int (nI i)] I A (fun r I' A' => r = some (.int (nI (i + 1))) ∧ upI I mM 19 (nI (t)) = I' ∧ mz_IA A (upd (A m_held) x ((A m_slots) (32 * (x / 16) + y))) ((A m_left)) ((A m_said)) ((A m_slots)) = A') := by
  refine Cm.of (by decide) (Nat.le_of_ble_eq_true rfl) rfl ?_
  show V G MX8_doItem (am_R 1 22 0 0) _ 0 0 0 [(0, .ref mM), (1, .int (nI ba)), (2, .int (nI i))] [] (hp I A)
  refine V.iload_n (j := 1) rfl dX8_doItem_0 ?_
  refine V.iconst (v := nI 4) (by decide) dX8_doItem_1 ?_
  refine V.iload_n (j := 2) rfl dX8_doItem_2 ?_
  refine V.imulN dX8_doItem_3 ?_
  refine V.iaddN dX8_doItem_4 ?_
  refine V.istore_n (ls' := [(0, .ref mM), (1, .int (nI ba)), (2, .int (nI i)), (3, .int (nI (ba + (4 * i))))]) dX8_doItem_5 (by decide) rfl ?_
  refine V.aload_n (j := 0) rfl dX8_doItem_6 ?_
  refine V.getr (q := m_code) dX8_doItem_7 fX8_49 rfl rfl ?_
  refine V.iload_n (j := 3) rfl dX8_doItem_10 ?_
  refine V.iconst (v := nI 1) (by decide) dX8_doItem_11 ?_
  refine V.iaddN dX8_doItem_12 ?_
  refine V.lda (v := nI x) dX8_doItem_13 rfl (by omega) (by decide) ex ?_
  refine V.istore (ls' := [(0, .ref mM), (1, .int (nI ba)), (2, .int (nI i)), (3, .int (nI (ba + (4 * i)))), (4, .int (nI x))]) dX8_doItem_14 (by decide) rfl ?_
  refine V.aload_n (j := 0) rfl dX8_doItem_16 ?_
  refine V.getr (q := m_code) dX8_doItem_17 fX8_49 rfl rfl ?_
  refine V.iload_n (j := 3) rfl dX8_doItem_20 ?_
  refine V.iconst (v := nI 2) (by decide) dX8_doItem_21 ?_
  refine V.iaddN dX8_doItem_22 ?_
  refine V.lda (v := nI y) dX8_doItem_23 rfl (by omega) (by decide) ey ?_
  refine V.istore (ls' := [(0, .ref mM), (1, .int (nI ba)), (2, .int (nI i)), (3, .int (nI (ba + (4 * i)))), (4, .int (nI x)), (5, .int (nI y))]) dX8_doItem_24 (by decide) rfl ?_
  refine V.aload_n (j := 0) rfl dX8_doItem_26 ?_
  refine V.getr (q := m_code) dX8_doItem_27 fX8_49 rfl rfl ?_
  refine V.iload_n (j := 3) rfl dX8_doItem_30 ?_
  refine V.iconst (v := nI 3) (by decide) dX8_doItem_31 ?_
  refine V.iaddN dX8_doItem_32 ?_
  refine V.lda (v := A m_code ((ba + (4 * i)) + 3)) dX8_doItem_33 rfl (by omega) (by decide) rfl ?_
  refine V.istore (ls' := [(0, .ref mM), (1, .int (nI ba)), (2, .int (nI i)), (3, .int (nI (ba + (4 * i)))), (4, .int (nI x)), (5, .int (nI y)), (6, .int (A m_code ((ba + (4 * i)) + 3)))]) dX8_doItem_34 (by decide) rfl ?_
  refine V.aload_n (j := 0) rfl dX8_doItem_36 ?_
  refine V.getr (q := m_code) dX8_doItem_37 fX8_49 rfl rfl ?_
  refine V.iload_n (j := 3) rfl dX8_doItem_40 ?_
  refine V.lda (v := nI 11) dX8_doItem_41 rfl (by omega) (by decide) ek ?_
  refine V.tableIn (tgt := 269) dX8_doItem_42 (by decide) (by decide) rfl (by decide) ?_
  refine V.aload_n (j := 0) rfl dX8_doItem_269 ?_
  refine V.getr (q := m_held) dX8_doItem_270 fX8_64 rfl rfl ?_
  refine V.iload (j := 4) rfl dX8_doItem_273 ?_
  refine V.aload_n (j := 0) rfl dX8_doItem_275 ?_
  refine V.getr (q := m_slots) dX8_doItem_276 fX8_67 rfl rfl ?_
  refine V.bipush (v := nI 32) (by decide) dX8_doItem_279 ?_
  refine V.iload (j := 4) rfl dX8_doItem_281 ?_
  refine V.bipush (v := nI 16) (by decide) dX8_doItem_283 ?_
  refine V.idiv (by decide) dX8_doItem_285 ?_
  refine V.imul dX8_doItem_286 ?_
  refine V.iload (j := 5) rfl dX8_doItem_287 ?_
  refine V.iadd dX8_doItem_289 ?_
  refine V.st (st' := [.int (nI (32 * (x / 16) + y)), .ref m_slots, .int (nI x), .ref m_held]) (by rw [mz_sl_e (by omega) (by omega)]) ?_
  refine V.lda (v := A m_slots (32 * (x / 16) + y)) dX8_doItem_290 rfl (by omega) (by decide) rfl ?_
  refine V.sta (g := upd (A m_held) x (A m_slots (32 * (x / 16) + y))) dX8_doItem_291 rfl (by omega) (by decide) rfl ?_
  refine V.goto (tgt := 325) dX8_doItem_292 (by decide) ?_
  refine V.iload_n (j := 2) rfl dX8_doItem_325 ?_
  refine V.iconst (v := nI 1) (by decide) dX8_doItem_326 ?_
  refine V.iaddN dX8_doItem_327 ?_
  refine V.ri dX8_doItem_328 rfl ?_
  exact ⟨rfl, by rw [← ht, upI_i], mz_IA_h⟩
set_option maxRecDepth 100000 in
set_option maxHeartbeats 4000000 in
theorem md_doItem12 {G : am_G} (I A : Nat → Nat → Int32) (ba i : Nat) (hba : ba ≤ 1600) (hi : i < 390) (t : Nat) (ht : I mM 19 = nI t) (ht2 : t < 4000) (ek : A m_code (ba + 4 * i) = nI 12) (x : Nat) (hx : x < 32) (ex : A m_code (ba + 4 * i + 1) = nI x) (y : Nat) (hy : y < 32) (ey : A m_code (ba + 4 * i + 2) = nI y) : Cm G MX8_doItem 1 22 [.ref mM, .int (nI ba), .int (nI i)] I A (fun r I' A' => r = some (.int (nI (i + 1))) ∧ upI I mM 19 (nI (t)) = I' ∧ mz_IA A ((A m_held)) ((A m_left)) ((A m_said)) (upd (A m_slots) (32 * (x / 16) + y) ((A m_held) x)) = A') := by
  refine Cm.of (by decide) (Nat.le_of_ble_eq_true rfl) rfl ?_
  show V G MX8_doItem (am_R 1 22 0 0) _ 0 0 0 [(0, .ref mM), (1, .int (nI ba)), (2, .int (nI i))] [] (hp I A)
  refine V.iload_n (j := 1) rfl dX8_doItem_0 ?_
  refine V.iconst (v := nI 4) (by decide) dX8_doItem_1 ?_
  refine V.iload_n (j := 2) rfl dX8_doItem_2 ?_
  refine V.imulN dX8_doItem_3 ?_
  refine V.iaddN dX8_doItem_4 ?_
  refine V.istore_n (ls' := [(0, .ref mM), (1, .int (nI ba)), (2, .int (nI i)), (3, .int (nI (ba + (4 * i))))]) dX8_doItem_5 (by decide) rfl ?_
  refine V.aload_n (j := 0) rfl dX8_doItem_6 ?_
  refine V.getr (q := m_code) dX8_doItem_7 fX8_49 rfl rfl ?_
  refine V.iload_n (j := 3) rfl dX8_doItem_10 ?_
  refine V.iconst (v := nI 1) (by decide) dX8_doItem_11 ?_
  refine V.iaddN dX8_doItem_12 ?_
  refine V.lda (v := nI x) dX8_doItem_13 rfl (by omega) (by decide) ex ?_
  refine V.istore (ls' := [(0, .ref mM), (1, .int (nI ba)), (2, .int (nI i)), (3, .int (nI (ba + (4 * i)))), (4, .int (nI x))]) dX8_doItem_14 (by decide) rfl ?_
  refine V.aload_n (j := 0) rfl dX8_doItem_16 ?_
  refine V.getr (q := m_code) dX8_doItem_17 fX8_49 rfl rfl ?_
  refine V.iload_n (j := 3) rfl dX8_doItem_20 ?_
  refine V.iconst (v := nI 2) (by decide) dX8_doItem_21 ?_
  refine V.iaddN dX8_doItem_22 ?_
  refine V.lda (v := nI y) dX8_doItem_23 rfl (by omega) (by decide) ey ?_
  refine V.istore (ls' := [(0, .ref mM), (1, .int (nI ba)), (2, .int (nI i)), (3, .int (nI (ba + (4 * i)))), (4, .int (nI x)), (5, .int (nI y))]) dX8_doItem_24 (by decide) rfl ?_
  refine V.aload_n (j := 0) rfl dX8_doItem_26 ?_
  refine V.getr (q := m_code) dX8_doItem_27 fX8_49 rfl rfl ?_
  refine V.iload_n (j := 3) rfl dX8_doItem_30 ?_
  refine V.iconst (v := nI 3) (by decide) dX8_doItem_31 ?_
  refine V.iaddN dX8_doItem_32 ?_
  refine V.lda (v := A m_code ((ba + (4 * i)) + 3)) dX8_doItem_33 rfl (by omega) (by decide) rfl ?_
  refine V.istore (ls' := [(0, .ref mM), (1, .int (nI ba)), (2, .int (nI i)), (3, .int (nI (ba + (4 * i)))), (4, .int (nI x)), (5, .int (nI y)), (6, .int (A m_code ((ba + (4 * i)) + 3)))]) dX8_doItem_34 (by decide) rfl ?_
  refine V.aload_n (j := 0) rfl dX8_doItem_36 ?_
  refine V.getr (q := m_code) dX8_doItem_37 fX8_49 rfl rfl ?_
  refine V.iload_n (j := 3) rfl dX8_doItem_40 ?_
  refine V.lda (v := nI 12) dX8_doItem_41 rfl (by omega) (by decide) ek ?_
  refine V.tableIn (tgt := 295) dX8_doItem_42 (by decide) (by decide) rfl (by decide) ?_
  refine V.aload_n (j := 0) rfl dX8_doItem_295 ?_
  refine V.getr (q := m_slots) dX8_doItem_296 fX8_67 rfl rfl ?_
  refine V.bipush (v := nI 32) (by decide) dX8_doItem_299 ?_
  refine V.iload (j := 4) rfl dX8_doItem_301 ?_
  refine V.bipush (v := nI 16) (by decide) dX8_doItem_303 ?_
  refine V.idiv (by decide) dX8_doItem_305 ?_
  refine V.imul dX8_doItem_306 ?_
  refine V.iload (j := 5) rfl dX8_doItem_307 ?_
  refine V.iadd dX8_doItem_309 ?_
  refine V.st (st' := [.int (nI (32 * (x / 16) + y)), .ref m_slots]) (by rw [mz_sl_e (by omega) (by omega)]) ?_
  refine V.aload_n (j := 0) rfl dX8_doItem_310 ?_
  refine V.getr (q := m_held) dX8_doItem_311 fX8_64 rfl rfl ?_
  refine V.iload (j := 4) rfl dX8_doItem_314 ?_
  refine V.lda (v := A m_held x) dX8_doItem_316 rfl (by omega) (by decide) rfl ?_
  refine V.sta (g := upd (A m_slots) (32 * (x / 16) + y) (A m_held x)) dX8_doItem_317 rfl (by omega) (by decide) rfl ?_
  refine V.goto (tgt := 325) dX8_doItem_318 (by decide) ?_
  refine V.iload_n (j := 2) rfl dX8_doItem_325 ?_
  refine V.iconst (v := nI 1) (by decide) dX8_doItem_326 ?_
  refine V.iaddN dX8_doItem_327 ?_
  refine V.ri dX8_doItem_328 rfl ?_
  exact ⟨rfl, by rw [← ht, upI_i], mz_IA_k⟩
