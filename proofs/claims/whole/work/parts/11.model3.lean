set_option maxRecDepth 100000 in
set_option maxHeartbeats 4000000 in
theorem md_isV {G : am_G} (I A : Nat → Nat → Int32) (nv : Nat) (hn : I mM 0 = nI nv) (v : Int32) : Cm G MX8_isValue 0 0 [.ref mM, .int v] I A (fun r I' A' => r = some (.int (bI (mz_isV (nI nv) v))) ∧ I = I' ∧ A = A') := by
  refine Cm.of (by decide) (Nat.le_of_ble_eq_true rfl) rfl ?_
  show V G MX8_isValue (am_R 0 0 0 0) _ 0 0 0 [(0, .ref mM), (1, .int v)] [] (hp I A)
  refine V.iload_n (j := 1) rfl dX8_isValue_0 ?_
  refine V.if_lt (tgt := 16) dX8_isValue_1 (by decide) (fun c1 => ?_) (fun c1 => ?_)
  · refine V.iconst (v := nI 0) (by decide) dX8_isValue_16 ?_
    refine V.rz dX8_isValue_17 rfl (by decide) ?_
    exact ⟨by first | exact am_s1 (by simp_all [mz_isV]) | exact am_s0 (by simp_all [mz_isV]), rfl, rfl⟩
  · refine V.iload_n (j := 1) rfl dX8_isValue_4 ?_
    refine V.aload_n (j := 0) rfl dX8_isValue_5 ?_
    refine V.geti (v := nI nv) dX8_isValue_6 fX8_79 rfl rfl hn ?_
    refine V.icmp_ge (tgt := 16) dX8_isValue_9 (by decide) (fun c2 => ?_) (fun c2 => ?_)
    · refine V.iconst (v := nI 0) (by decide) dX8_isValue_16 ?_
      refine V.rz dX8_isValue_17 rfl (by decide) ?_
      exact ⟨by first | exact am_s1 (by simp_all [mz_isV]) | exact am_s0 (by simp_all [mz_isV]), rfl, rfl⟩
    · refine V.iconst (v := nI 1) (by decide) dX8_isValue_12 ?_
      refine V.goto (tgt := 17) dX8_isValue_13 (by decide) ?_
      refine V.rz dX8_isValue_17 rfl (by decide) ?_
      exact ⟨by first | exact am_s1 (by simp_all [mz_isV]) | exact am_s0 (by simp_all [mz_isV]), rfl, rfl⟩
def mz_vOK (nv : Nat) (c : Int32) : Prop := ¬ c < 0 ∧ ¬ nI 1 < c ∧ ¬ nv = 24
set_option maxRecDepth 100000 in
set_option maxHeartbeats 4000000 in
theorem md_value {G : am_G} (I A : Nat → Nat → Int32) (nv : Nat) (hn : I mM 0 = nI nv) (hv : nv ≤ 24) (c : Int32) : Cm G MX8_value 0 0 [.ref mM, .int c] I A (fun r I' A' => (mz_vOK nv c → r = some (.int (nI nv)) ∧ upI I mM 0 (nI (nv + 1)) = I' ∧ upA A m_classes (upd (A m_classes) nv c) = A') ∧ (¬ mz_vOK nv c → r = some (.int (-1)) ∧ I = I' ∧ A = A')) := by
  refine Cm.of (by decide) (Nat.le_of_ble_eq_true rfl) rfl ?_
  show V G MX8_value (am_R 0 0 0 0) _ 0 0 0 [(0, .ref mM), (1, .int c)] [] (hp I A)
  refine V.iload_n (j := 1) rfl dX8_value_0 ?_
  refine V.if_lt (tgt := 18) dX8_value_1 (by decide) (fun c1 => ?_) (fun c1 => ?_)
  · refine V.iconst (v := (-1)) (by decide) dX8_value_18 ?_
    refine V.ri dX8_value_19 rfl ?_
    exact ⟨fun z => by obtain ⟨z1, z2, z3⟩ := z; contradiction, fun _ => ⟨rfl, rfl, rfl⟩⟩
  · refine V.iload_n (j := 1) rfl dX8_value_4 ?_
    refine V.iconst (v := nI 1) (by decide) dX8_value_5 ?_
    refine V.icmp_gt (tgt := 18) dX8_value_6 (by decide) (fun c2 => ?_) (fun c2 => ?_)
    · refine V.iconst (v := (-1)) (by decide) dX8_value_18 ?_
      refine V.ri dX8_value_19 rfl ?_
      exact ⟨fun z => by obtain ⟨z1, z2, z3⟩ := z; contradiction, fun _ => ⟨rfl, rfl, rfl⟩⟩
    · refine V.aload_n (j := 0) rfl dX8_value_9 ?_
      refine V.geti (v := nI nv) dX8_value_10 fX8_79 rfl rfl hn ?_
      refine V.bipush (v := nI 24) (by decide) dX8_value_13 ?_
      refine V.icmp_neN (tgt := 20) dX8_value_15 (by decide) (by omega) (by omega) (fun c3 => ?_) (fun c3 => ?_)
      · refine V.aload_n (j := 0) rfl dX8_value_20 ?_
        refine V.getr (q := m_classes) dX8_value_21 fX8_7 rfl rfl ?_
        refine V.aload_n (j := 0) rfl dX8_value_24 ?_
        refine V.geti (v := nI nv) dX8_value_25 fX8_79 rfl rfl hn ?_
        refine V.iload_n (j := 1) rfl dX8_value_28 ?_
        refine V.sta (g := upd (A m_classes) nv (c)) dX8_value_29 rfl (by omega) (by decide) rfl ?_
        refine V.aload_n (j := 0) rfl dX8_value_30 ?_
        refine V.dup rfl dX8_value_31 ?_
        refine V.geti (v := nI nv) dX8_value_32 fX8_79 rfl rfl hn ?_
        refine V.iconst (v := nI 1) (by decide) dX8_value_35 ?_
        refine V.iaddN dX8_value_36 ?_
        refine V.puti dX8_value_37 pX8_79 rfl rfl ?_
        refine V.aload_n (j := 0) rfl dX8_value_40 ?_
        refine V.geti (v := nI (nv + 1)) dX8_value_41 fX8_79 rfl rfl rfl ?_
        refine V.iconst (v := nI 1) (by decide) dX8_value_44 ?_
        refine V.isubN dX8_value_45 (by omega) ?_
        refine V.st (st' := [.int (nI nv)]) rfl ?_
        refine V.ri dX8_value_46 rfl ?_
        exact ⟨fun _ => ⟨by simp, rfl, rfl⟩, fun z => absurd ⟨c1, c2, c3⟩ z⟩
      · refine V.iconst (v := (-1)) (by decide) dX8_value_18 ?_
        refine V.ri dX8_value_19 rfl ?_
        exact ⟨fun z => by obtain ⟨z1, z2, z3⟩ := z; contradiction, fun _ => ⟨rfl, rfl, rfl⟩⟩
def mz_rOK (c m : Int32) : Prop := ¬ c < 0 ∧ ¬ nI 1 < c ∧ ¬ m < 0 ∧ m ≤ nI 8
set_option maxRecDepth 100000 in
set_option maxHeartbeats 4000000 in
theorem md_registers {G : am_G} (I A : Nat → Nat → Int32) (c m : Int32) : Cm G MX8_registers 0 0 [.ref mM, .int c, .int m] I A (fun r I' A' => (mz_rOK c m → r = some (.int 1) ∧ I = I' ∧ upA A m_registers (upd (A m_registers) c.toNatClampNeg m) = A') ∧ (¬ mz_rOK c m → r = some (.int 0) ∧ I = I' ∧ A = A')) := by
  refine Cm.of (by decide) (Nat.le_of_ble_eq_true rfl) rfl ?_
  show V G MX8_registers (am_R 0 0 0 0) _ 0 0 0 [(0, .ref mM), (1, .int c), (2, .int m)] [] (hp I A)
  refine V.iload_n (j := 1) rfl dX8_registers_0 ?_
  refine V.if_lt (tgt := 19) dX8_registers_1 (by decide) (fun c1 => ?_) (fun c1 => ?_)
  · refine V.iconst (v := nI 0) (by decide) dX8_registers_19 ?_
    refine V.ri dX8_registers_20 rfl ?_
    exact ⟨fun z => by obtain ⟨z1, z2, z3, z4⟩ := z; contradiction, fun _ => ⟨rfl, rfl, rfl⟩⟩
  · refine V.iload_n (j := 1) rfl dX8_registers_4 ?_
    refine V.iconst (v := nI 1) (by decide) dX8_registers_5 ?_
    refine V.icmp_gt (tgt := 19) dX8_registers_6 (by decide) (fun c2 => ?_) (fun c2 => ?_)
    · refine V.iconst (v := nI 0) (by decide) dX8_registers_19 ?_
      refine V.ri dX8_registers_20 rfl ?_
      exact ⟨fun z => by obtain ⟨z1, z2, z3, z4⟩ := z; contradiction, fun _ => ⟨rfl, rfl, rfl⟩⟩
    · refine V.iload_n (j := 2) rfl dX8_registers_9 ?_
      refine V.if_lt (tgt := 19) dX8_registers_10 (by decide) (fun c3 => ?_) (fun c3 => ?_)
      · refine V.iconst (v := nI 0) (by decide) dX8_registers_19 ?_
        refine V.ri dX8_registers_20 rfl ?_
        exact ⟨fun z => by obtain ⟨z1, z2, z3, z4⟩ := z; contradiction, fun _ => ⟨rfl, rfl, rfl⟩⟩
      · refine V.iload_n (j := 2) rfl dX8_registers_13 ?_
        refine V.bipush (v := nI 8) (by decide) dX8_registers_14 ?_
        refine V.icmp_le (tgt := 21) dX8_registers_16 (by decide) (fun c4 => ?_) (fun c4 => ?_)
        · obtain ⟨j, hj, rfl⟩ := mz_ngt (nv := 1) (by decide) c1 c2
          refine V.aload_n (j := 0) rfl dX8_registers_21 ?_
          refine V.getr (q := m_registers) dX8_registers_22 fX8_25 rfl rfl ?_
          refine V.iload_n (j := 1) rfl dX8_registers_25 ?_
          refine V.iload_n (j := 2) rfl dX8_registers_26 ?_
          refine V.sta (g := upd (A m_registers) j (m)) dX8_registers_27 rfl (by omega) (by decide) rfl ?_
          refine V.iconst (v := nI 1) (by decide) dX8_registers_28 ?_
          refine V.ri dX8_registers_29 rfl ?_
          exact ⟨fun _ => ⟨rfl, rfl, by rw [nI_clamp (by omega)]⟩, fun z => absurd ⟨c1, c2, c3, c4⟩ z⟩
        · refine V.iconst (v := nI 0) (by decide) dX8_registers_19 ?_
          refine V.ri dX8_registers_20 rfl ?_
          exact ⟨fun z => by obtain ⟨z1, z2, z3, z4⟩ := z; contradiction, fun _ => ⟨rfl, rfl, rfl⟩⟩
/-- what stands at a place of a row of n, 0 where there is none such -/
def mz_get (n : Nat) (f : Nat → Int32) (k : Int32) : Int32 := if ¬ k < 0 ∧ k < nI n then f k.toNatClampNeg else 0
theorem mz_get_in {n j : Nat} {f : Nat → Int32} (hn : n < 2 ^ 31) (hj : j < n) : mz_get n f (nI j) = f j := by
  unfold mz_get
  rw [if_pos ⟨nI_pos (by omega), (nI_ltI (by omega) hn).mpr hj⟩, nI_clamp (by omega)]
set_option maxRecDepth 100000 in
set_option maxHeartbeats 4000000 in
theorem md_cell {G : am_G} (I A : Nat → Nat → Int32) (k : Int32) : Cm G MX8_cell 0 0 [.ref mM, .int k] I A (fun r I' A' => r = some (.int (mz_get 64 (A m_left) k)) ∧ I = I' ∧ A = A') := by
  refine Cm.of (by decide) (Nat.le_of_ble_eq_true rfl) rfl ?_
  show V G MX8_cell (am_R 0 0 0 0) _ 0 0 0 [(0, .ref mM), (1, .int k)] [] (hp I A)
  refine V.iload_n (j := 1) rfl dX8_cell_0 ?_
  refine V.if_lt (tgt := 10) dX8_cell_1 (by decide) (fun c1 => ?_) (fun c1 => ?_)
  · refine V.iconst (v := nI 0) (by decide) dX8_cell_10 ?_
    refine V.goto (tgt := 20) dX8_cell_11 (by decide) ?_
    refine V.ri dX8_cell_20 rfl ?_
    exact ⟨by first | rw [mz_get_in (by decide) hj] | (rw [mz_get, if_neg (by simp_all)]; rfl), rfl, rfl⟩
  · refine V.iload_n (j := 1) rfl dX8_cell_4 ?_
    refine V.bipush (v := nI 64) (by decide) dX8_cell_5 ?_
    refine V.icmp_lt (tgt := 14) dX8_cell_7 (by decide) (fun c2 => ?_) (fun c2 => ?_)
    · obtain ⟨j, hj, rfl⟩ := mz_lt (nv := 64) (by decide) c1 c2
      refine V.aload_n (j := 0) rfl dX8_cell_14 ?_
      refine V.getr (q := m_left) dX8_cell_15 fX8_61 rfl rfl ?_
      refine V.iload_n (j := 1) rfl dX8_cell_18 ?_
      refine V.lda (v := A m_left j) dX8_cell_19 rfl (by omega) (by decide) rfl ?_
      refine V.ri dX8_cell_20 rfl ?_
      exact ⟨by first | rw [mz_get_in (by decide) hj] | (rw [mz_get, if_neg (by simp_all)]; rfl), rfl, rfl⟩
    · refine V.iconst (v := nI 0) (by decide) dX8_cell_10 ?_
      refine V.goto (tgt := 20) dX8_cell_11 (by decide) ?_
      refine V.ri dX8_cell_20 rfl ?_
      exact ⟨by first | rw [mz_get_in (by decide) hj] | (rw [mz_get, if_neg (by simp_all)]; rfl), rfl, rfl⟩
set_option maxRecDepth 100000 in
set_option maxHeartbeats 4000000 in
theorem md_said {G : am_G} (I A : Nat → Nat → Int32) (k : Int32) : Cm G MX8_said 0 0 [.ref mM, .int k] I A (fun r I' A' => r = some (.int (if I mM 19 ≤ k then 0 else mz_get 50 (A m_said) k)) ∧ I = I' ∧ A = A') := by
  refine Cm.of (by decide) (Nat.le_of_ble_eq_true rfl) rfl ?_
  show V G MX8_said (am_R 0 0 0 0) _ 0 0 0 [(0, .ref mM), (1, .int k)] [] (hp I A)
  refine V.iload_n (j := 1) rfl dX8_said_0 ?_
  refine V.if_lt (tgt := 18) dX8_said_1 (by decide) (fun c1 => ?_) (fun c1 => ?_)
  · refine V.iconst (v := nI 0) (by decide) dX8_said_18 ?_
    refine V.goto (tgt := 28) dX8_said_19 (by decide) ?_
    refine V.ri dX8_said_28 rfl ?_
    exact ⟨by (try split) <;> first | rfl | (rw [mz_get, if_neg (by simp_all)]; rfl), rfl, rfl⟩
  · refine V.iload_n (j := 1) rfl dX8_said_4 ?_
    refine V.aload_n (j := 0) rfl dX8_said_5 ?_
    refine V.geti (v := I mM 19) dX8_said_6 fX8_175 rfl rfl rfl ?_
    refine V.icmp_ge (tgt := 18) dX8_said_9 (by decide) (fun c2 => ?_) (fun c2 => ?_)
    · refine V.iconst (v := nI 0) (by decide) dX8_said_18 ?_
      refine V.goto (tgt := 28) dX8_said_19 (by decide) ?_
      refine V.ri dX8_said_28 rfl ?_
      exact ⟨by (try split) <;> first | rfl | (rw [mz_get, if_neg (by simp_all)]; rfl), rfl, rfl⟩
    · refine V.iload_n (j := 1) rfl dX8_said_12 ?_
      refine V.bipush (v := nI 50) (by decide) dX8_said_13 ?_
      refine V.icmp_lt (tgt := 22) dX8_said_15 (by decide) (fun c3 => ?_) (fun c3 => ?_)
      · obtain ⟨j, hj, rfl⟩ := mz_lt (nv := 50) (by decide) c1 c3
        refine V.aload_n (j := 0) rfl dX8_said_22 ?_
        refine V.getr (q := m_said) dX8_said_23 fX8_58 rfl rfl ?_
        refine V.iload_n (j := 1) rfl dX8_said_26 ?_
        refine V.lda (v := A m_said j) dX8_said_27 rfl (by omega) (by decide) rfl ?_
        refine V.ri dX8_said_28 rfl ?_
        exact ⟨by rw [if_neg c2, mz_get_in (by decide) hj], rfl, rfl⟩
      · refine V.iconst (v := nI 0) (by decide) dX8_said_18 ?_
        refine V.goto (tgt := 28) dX8_said_19 (by decide) ?_
        refine V.ri dX8_said_28 rfl ?_
        exact ⟨by (try split) <;> first | rfl | (rw [mz_get, if_neg (by simp_all)]; rfl), rfl, rfl⟩
def mz_isO (nv : Nat) (cl : Nat → Int32) (v c : Int32) : Prop := mz_isV (nI nv) v ∧ cl v.toNatClampNeg = c
set_option maxRecDepth 100000 in
set_option maxHeartbeats 4000000 in
theorem md_isOf {G : am_G} (I A : Nat → Nat → Int32) (nv : Nat) (hn : I mM 0 = nI nv) (hv : nv ≤ 24) (v c : Int32) : Cm G MX8_isOf 1 21 [.ref mM, .int v, .int c] I A (fun r I' A' => r = some (.int (bI (mz_isO nv (A m_classes) v c))) ∧ I = I' ∧ A = A') := by
  refine Cm.of (by decide) (Nat.le_of_ble_eq_true rfl) rfl ?_
  show V G MX8_isOf (am_R 1 21 0 0) _ 0 0 0 [(0, .ref mM), (1, .int v), (2, .int c)] [] (hp I A)
  refine V.aload_n (j := 0) rfl dX8_isOf_0 ?_
  refine V.iload_n (j := 1) rfl dX8_isOf_1 ?_
  refine V.cV (As := [.int v]) (st := []) dX8_isOf_2 sX8_83 iX8_isValue lX8_isValue rfl rfl (md_isV I A nv hn _) ⟨by decide, by decide⟩ (Nat.le_of_ble_eq_true rfl) rfl (fun r I' A' hq => ?_)
  obtain ⟨rfl, rfl, rfl⟩ := hq
  by_cases b1 : mz_isV (nI nv) (v)
  · refine V.st (st' := [.int (nI 1)]) (by rw [bI_t b1]; rfl) ?_
    obtain ⟨j, hj, rfl⟩ := mz_nat (by omega) b1
    refine V.if_eq (tgt := 22) dX8_isOf_5 (by decide) (fun z => absurd z (by decide)) (fun _ => ?_)
    refine V.aload_n (j := 0) rfl dX8_isOf_8 ?_
    refine V.getr (q := m_classes) dX8_isOf_9 fX8_7 rfl rfl ?_
    refine V.iload_n (j := 1) rfl dX8_isOf_12 ?_
    refine V.lda (v := A m_classes j) dX8_isOf_13 rfl (by omega) (by decide) rfl ?_
    refine V.iload_n (j := 2) rfl dX8_isOf_14 ?_
    refine V.icmp_ne (tgt := 22) dX8_isOf_15 (by decide) (fun c3 => ?_) (fun c3 => ?_)
    · refine V.iconst (v := nI 0) (by decide) dX8_isOf_22 ?_
      refine V.rz dX8_isOf_23 rfl (by decide) ?_
      exact ⟨by first | exact am_s1 ⟨b1, by rw [nI_clamp (by omega)]; first | exact c2 | exact c3⟩ | exact am_s0 (fun z => absurd z.1 b1) | exact am_s0 (fun z => by have z2 := z.2; rw [nI_clamp (by omega)] at z2; contradiction), rfl, rfl⟩
    · refine V.iconst (v := nI 1) (by decide) dX8_isOf_18 ?_
      refine V.goto (tgt := 23) dX8_isOf_19 (by decide) ?_
      refine V.rz dX8_isOf_23 rfl (by decide) ?_
      exact ⟨by first | exact am_s1 ⟨b1, by rw [nI_clamp (by omega)]; first | exact c2 | exact c3⟩ | exact am_s0 (fun z => absurd z.1 b1) | exact am_s0 (fun z => by have z2 := z.2; rw [nI_clamp (by omega)] at z2; contradiction), rfl, rfl⟩
  · refine V.st (st' := [.int (nI 0)]) (by rw [bI_f b1]; rfl) ?_
    refine V.if_eq (tgt := 22) dX8_isOf_5 (by decide) (fun _ => ?_) (fun z => absurd z (by decide))
    refine V.iconst (v := nI 0) (by decide) dX8_isOf_22 ?_
    refine V.rz dX8_isOf_23 rfl (by decide) ?_
    exact ⟨by first | exact am_s1 ⟨b1, by rw [nI_clamp (by omega)]; first | exact c2 | exact c3⟩ | exact am_s0 (fun z => absurd z.1 b1) | exact am_s0 (fun z => by have z2 := z.2; rw [nI_clamp (by omega)] at z2; contradiction), rfl, rfl⟩
def mz_may (nv : Nat) (cl : Nat → Int32) (o a b c : Int32) : Prop :=
  (o = nI 0 ∧ mz_isV (nI nv) a) ∨ (o = nI 1 ∧ mz_isV (nI nv) a ∧ mz_isV (nI nv) b) ∨ ((o = nI 2 ∨ o = nI 3) ∧ mz_isV (nI nv) a ∧ mz_isV (nI nv) b ∧ mz_isV (nI nv) c) ∨ (o = nI 4 ∧ mz_isO nv cl a (nI 0) ∧ mz_isO nv cl b (nI 0) ∧ mz_isO nv cl c (nI 0)) ∨ ((o = nI 5 ∨ o = nI 6) ∧ mz_isV (nI nv) a ∧ mz_isO nv cl b (nI 1) ∧ ¬ c < 0 ∧ ¬ nI 64 ≤ c) ∨ (o = nI 7 ∧ mz_isV (nI nv) a ∧ mz_isV (nI nv) b ∧ ¬ c < 0 ∧ ¬ nI 60 < c) ∨ (o = nI 8 ∧ ¬ a < 0 ∧ ¬ nI 60 < a) ∨ (o = nI 9 ∧ mz_isV (nI nv) a) ∨ o = nI 10
theorem nI_ne11 : ∀ i : Fin 11, ∀ j : Fin 11, i ≠ j → ¬ nI i.val = nI j.val := by decide +kernel
set_option maxRecDepth 100000 in
set_option maxHeartbeats 4000000 in
theorem md_mayBe {G : am_G} (I A : Nat → Nat → Int32) (nv : Nat) (hn : I mM 0 = nI nv) (hv : nv ≤ 24) (o a b c : Int32) : Cm G MX8_mayBe 2 43 [.ref mM, .int o, .int a, .int b, .int c] I A (fun r I' A' => r = some (.int (bI (mz_may nv (A m_classes) o a b c))) ∧ I = I' ∧ A = A') := by
  refine Cm.of (by decide) (Nat.le_of_ble_eq_true rfl) rfl ?_
  show V G MX8_mayBe (am_R 2 43 0 0) _ 0 0 0 [(0, .ref mM), (1, .int o), (2, .int a), (3, .int b), (4, .int c)] [] (hp I A)
  refine V.iload_n (j := 1) rfl dX8_mayBe_0 ?_
  by_cases q1 : o = nI 0
  · refine V.st (st' := [.int (nI 0)]) (by rw [q1]) ?_
    refine V.tableIn (tgt := 56) dX8_mayBe_1 (by decide) (by decide) rfl (by decide) ?_
    refine V.aload_n (j := 0) rfl dX8_mayBe_56 ?_
    refine V.iload_n (j := 2) rfl dX8_mayBe_57 ?_
    refine V.cV (As := [.int a]) (st := []) dX8_mayBe_58 sX8_83 iX8_isValue lX8_isValue rfl rfl (md_isV I A nv hn _) ⟨by decide, by decide⟩ (Nat.le_of_ble_eq_true rfl) rfl (fun r I' A' hq => ?_)
    obtain ⟨rfl, rfl, rfl⟩ := hq
    by_cases b2 : mz_isV (nI nv) (a)
    · refine V.st (st' := [.int (nI 1)]) (by rw [bI_t b2]; rfl) ?_
      refine V.rz dX8_mayBe_61 rfl (by decide) ?_
      have ne := And.intro (nI_ne11 0 1 (by decide)) trivial
      have n1 : ¬ o = nI 1 := by rw [q1]; decide
      have n2 : ¬ o = nI 2 := by rw [q1]; decide
      have n3 : ¬ o = nI 3 := by rw [q1]; decide
      have n4 : ¬ o = nI 4 := by rw [q1]; decide
      have n5 : ¬ o = nI 5 := by rw [q1]; decide
      have n6 : ¬ o = nI 6 := by rw [q1]; decide
      have n7 : ¬ o = nI 7 := by rw [q1]; decide
      have n8 : ¬ o = nI 8 := by rw [q1]; decide
      have n9 : ¬ o = nI 9 := by rw [q1]; decide
      have n10 : ¬ o = nI 10 := by rw [q1]; decide
      exact ⟨by first | exact am_s1 (by simp_all only [mz_may, true_and, false_and, and_true, and_false, or_false, false_or, not_true_eq_false, not_false_eq_true]) | exact am_s0 (by simp_all only [mz_may, true_and, false_and, and_true, and_false, or_false, false_or, not_true_eq_false, not_false_eq_true]), rfl, rfl⟩
    · refine V.st (st' := [.int (nI 0)]) (by rw [bI_f b2]; rfl) ?_
      refine V.rz dX8_mayBe_61 rfl (by decide) ?_
      have ne := And.intro (nI_ne11 0 1 (by decide)) trivial
      have n1 : ¬ o = nI 1 := by rw [q1]; decide
      have n2 : ¬ o = nI 2 := by rw [q1]; decide
      have n3 : ¬ o = nI 3 := by rw [q1]; decide
      have n4 : ¬ o = nI 4 := by rw [q1]; decide
      have n5 : ¬ o = nI 5 := by rw [q1]; decide
      have n6 : ¬ o = nI 6 := by rw [q1]; decide
      have n7 : ¬ o = nI 7 := by rw [q1]; decide
      have n8 : ¬ o = nI 8 := by rw [q1]; decide
      have n9 : ¬ o = nI 9 := by rw [q1]; decide
      have n10 : ¬ o = nI 10 := by rw [q1]; decide
      exact ⟨by first | exact am_s1 (by simp_all only [mz_may, true_and, false_and, and_true, and_false, or_false, false_or, not_true_eq_false, not_false_eq_true]) | exact am_s0 (by simp_all only [mz_may, true_and, false_and, and_true, and_false, or_false, false_or, not_true_eq_false, not_false_eq_true]), rfl, rfl⟩
  by_cases q3 : o = nI 1
  · refine V.st (st' := [.int (nI 1)]) (by rw [q3]) ?_
    refine V.tableIn (tgt := 62) dX8_mayBe_1 (by decide) (by decide) rfl (by decide) ?_
    refine V.aload_n (j := 0) rfl dX8_mayBe_62 ?_
    refine V.iload_n (j := 2) rfl dX8_mayBe_63 ?_
    refine V.cV (As := [.int a]) (st := []) dX8_mayBe_64 sX8_83 iX8_isValue lX8_isValue rfl rfl (md_isV I A nv hn _) ⟨by decide, by decide⟩ (Nat.le_of_ble_eq_true rfl) rfl (fun r I' A' hq => ?_)
    obtain ⟨rfl, rfl, rfl⟩ := hq
    by_cases b4 : mz_isV (nI nv) (a)
    · refine V.st (st' := [.int (nI 1)]) (by rw [bI_t b4]; rfl) ?_
      refine V.if_eq (tgt := 82) dX8_mayBe_67 (by decide) (fun z => absurd z (by decide)) (fun _ => ?_)
      refine V.aload_n (j := 0) rfl dX8_mayBe_70 ?_
      refine V.iload_n (j := 3) rfl dX8_mayBe_71 ?_
      refine V.cV (As := [.int b]) (st := []) dX8_mayBe_72 sX8_83 iX8_isValue lX8_isValue rfl rfl (md_isV I A nv hn _) ⟨by decide, by decide⟩ (Nat.le_of_ble_eq_true rfl) rfl (fun r I' A' hq => ?_)
      obtain ⟨rfl, rfl, rfl⟩ := hq
      by_cases b6 : mz_isV (nI nv) (b)
      · refine V.st (st' := [.int (nI 1)]) (by rw [bI_t b6]; rfl) ?_
        refine V.if_eq (tgt := 82) dX8_mayBe_75 (by decide) (fun z => absurd z (by decide)) (fun _ => ?_)
        refine V.iconst (v := nI 1) (by decide) dX8_mayBe_78 ?_
        refine V.goto (tgt := 83) dX8_mayBe_79 (by decide) ?_
        refine V.rz dX8_mayBe_83 rfl (by decide) ?_
        have ne := And.intro (nI_ne11 1 0 (by decide)) trivial
        have n0 : ¬ o = nI 0 := by rw [q3]; decide
        have n2 : ¬ o = nI 2 := by rw [q3]; decide
        have n3 : ¬ o = nI 3 := by rw [q3]; decide
        have n4 : ¬ o = nI 4 := by rw [q3]; decide
        have n5 : ¬ o = nI 5 := by rw [q3]; decide
        have n6 : ¬ o = nI 6 := by rw [q3]; decide
        have n7 : ¬ o = nI 7 := by rw [q3]; decide
        have n8 : ¬ o = nI 8 := by rw [q3]; decide
        have n9 : ¬ o = nI 9 := by rw [q3]; decide
        have n10 : ¬ o = nI 10 := by rw [q3]; decide
        exact ⟨by first | exact am_s1 (by simp_all only [mz_may, true_and, false_and, and_true, and_false, or_false, false_or, not_true_eq_false, not_false_eq_true]) | exact am_s0 (by simp_all only [mz_may, true_and, false_and, and_true, and_false, or_false, false_or, not_true_eq_false, not_false_eq_true]), rfl, rfl⟩
      · refine V.st (st' := [.int (nI 0)]) (by rw [bI_f b6]; rfl) ?_
        refine V.if_eq (tgt := 82) dX8_mayBe_75 (by decide) (fun _ => ?_) (fun z => absurd z (by decide))
        refine V.iconst (v := nI 0) (by decide) dX8_mayBe_82 ?_
        refine V.rz dX8_mayBe_83 rfl (by decide) ?_
        have ne := And.intro (nI_ne11 1 0 (by decide)) trivial
        have n0 : ¬ o = nI 0 := by rw [q3]; decide
        have n2 : ¬ o = nI 2 := by rw [q3]; decide
        have n3 : ¬ o = nI 3 := by rw [q3]; decide
        have n4 : ¬ o = nI 4 := by rw [q3]; decide
        have n5 : ¬ o = nI 5 := by rw [q3]; decide
        have n6 : ¬ o = nI 6 := by rw [q3]; decide
        have n7 : ¬ o = nI 7 := by rw [q3]; decide
        have n8 : ¬ o = nI 8 := by rw [q3]; decide
        have n9 : ¬ o = nI 9 := by rw [q3]; decide
        have n10 : ¬ o = nI 10 := by rw [q3]; decide
        exact ⟨by first | exact am_s1 (by simp_all only [mz_may, true_and, false_and, and_true, and_false, or_false, false_or, not_true_eq_false, not_false_eq_true]) | exact am_s0 (by simp_all only [mz_may, true_and, false_and, and_true, and_false, or_false, false_or, not_true_eq_false, not_false_eq_true]), rfl, rfl⟩
    · refine V.st (st' := [.int (nI 0)]) (by rw [bI_f b4]; rfl) ?_
      refine V.if_eq (tgt := 82) dX8_mayBe_67 (by decide) (fun _ => ?_) (fun z => absurd z (by decide))
      refine V.iconst (v := nI 0) (by decide) dX8_mayBe_82 ?_
      refine V.rz dX8_mayBe_83 rfl (by decide) ?_
      have ne := And.intro (nI_ne11 1 0 (by decide)) trivial
      have n0 : ¬ o = nI 0 := by rw [q3]; decide
      have n2 : ¬ o = nI 2 := by rw [q3]; decide
      have n3 : ¬ o = nI 3 := by rw [q3]; decide
      have n4 : ¬ o = nI 4 := by rw [q3]; decide
      have n5 : ¬ o = nI 5 := by rw [q3]; decide
      have n6 : ¬ o = nI 6 := by rw [q3]; decide
      have n7 : ¬ o = nI 7 := by rw [q3]; decide
      have n8 : ¬ o = nI 8 := by rw [q3]; decide
      have n9 : ¬ o = nI 9 := by rw [q3]; decide
      have n10 : ¬ o = nI 10 := by rw [q3]; decide
      exact ⟨by first | exact am_s1 (by simp_all only [mz_may, true_and, false_and, and_true, and_false, or_false, false_or, not_true_eq_false, not_false_eq_true]) | exact am_s0 (by simp_all only [mz_may, true_and, false_and, and_true, and_false, or_false, false_or, not_true_eq_false, not_false_eq_true]), rfl, rfl⟩
  by_cases q10 : o = nI 2
  · refine V.st (st' := [.int (nI 2)]) (by rw [q10]) ?_
    refine V.tableIn (tgt := 84) dX8_mayBe_1 (by decide) (by decide) rfl (by decide) ?_
    refine V.aload_n (j := 0) rfl dX8_mayBe_84 ?_
    refine V.iload_n (j := 2) rfl dX8_mayBe_85 ?_
    refine V.cV (As := [.int a]) (st := []) dX8_mayBe_86 sX8_83 iX8_isValue lX8_isValue rfl rfl (md_isV I A nv hn _) ⟨by decide, by decide⟩ (Nat.le_of_ble_eq_true rfl) rfl (fun r I' A' hq => ?_)
    obtain ⟨rfl, rfl, rfl⟩ := hq
    by_cases b11 : mz_isV (nI nv) (a)
    · refine V.st (st' := [.int (nI 1)]) (by rw [bI_t b11]; rfl) ?_
      refine V.if_eq (tgt := 113) dX8_mayBe_89 (by decide) (fun z => absurd z (by decide)) (fun _ => ?_)
      refine V.aload_n (j := 0) rfl dX8_mayBe_92 ?_
      refine V.iload_n (j := 3) rfl dX8_mayBe_93 ?_
      refine V.cV (As := [.int b]) (st := []) dX8_mayBe_94 sX8_83 iX8_isValue lX8_isValue rfl rfl (md_isV I A nv hn _) ⟨by decide, by decide⟩ (Nat.le_of_ble_eq_true rfl) rfl (fun r I' A' hq => ?_)
      obtain ⟨rfl, rfl, rfl⟩ := hq
      by_cases b13 : mz_isV (nI nv) (b)
      · refine V.st (st' := [.int (nI 1)]) (by rw [bI_t b13]; rfl) ?_
        refine V.if_eq (tgt := 113) dX8_mayBe_97 (by decide) (fun z => absurd z (by decide)) (fun _ => ?_)
        refine V.aload_n (j := 0) rfl dX8_mayBe_100 ?_
        refine V.iload (j := 4) rfl dX8_mayBe_101 ?_
        refine V.cV (As := [.int c]) (st := []) dX8_mayBe_103 sX8_83 iX8_isValue lX8_isValue rfl rfl (md_isV I A nv hn _) ⟨by decide, by decide⟩ (Nat.le_of_ble_eq_true rfl) rfl (fun r I' A' hq => ?_)
        obtain ⟨rfl, rfl, rfl⟩ := hq
        by_cases b15 : mz_isV (nI nv) (c)
        · refine V.st (st' := [.int (nI 1)]) (by rw [bI_t b15]; rfl) ?_
          refine V.if_eq (tgt := 113) dX8_mayBe_106 (by decide) (fun z => absurd z (by decide)) (fun _ => ?_)
          refine V.iconst (v := nI 1) (by decide) dX8_mayBe_109 ?_
          refine V.goto (tgt := 114) dX8_mayBe_110 (by decide) ?_
          refine V.rz dX8_mayBe_114 rfl (by decide) ?_
          have ne := And.intro (nI_ne11 2 0 (by decide)) trivial
          have n0 : ¬ o = nI 0 := by rw [q10]; decide
          have n1 : ¬ o = nI 1 := by rw [q10]; decide
          have n3 : ¬ o = nI 3 := by rw [q10]; decide
          have n4 : ¬ o = nI 4 := by rw [q10]; decide
          have n5 : ¬ o = nI 5 := by rw [q10]; decide
          have n6 : ¬ o = nI 6 := by rw [q10]; decide
          have n7 : ¬ o = nI 7 := by rw [q10]; decide
          have n8 : ¬ o = nI 8 := by rw [q10]; decide
          have n9 : ¬ o = nI 9 := by rw [q10]; decide
          have n10 : ¬ o = nI 10 := by rw [q10]; decide
          exact ⟨by first | exact am_s1 (by simp_all only [mz_may, true_and, false_and, and_true, and_false, or_false, false_or, not_true_eq_false, not_false_eq_true]) | exact am_s0 (by simp_all only [mz_may, true_and, false_and, and_true, and_false, or_false, false_or, not_true_eq_false, not_false_eq_true]), rfl, rfl⟩
        · refine V.st (st' := [.int (nI 0)]) (by rw [bI_f b15]; rfl) ?_
          refine V.if_eq (tgt := 113) dX8_mayBe_106 (by decide) (fun _ => ?_) (fun z => absurd z (by decide))
          refine V.iconst (v := nI 0) (by decide) dX8_mayBe_113 ?_
          refine V.rz dX8_mayBe_114 rfl (by decide) ?_
          have ne := And.intro (nI_ne11 2 0 (by decide)) trivial
          have n0 : ¬ o = nI 0 := by rw [q10]; decide
          have n1 : ¬ o = nI 1 := by rw [q10]; decide
          have n3 : ¬ o = nI 3 := by rw [q10]; decide
          have n4 : ¬ o = nI 4 := by rw [q10]; decide
          have n5 : ¬ o = nI 5 := by rw [q10]; decide
          have n6 : ¬ o = nI 6 := by rw [q10]; decide
          have n7 : ¬ o = nI 7 := by rw [q10]; decide
          have n8 : ¬ o = nI 8 := by rw [q10]; decide
          have n9 : ¬ o = nI 9 := by rw [q10]; decide
          have n10 : ¬ o = nI 10 := by rw [q10]; decide
          exact ⟨by first | exact am_s1 (by simp_all only [mz_may, true_and, false_and, and_true, and_false, or_false, false_or, not_true_eq_false, not_false_eq_true]) | exact am_s0 (by simp_all only [mz_may, true_and, false_and, and_true, and_false, or_false, false_or, not_true_eq_false, not_false_eq_true]), rfl, rfl⟩
      · refine V.st (st' := [.int (nI 0)]) (by rw [bI_f b13]; rfl) ?_
        refine V.if_eq (tgt := 113) dX8_mayBe_97 (by decide) (fun _ => ?_) (fun z => absurd z (by decide))
        refine V.iconst (v := nI 0) (by decide) dX8_mayBe_113 ?_
        refine V.rz dX8_mayBe_114 rfl (by decide) ?_
        have ne := And.intro (nI_ne11 2 0 (by decide)) trivial
        have n0 : ¬ o = nI 0 := by rw [q10]; decide
        have n1 : ¬ o = nI 1 := by rw [q10]; decide
        have n3 : ¬ o = nI 3 := by rw [q10]; decide
        have n4 : ¬ o = nI 4 := by rw [q10]; decide
        have n5 : ¬ o = nI 5 := by rw [q10]; decide
        have n6 : ¬ o = nI 6 := by rw [q10]; decide
        have n7 : ¬ o = nI 7 := by rw [q10]; decide
        have n8 : ¬ o = nI 8 := by rw [q10]; decide
        have n9 : ¬ o = nI 9 := by rw [q10]; decide
        have n10 : ¬ o = nI 10 := by rw [q10]; decide
        exact ⟨by first | exact am_s1 (by simp_all only [mz_may, true_and, false_and, and_true, and_false, or_false, false_or, not_true_eq_false, not_false_eq_true]) | exact am_s0 (by simp_all only [mz_may, true_and, false_and, and_true, and_false, or_false, false_or, not_true_eq_false, not_false_eq_true]), rfl, rfl⟩
    · refine V.st (st' := [.int (nI 0)]) (by rw [bI_f b11]; rfl) ?_
      refine V.if_eq (tgt := 113) dX8_mayBe_89 (by decide) (fun _ => ?_) (fun z => absurd z (by decide))
      refine V.iconst (v := nI 0) (by decide) dX8_mayBe_113 ?_
      refine V.rz dX8_mayBe_114 rfl (by decide) ?_
      have ne := And.intro (nI_ne11 2 0 (by decide)) trivial
      have n0 : ¬ o = nI 0 := by rw [q10]; decide
      have n1 : ¬ o = nI 1 := by rw [q10]; decide
      have n3 : ¬ o = nI 3 := by rw [q10]; decide
      have n4 : ¬ o = nI 4 := by rw [q10]; decide
      have n5 : ¬ o = nI 5 := by rw [q10]; decide
      have n6 : ¬ o = nI 6 := by rw [q10]; decide
      have n7 : ¬ o = nI 7 := by rw [q10]; decide
      have n8 : ¬ o = nI 8 := by rw [q10]; decide
      have n9 : ¬ o = nI 9 := by rw [q10]; decide
      have n10 : ¬ o = nI 10 := by rw [q10]; decide
      exact ⟨by first | exact am_s1 (by simp_all only [mz_may, true_and, false_and, and_true, and_false, or_false, false_or, not_true_eq_false, not_false_eq_true]) | exact am_s0 (by simp_all only [mz_may, true_and, false_and, and_true, and_false, or_false, false_or, not_true_eq_false, not_false_eq_true]), rfl, rfl⟩
  by_cases q20 : o = nI 3
  · refine V.st (st' := [.int (nI 3)]) (by rw [q20]) ?_
    refine V.tableIn (tgt := 84) dX8_mayBe_1 (by decide) (by decide) rfl (by decide) ?_
    refine V.aload_n (j := 0) rfl dX8_mayBe_84 ?_
    refine V.iload_n (j := 2) rfl dX8_mayBe_85 ?_
    refine V.cV (As := [.int a]) (st := []) dX8_mayBe_86 sX8_83 iX8_isValue lX8_isValue rfl rfl (md_isV I A nv hn _) ⟨by decide, by decide⟩ (Nat.le_of_ble_eq_true rfl) rfl (fun r I' A' hq => ?_)
    obtain ⟨rfl, rfl, rfl⟩ := hq
    by_cases b21 : mz_isV (nI nv) (a)
    · refine V.st (st' := [.int (nI 1)]) (by rw [bI_t b21]; rfl) ?_
      refine V.if_eq (tgt := 113) dX8_mayBe_89 (by decide) (fun z => absurd z (by decide)) (fun _ => ?_)
      refine V.aload_n (j := 0) rfl dX8_mayBe_92 ?_
      refine V.iload_n (j := 3) rfl dX8_mayBe_93 ?_
      refine V.cV (As := [.int b]) (st := []) dX8_mayBe_94 sX8_83 iX8_isValue lX8_isValue rfl rfl (md_isV I A nv hn _) ⟨by decide, by decide⟩ (Nat.le_of_ble_eq_true rfl) rfl (fun r I' A' hq => ?_)
      obtain ⟨rfl, rfl, rfl⟩ := hq
      by_cases b23 : mz_isV (nI nv) (b)
      · refine V.st (st' := [.int (nI 1)]) (by rw [bI_t b23]; rfl) ?_
        refine V.if_eq (tgt := 113) dX8_mayBe_97 (by decide) (fun z => absurd z (by decide)) (fun _ => ?_)
        refine V.aload_n (j := 0) rfl dX8_mayBe_100 ?_
        refine V.iload (j := 4) rfl dX8_mayBe_101 ?_
        refine V.cV (As := [.int c]) (st := []) dX8_mayBe_103 sX8_83 iX8_isValue lX8_isValue rfl rfl (md_isV I A nv hn _) ⟨by decide, by decide⟩ (Nat.le_of_ble_eq_true rfl) rfl (fun r I' A' hq => ?_)
        obtain ⟨rfl, rfl, rfl⟩ := hq
        by_cases b25 : mz_isV (nI nv) (c)
        · refine V.st (st' := [.int (nI 1)]) (by rw [bI_t b25]; rfl) ?_
          refine V.if_eq (tgt := 113) dX8_mayBe_106 (by decide) (fun z => absurd z (by decide)) (fun _ => ?_)
          refine V.iconst (v := nI 1) (by decide) dX8_mayBe_109 ?_
          refine V.goto (tgt := 114) dX8_mayBe_110 (by decide) ?_
          refine V.rz dX8_mayBe_114 rfl (by decide) ?_
          have ne := And.intro (nI_ne11 3 0 (by decide)) trivial
          have n0 : ¬ o = nI 0 := by rw [q20]; decide
          have n1 : ¬ o = nI 1 := by rw [q20]; decide
          have n2 : ¬ o = nI 2 := by rw [q20]; decide
          have n4 : ¬ o = nI 4 := by rw [q20]; decide
          have n5 : ¬ o = nI 5 := by rw [q20]; decide
          have n6 : ¬ o = nI 6 := by rw [q20]; decide
          have n7 : ¬ o = nI 7 := by rw [q20]; decide
          have n8 : ¬ o = nI 8 := by rw [q20]; decide
          have n9 : ¬ o = nI 9 := by rw [q20]; decide
          have n10 : ¬ o = nI 10 := by rw [q20]; decide
          exact ⟨by first | exact am_s1 (by simp_all only [mz_may, true_and, false_and, and_true, and_false, or_false, false_or, not_true_eq_false, not_false_eq_true]) | exact am_s0 (by simp_all only [mz_may, true_and, false_and, and_true, and_false, or_false, false_or, not_true_eq_false, not_false_eq_true]), rfl, rfl⟩
        · refine V.st (st' := [.int (nI 0)]) (by rw [bI_f b25]; rfl) ?_
          refine V.if_eq (tgt := 113) dX8_mayBe_106 (by decide) (fun _ => ?_) (fun z => absurd z (by decide))
          refine V.iconst (v := nI 0) (by decide) dX8_mayBe_113 ?_
          refine V.rz dX8_mayBe_114 rfl (by decide) ?_
          have ne := And.intro (nI_ne11 3 0 (by decide)) trivial
          have n0 : ¬ o = nI 0 := by rw [q20]; decide
          have n1 : ¬ o = nI 1 := by rw [q20]; decide
          have n2 : ¬ o = nI 2 := by rw [q20]; decide
          have n4 : ¬ o = nI 4 := by rw [q20]; decide
          have n5 : ¬ o = nI 5 := by rw [q20]; decide
          have n6 : ¬ o = nI 6 := by rw [q20]; decide
          have n7 : ¬ o = nI 7 := by rw [q20]; decide
          have n8 : ¬ o = nI 8 := by rw [q20]; decide
          have n9 : ¬ o = nI 9 := by rw [q20]; decide
          have n10 : ¬ o = nI 10 := by rw [q20]; decide
          exact ⟨by first | exact am_s1 (by simp_all only [mz_may, true_and, false_and, and_true, and_false, or_false, false_or, not_true_eq_false, not_false_eq_true]) | exact am_s0 (by simp_all only [mz_may, true_and, false_and, and_true, and_false, or_false, false_or, not_true_eq_false, not_false_eq_true]), rfl, rfl⟩
      · refine V.st (st' := [.int (nI 0)]) (by rw [bI_f b23]; rfl) ?_
        refine V.if_eq (tgt := 113) dX8_mayBe_97 (by decide) (fun _ => ?_) (fun z => absurd z (by decide))
        refine V.iconst (v := nI 0) (by decide) dX8_mayBe_113 ?_
        refine V.rz dX8_mayBe_114 rfl (by decide) ?_
        have ne := And.intro (nI_ne11 3 0 (by decide)) trivial
        have n0 : ¬ o = nI 0 := by rw [q20]; decide
        have n1 : ¬ o = nI 1 := by rw [q20]; decide
        have n2 : ¬ o = nI 2 := by rw [q20]; decide
        have n4 : ¬ o = nI 4 := by rw [q20]; decide
        have n5 : ¬ o = nI 5 := by rw [q20]; decide
        have n6 : ¬ o = nI 6 := by rw [q20]; decide
        have n7 : ¬ o = nI 7 := by rw [q20]; decide
        have n8 : ¬ o = nI 8 := by rw [q20]; decide
        have n9 : ¬ o = nI 9 := by rw [q20]; decide
        have n10 : ¬ o = nI 10 := by rw [q20]; decide
        exact ⟨by first | exact am_s1 (by simp_all only [mz_may, true_and, false_and, and_true, and_false, or_false, false_or, not_true_eq_false, not_false_eq_true]) | exact am_s0 (by simp_all only [mz_may, true_and, false_and, and_true, and_false, or_false, false_or, not_true_eq_false, not_false_eq_true]), rfl, rfl⟩
    · refine V.st (st' := [.int (nI 0)]) (by rw [bI_f b21]; rfl) ?_
      refine V.if_eq (tgt := 113) dX8_mayBe_89 (by decide) (fun _ => ?_) (fun z => absurd z (by decide))
      refine V.iconst (v := nI 0) (by decide) dX8_mayBe_113 ?_
      refine V.rz dX8_mayBe_114 rfl (by decide) ?_
      have ne := And.intro (nI_ne11 3 0 (by decide)) trivial
      have n0 : ¬ o = nI 0 := by rw [q20]; decide
      have n1 : ¬ o = nI 1 := by rw [q20]; decide
      have n2 : ¬ o = nI 2 := by rw [q20]; decide
      have n4 : ¬ o = nI 4 := by rw [q20]; decide
      have n5 : ¬ o = nI 5 := by rw [q20]; decide
      have n6 : ¬ o = nI 6 := by rw [q20]; decide
      have n7 : ¬ o = nI 7 := by rw [q20]; decide
      have n8 : ¬ o = nI 8 := by rw [q20]; decide
      have n9 : ¬ o = nI 9 := by rw [q20]; decide
      have n10 : ¬ o = nI 10 := by rw [q20]; decide
      exact ⟨by first | exact am_s1 (by simp_all only [mz_may, true_and, false_and, and_true, and_false, or_false, false_or, not_true_eq_false, not_false_eq_true]) | exact am_s0 (by simp_all only [mz_may, true_and, false_and, and_true, and_false, or_false, false_or, not_true_eq_false, not_false_eq_true]), rfl, rfl⟩
  by_cases q30 : o = nI 4
  · refine V.st (st' := [.int (nI 4)]) (by rw [q30]) ?_
    refine V.tableIn (tgt := 115) dX8_mayBe_1 (by decide) (by decide) rfl (by decide) ?_
    refine V.aload_n (j := 0) rfl dX8_mayBe_115 ?_
    refine V.iload_n (j := 2) rfl dX8_mayBe_116 ?_
    refine V.iconst (v := nI 0) (by decide) dX8_mayBe_117 ?_
    refine V.cV (As := [.int a, .int (nI 0)]) (st := []) dX8_mayBe_118 sX8_87 iX8_isOf lX8_isOf rfl rfl (md_isOf I A nv hn hv _ _) ⟨by decide, by decide⟩ (Nat.le_of_ble_eq_true rfl) rfl (fun r I' A' hq => ?_)
    obtain ⟨rfl, rfl, rfl⟩ := hq
    by_cases b31 : mz_isO nv (A m_classes) (a) (nI 0)
    · refine V.st (st' := [.int (nI 1)]) (by rw [bI_t b31]; rfl) ?_
      refine V.if_eq (tgt := 147) dX8_mayBe_121 (by decide) (fun z => absurd z (by decide)) (fun _ => ?_)
      refine V.aload_n (j := 0) rfl dX8_mayBe_124 ?_
      refine V.iload_n (j := 3) rfl dX8_mayBe_125 ?_
      refine V.iconst (v := nI 0) (by decide) dX8_mayBe_126 ?_
      refine V.cV (As := [.int b, .int (nI 0)]) (st := []) dX8_mayBe_127 sX8_87 iX8_isOf lX8_isOf rfl rfl (md_isOf I A nv hn hv _ _) ⟨by decide, by decide⟩ (Nat.le_of_ble_eq_true rfl) rfl (fun r I' A' hq => ?_)
      obtain ⟨rfl, rfl, rfl⟩ := hq
      by_cases b33 : mz_isO nv (A m_classes) (b) (nI 0)
      · refine V.st (st' := [.int (nI 1)]) (by rw [bI_t b33]; rfl) ?_
        refine V.if_eq (tgt := 147) dX8_mayBe_130 (by decide) (fun z => absurd z (by decide)) (fun _ => ?_)
        refine V.aload_n (j := 0) rfl dX8_mayBe_133 ?_
        refine V.iload (j := 4) rfl dX8_mayBe_134 ?_
        refine V.iconst (v := nI 0) (by decide) dX8_mayBe_136 ?_
        refine V.cV (As := [.int c, .int (nI 0)]) (st := []) dX8_mayBe_137 sX8_87 iX8_isOf lX8_isOf rfl rfl (md_isOf I A nv hn hv _ _) ⟨by decide, by decide⟩ (Nat.le_of_ble_eq_true rfl) rfl (fun r I' A' hq => ?_)
        obtain ⟨rfl, rfl, rfl⟩ := hq
        by_cases b35 : mz_isO nv (A m_classes) (c) (nI 0)
        · refine V.st (st' := [.int (nI 1)]) (by rw [bI_t b35]; rfl) ?_
          refine V.if_eq (tgt := 147) dX8_mayBe_140 (by decide) (fun z => absurd z (by decide)) (fun _ => ?_)
          refine V.iconst (v := nI 1) (by decide) dX8_mayBe_143 ?_
          refine V.goto (tgt := 148) dX8_mayBe_144 (by decide) ?_
          refine V.rz dX8_mayBe_148 rfl (by decide) ?_
          have ne := And.intro (nI_ne11 4 0 (by decide)) trivial
          have n0 : ¬ o = nI 0 := by rw [q30]; decide
          have n1 : ¬ o = nI 1 := by rw [q30]; decide
          have n2 : ¬ o = nI 2 := by rw [q30]; decide
          have n3 : ¬ o = nI 3 := by rw [q30]; decide
          have n5 : ¬ o = nI 5 := by rw [q30]; decide
          have n6 : ¬ o = nI 6 := by rw [q30]; decide
          have n7 : ¬ o = nI 7 := by rw [q30]; decide
          have n8 : ¬ o = nI 8 := by rw [q30]; decide
          have n9 : ¬ o = nI 9 := by rw [q30]; decide
          have n10 : ¬ o = nI 10 := by rw [q30]; decide
          exact ⟨by first | exact am_s1 (by simp_all only [mz_may, true_and, false_and, and_true, and_false, or_false, false_or, not_true_eq_false, not_false_eq_true]) | exact am_s0 (by simp_all only [mz_may, true_and, false_and, and_true, and_false, or_false, false_or, not_true_eq_false, not_false_eq_true]), rfl, rfl⟩
        · refine V.st (st' := [.int (nI 0)]) (by rw [bI_f b35]; rfl) ?_
          refine V.if_eq (tgt := 147) dX8_mayBe_140 (by decide) (fun _ => ?_) (fun z => absurd z (by decide))
          refine V.iconst (v := nI 0) (by decide) dX8_mayBe_147 ?_
          refine V.rz dX8_mayBe_148 rfl (by decide) ?_
          have ne := And.intro (nI_ne11 4 0 (by decide)) trivial
          have n0 : ¬ o = nI 0 := by rw [q30]; decide
          have n1 : ¬ o = nI 1 := by rw [q30]; decide
          have n2 : ¬ o = nI 2 := by rw [q30]; decide
          have n3 : ¬ o = nI 3 := by rw [q30]; decide
          have n5 : ¬ o = nI 5 := by rw [q30]; decide
          have n6 : ¬ o = nI 6 := by rw [q30]; decide
          have n7 : ¬ o = nI 7 := by rw [q30]; decide
          have n8 : ¬ o = nI 8 := by rw [q30]; decide
          have n9 : ¬ o = nI 9 := by rw [q30]; decide
          have n10 : ¬ o = nI 10 := by rw [q30]; decide
          exact ⟨by first | exact am_s1 (by simp_all only [mz_may, true_and, false_and, and_true, and_false, or_false, false_or, not_true_eq_false, not_false_eq_true]) | exact am_s0 (by simp_all only [mz_may, true_and, false_and, and_true, and_false, or_false, false_or, not_true_eq_false, not_false_eq_true]), rfl, rfl⟩
      · refine V.st (st' := [.int (nI 0)]) (by rw [bI_f b33]; rfl) ?_
        refine V.if_eq (tgt := 147) dX8_mayBe_130 (by decide) (fun _ => ?_) (fun z => absurd z (by decide))
        refine V.iconst (v := nI 0) (by decide) dX8_mayBe_147 ?_
        refine V.rz dX8_mayBe_148 rfl (by decide) ?_
        have ne := And.intro (nI_ne11 4 0 (by decide)) trivial
        have n0 : ¬ o = nI 0 := by rw [q30]; decide
        have n1 : ¬ o = nI 1 := by rw [q30]; decide
        have n2 : ¬ o = nI 2 := by rw [q30]; decide
        have n3 : ¬ o = nI 3 := by rw [q30]; decide
        have n5 : ¬ o = nI 5 := by rw [q30]; decide
        have n6 : ¬ o = nI 6 := by rw [q30]; decide
        have n7 : ¬ o = nI 7 := by rw [q30]; decide
        have n8 : ¬ o = nI 8 := by rw [q30]; decide
        have n9 : ¬ o = nI 9 := by rw [q30]; decide
        have n10 : ¬ o = nI 10 := by rw [q30]; decide
        exact ⟨by first | exact am_s1 (by simp_all only [mz_may, true_and, false_and, and_true, and_false, or_false, false_or, not_true_eq_false, not_false_eq_true]) | exact am_s0 (by simp_all only [mz_may, true_and, false_and, and_true, and_false, or_false, false_or, not_true_eq_false, not_false_eq_true]), rfl, rfl⟩
    · refine V.st (st' := [.int (nI 0)]) (by rw [bI_f b31]; rfl) ?_
      refine V.if_eq (tgt := 147) dX8_mayBe_121 (by decide) (fun _ => ?_) (fun z => absurd z (by decide))
      refine V.iconst (v := nI 0) (by decide) dX8_mayBe_147 ?_
      refine V.rz dX8_mayBe_148 rfl (by decide) ?_
      have ne := And.intro (nI_ne11 4 0 (by decide)) trivial
      have n0 : ¬ o = nI 0 := by rw [q30]; decide
      have n1 : ¬ o = nI 1 := by rw [q30]; decide
      have n2 : ¬ o = nI 2 := by rw [q30]; decide
      have n3 : ¬ o = nI 3 := by rw [q30]; decide
      have n5 : ¬ o = nI 5 := by rw [q30]; decide
      have n6 : ¬ o = nI 6 := by rw [q30]; decide
      have n7 : ¬ o = nI 7 := by rw [q30]; decide
      have n8 : ¬ o = nI 8 := by rw [q30]; decide
      have n9 : ¬ o = nI 9 := by rw [q30]; decide
      have n10 : ¬ o = nI 10 := by rw [q30]; decide
      exact ⟨by first | exact am_s1 (by simp_all only [mz_may, true_and, false_and, and_true, and_false, or_false, false_or, not_true_eq_false, not_false_eq_true]) | exact am_s0 (by simp_all only [mz_may, true_and, false_and, and_true, and_false, or_false, false_or, not_true_eq_false, not_false_eq_true]), rfl, rfl⟩
  by_cases q40 : o = nI 5
  · refine V.st (st' := [.int (nI 5)]) (by rw [q40]) ?_
    refine V.tableIn (tgt := 149) dX8_mayBe_1 (by decide) (by decide) rfl (by decide) ?_
    refine V.aload_n (j := 0) rfl dX8_mayBe_149 ?_
    refine V.iload_n (j := 2) rfl dX8_mayBe_150 ?_
    refine V.cV (As := [.int a]) (st := []) dX8_mayBe_151 sX8_83 iX8_isValue lX8_isValue rfl rfl (md_isV I A nv hn _) ⟨by decide, by decide⟩ (Nat.le_of_ble_eq_true rfl) rfl (fun r I' A' hq => ?_)
    obtain ⟨rfl, rfl, rfl⟩ := hq
    by_cases b41 : mz_isV (nI nv) (a)
    · refine V.st (st' := [.int (nI 1)]) (by rw [bI_t b41]; rfl) ?_
      refine V.if_eq (tgt := 182) dX8_mayBe_154 (by decide) (fun z => absurd z (by decide)) (fun _ => ?_)
      refine V.aload_n (j := 0) rfl dX8_mayBe_157 ?_
      refine V.iload_n (j := 3) rfl dX8_mayBe_158 ?_
      refine V.iconst (v := nI 1) (by decide) dX8_mayBe_159 ?_
      refine V.cV (As := [.int b, .int (nI 1)]) (st := []) dX8_mayBe_160 sX8_87 iX8_isOf lX8_isOf rfl rfl (md_isOf I A nv hn hv _ _) ⟨by decide, by decide⟩ (Nat.le_of_ble_eq_true rfl) rfl (fun r I' A' hq => ?_)
      obtain ⟨rfl, rfl, rfl⟩ := hq
      by_cases b43 : mz_isO nv (A m_classes) (b) (nI 1)
      · refine V.st (st' := [.int (nI 1)]) (by rw [bI_t b43]; rfl) ?_
        refine V.if_eq (tgt := 182) dX8_mayBe_163 (by decide) (fun z => absurd z (by decide)) (fun _ => ?_)
        refine V.iload (j := 4) rfl dX8_mayBe_166 ?_
        refine V.if_lt (tgt := 182) dX8_mayBe_168 (by decide) (fun c45 => ?_) (fun c45 => ?_)
        · refine V.iconst (v := nI 0) (by decide) dX8_mayBe_182 ?_
          refine V.rz dX8_mayBe_183 rfl (by decide) ?_
          have ne := And.intro (nI_ne11 5 0 (by decide)) trivial
          have n0 : ¬ o = nI 0 := by rw [q40]; decide
          have n1 : ¬ o = nI 1 := by rw [q40]; decide
          have n2 : ¬ o = nI 2 := by rw [q40]; decide
          have n3 : ¬ o = nI 3 := by rw [q40]; decide
          have n4 : ¬ o = nI 4 := by rw [q40]; decide
          have n6 : ¬ o = nI 6 := by rw [q40]; decide
          have n7 : ¬ o = nI 7 := by rw [q40]; decide
          have n8 : ¬ o = nI 8 := by rw [q40]; decide
          have n9 : ¬ o = nI 9 := by rw [q40]; decide
          have n10 : ¬ o = nI 10 := by rw [q40]; decide
          exact ⟨by first | exact am_s1 (by simp_all only [mz_may, true_and, false_and, and_true, and_false, or_false, false_or, not_true_eq_false, not_false_eq_true]) | exact am_s0 (by simp_all only [mz_may, true_and, false_and, and_true, and_false, or_false, false_or, not_true_eq_false, not_false_eq_true]), rfl, rfl⟩
        · refine V.iload (j := 4) rfl dX8_mayBe_171 ?_
          refine V.bipush (v := nI 64) (by decide) dX8_mayBe_173 ?_
          refine V.icmp_ge (tgt := 182) dX8_mayBe_175 (by decide) (fun c46 => ?_) (fun c46 => ?_)
          · refine V.iconst (v := nI 0) (by decide) dX8_mayBe_182 ?_
            refine V.rz dX8_mayBe_183 rfl (by decide) ?_
            have ne := And.intro (nI_ne11 5 0 (by decide)) trivial
            have n0 : ¬ o = nI 0 := by rw [q40]; decide
            have n1 : ¬ o = nI 1 := by rw [q40]; decide
            have n2 : ¬ o = nI 2 := by rw [q40]; decide
            have n3 : ¬ o = nI 3 := by rw [q40]; decide
            have n4 : ¬ o = nI 4 := by rw [q40]; decide
            have n6 : ¬ o = nI 6 := by rw [q40]; decide
            have n7 : ¬ o = nI 7 := by rw [q40]; decide
            have n8 : ¬ o = nI 8 := by rw [q40]; decide
            have n9 : ¬ o = nI 9 := by rw [q40]; decide
            have n10 : ¬ o = nI 10 := by rw [q40]; decide
            exact ⟨by first | exact am_s1 (by simp_all only [mz_may, true_and, false_and, and_true, and_false, or_false, false_or, not_true_eq_false, not_false_eq_true]) | exact am_s0 (by simp_all only [mz_may, true_and, false_and, and_true, and_false, or_false, false_or, not_true_eq_false, not_false_eq_true]), rfl, rfl⟩
          · refine V.iconst (v := nI 1) (by decide) dX8_mayBe_178 ?_
            refine V.goto (tgt := 183) dX8_mayBe_179 (by decide) ?_
            refine V.rz dX8_mayBe_183 rfl (by decide) ?_
            have ne := And.intro (nI_ne11 5 0 (by decide)) trivial
            have n0 : ¬ o = nI 0 := by rw [q40]; decide
            have n1 : ¬ o = nI 1 := by rw [q40]; decide
            have n2 : ¬ o = nI 2 := by rw [q40]; decide
            have n3 : ¬ o = nI 3 := by rw [q40]; decide
            have n4 : ¬ o = nI 4 := by rw [q40]; decide
            have n6 : ¬ o = nI 6 := by rw [q40]; decide
            have n7 : ¬ o = nI 7 := by rw [q40]; decide
            have n8 : ¬ o = nI 8 := by rw [q40]; decide
            have n9 : ¬ o = nI 9 := by rw [q40]; decide
            have n10 : ¬ o = nI 10 := by rw [q40]; decide
            exact ⟨by first | exact am_s1 (by simp_all only [mz_may, true_and, false_and, and_true, and_false, or_false, false_or, not_true_eq_false, not_false_eq_true]) | exact am_s0 (by simp_all only [mz_may, true_and, false_and, and_true, and_false, or_false, false_or, not_true_eq_false, not_false_eq_true]), rfl, rfl⟩
      · refine V.st (st' := [.int (nI 0)]) (by rw [bI_f b43]; rfl) ?_
        refine V.if_eq (tgt := 182) dX8_mayBe_163 (by decide) (fun _ => ?_) (fun z => absurd z (by decide))
        refine V.iconst (v := nI 0) (by decide) dX8_mayBe_182 ?_
        refine V.rz dX8_mayBe_183 rfl (by decide) ?_
        have ne := And.intro (nI_ne11 5 0 (by decide)) trivial
        have n0 : ¬ o = nI 0 := by rw [q40]; decide
        have n1 : ¬ o = nI 1 := by rw [q40]; decide
        have n2 : ¬ o = nI 2 := by rw [q40]; decide
        have n3 : ¬ o = nI 3 := by rw [q40]; decide
        have n4 : ¬ o = nI 4 := by rw [q40]; decide
        have n6 : ¬ o = nI 6 := by rw [q40]; decide
        have n7 : ¬ o = nI 7 := by rw [q40]; decide
        have n8 : ¬ o = nI 8 := by rw [q40]; decide
        have n9 : ¬ o = nI 9 := by rw [q40]; decide
        have n10 : ¬ o = nI 10 := by rw [q40]; decide
        exact ⟨by first | exact am_s1 (by simp_all only [mz_may, true_and, false_and, and_true, and_false, or_false, false_or, not_true_eq_false, not_false_eq_true]) | exact am_s0 (by simp_all only [mz_may, true_and, false_and, and_true, and_false, or_false, false_or, not_true_eq_false, not_false_eq_true]), rfl, rfl⟩
    · refine V.st (st' := [.int (nI 0)]) (by rw [bI_f b41]; rfl) ?_
      refine V.if_eq (tgt := 182) dX8_mayBe_154 (by decide) (fun _ => ?_) (fun z => absurd z (by decide))
      refine V.iconst (v := nI 0) (by decide) dX8_mayBe_182 ?_
      refine V.rz dX8_mayBe_183 rfl (by decide) ?_
      have ne := And.intro (nI_ne11 5 0 (by decide)) trivial
      have n0 : ¬ o = nI 0 := by rw [q40]; decide
      have n1 : ¬ o = nI 1 := by rw [q40]; decide
      have n2 : ¬ o = nI 2 := by rw [q40]; decide
      have n3 : ¬ o = nI 3 := by rw [q40]; decide
      have n4 : ¬ o = nI 4 := by rw [q40]; decide
      have n6 : ¬ o = nI 6 := by rw [q40]; decide
      have n7 : ¬ o = nI 7 := by rw [q40]; decide
      have n8 : ¬ o = nI 8 := by rw [q40]; decide
      have n9 : ¬ o = nI 9 := by rw [q40]; decide
      have n10 : ¬ o = nI 10 := by rw [q40]; decide
      exact ⟨by first | exact am_s1 (by simp_all only [mz_may, true_and, false_and, and_true, and_false, or_false, false_or, not_true_eq_false, not_false_eq_true]) | exact am_s0 (by simp_all only [mz_may, true_and, false_and, and_true, and_false, or_false, false_or, not_true_eq_false, not_false_eq_true]), rfl, rfl⟩
  by_cases q49 : o = nI 6
  · refine V.st (st' := [.int (nI 6)]) (by rw [q49]) ?_
    refine V.tableIn (tgt := 149) dX8_mayBe_1 (by decide) (by decide) rfl (by decide) ?_
    refine V.aload_n (j := 0) rfl dX8_mayBe_149 ?_
    refine V.iload_n (j := 2) rfl dX8_mayBe_150 ?_
    refine V.cV (As := [.int a]) (st := []) dX8_mayBe_151 sX8_83 iX8_isValue lX8_isValue rfl rfl (md_isV I A nv hn _) ⟨by decide, by decide⟩ (Nat.le_of_ble_eq_true rfl) rfl (fun r I' A' hq => ?_)
    obtain ⟨rfl, rfl, rfl⟩ := hq
    by_cases b50 : mz_isV (nI nv) (a)
    · refine V.st (st' := [.int (nI 1)]) (by rw [bI_t b50]; rfl) ?_
      refine V.if_eq (tgt := 182) dX8_mayBe_154 (by decide) (fun z => absurd z (by decide)) (fun _ => ?_)
      refine V.aload_n (j := 0) rfl dX8_mayBe_157 ?_
      refine V.iload_n (j := 3) rfl dX8_mayBe_158 ?_
      refine V.iconst (v := nI 1) (by decide) dX8_mayBe_159 ?_
      refine V.cV (As := [.int b, .int (nI 1)]) (st := []) dX8_mayBe_160 sX8_87 iX8_isOf lX8_isOf rfl rfl (md_isOf I A nv hn hv _ _) ⟨by decide, by decide⟩ (Nat.le_of_ble_eq_true rfl) rfl (fun r I' A' hq => ?_)
      obtain ⟨rfl, rfl, rfl⟩ := hq
      by_cases b52 : mz_isO nv (A m_classes) (b) (nI 1)
      · refine V.st (st' := [.int (nI 1)]) (by rw [bI_t b52]; rfl) ?_
        refine V.if_eq (tgt := 182) dX8_mayBe_163 (by decide) (fun z => absurd z (by decide)) (fun _ => ?_)
        refine V.iload (j := 4) rfl dX8_mayBe_166 ?_
        refine V.if_lt (tgt := 182) dX8_mayBe_168 (by decide) (fun c54 => ?_) (fun c54 => ?_)
        · refine V.iconst (v := nI 0) (by decide) dX8_mayBe_182 ?_
          refine V.rz dX8_mayBe_183 rfl (by decide) ?_
          have ne := And.intro (nI_ne11 6 0 (by decide)) trivial
          have n0 : ¬ o = nI 0 := by rw [q49]; decide
          have n1 : ¬ o = nI 1 := by rw [q49]; decide
          have n2 : ¬ o = nI 2 := by rw [q49]; decide
          have n3 : ¬ o = nI 3 := by rw [q49]; decide
          have n4 : ¬ o = nI 4 := by rw [q49]; decide
          have n5 : ¬ o = nI 5 := by rw [q49]; decide
          have n7 : ¬ o = nI 7 := by rw [q49]; decide
          have n8 : ¬ o = nI 8 := by rw [q49]; decide
          have n9 : ¬ o = nI 9 := by rw [q49]; decide
          have n10 : ¬ o = nI 10 := by rw [q49]; decide
          exact ⟨by first | exact am_s1 (by simp_all only [mz_may, true_and, false_and, and_true, and_false, or_false, false_or, not_true_eq_false, not_false_eq_true]) | exact am_s0 (by simp_all only [mz_may, true_and, false_and, and_true, and_false, or_false, false_or, not_true_eq_false, not_false_eq_true]), rfl, rfl⟩
        · refine V.iload (j := 4) rfl dX8_mayBe_171 ?_
          refine V.bipush (v := nI 64) (by decide) dX8_mayBe_173 ?_
          refine V.icmp_ge (tgt := 182) dX8_mayBe_175 (by decide) (fun c55 => ?_) (fun c55 => ?_)
          · refine V.iconst (v := nI 0) (by decide) dX8_mayBe_182 ?_
            refine V.rz dX8_mayBe_183 rfl (by decide) ?_
            have ne := And.intro (nI_ne11 6 0 (by decide)) trivial
            have n0 : ¬ o = nI 0 := by rw [q49]; decide
            have n1 : ¬ o = nI 1 := by rw [q49]; decide
            have n2 : ¬ o = nI 2 := by rw [q49]; decide
            have n3 : ¬ o = nI 3 := by rw [q49]; decide
            have n4 : ¬ o = nI 4 := by rw [q49]; decide
            have n5 : ¬ o = nI 5 := by rw [q49]; decide
            have n7 : ¬ o = nI 7 := by rw [q49]; decide
            have n8 : ¬ o = nI 8 := by rw [q49]; decide
            have n9 : ¬ o = nI 9 := by rw [q49]; decide
            have n10 : ¬ o = nI 10 := by rw [q49]; decide
            exact ⟨by first | exact am_s1 (by simp_all only [mz_may, true_and, false_and, and_true, and_false, or_false, false_or, not_true_eq_false, not_false_eq_true]) | exact am_s0 (by simp_all only [mz_may, true_and, false_and, and_true, and_false, or_false, false_or, not_true_eq_false, not_false_eq_true]), rfl, rfl⟩
          · refine V.iconst (v := nI 1) (by decide) dX8_mayBe_178 ?_
            refine V.goto (tgt := 183) dX8_mayBe_179 (by decide) ?_
            refine V.rz dX8_mayBe_183 rfl (by decide) ?_
            have ne := And.intro (nI_ne11 6 0 (by decide)) trivial
            have n0 : ¬ o = nI 0 := by rw [q49]; decide
            have n1 : ¬ o = nI 1 := by rw [q49]; decide
            have n2 : ¬ o = nI 2 := by rw [q49]; decide
            have n3 : ¬ o = nI 3 := by rw [q49]; decide
            have n4 : ¬ o = nI 4 := by rw [q49]; decide
            have n5 : ¬ o = nI 5 := by rw [q49]; decide
            have n7 : ¬ o = nI 7 := by rw [q49]; decide
            have n8 : ¬ o = nI 8 := by rw [q49]; decide
            have n9 : ¬ o = nI 9 := by rw [q49]; decide
            have n10 : ¬ o = nI 10 := by rw [q49]; decide
            exact ⟨by first | exact am_s1 (by simp_all only [mz_may, true_and, false_and, and_true, and_false, or_false, false_or, not_true_eq_false, not_false_eq_true]) | exact am_s0 (by simp_all only [mz_may, true_and, false_and, and_true, and_false, or_false, false_or, not_true_eq_false, not_false_eq_true]), rfl, rfl⟩
      · refine V.st (st' := [.int (nI 0)]) (by rw [bI_f b52]; rfl) ?_
        refine V.if_eq (tgt := 182) dX8_mayBe_163 (by decide) (fun _ => ?_) (fun z => absurd z (by decide))
        refine V.iconst (v := nI 0) (by decide) dX8_mayBe_182 ?_
        refine V.rz dX8_mayBe_183 rfl (by decide) ?_
        have ne := And.intro (nI_ne11 6 0 (by decide)) trivial
        have n0 : ¬ o = nI 0 := by rw [q49]; decide
        have n1 : ¬ o = nI 1 := by rw [q49]; decide
        have n2 : ¬ o = nI 2 := by rw [q49]; decide
        have n3 : ¬ o = nI 3 := by rw [q49]; decide
        have n4 : ¬ o = nI 4 := by rw [q49]; decide
        have n5 : ¬ o = nI 5 := by rw [q49]; decide
        have n7 : ¬ o = nI 7 := by rw [q49]; decide
        have n8 : ¬ o = nI 8 := by rw [q49]; decide
        have n9 : ¬ o = nI 9 := by rw [q49]; decide
        have n10 : ¬ o = nI 10 := by rw [q49]; decide
        exact ⟨by first | exact am_s1 (by simp_all only [mz_may, true_and, false_and, and_true, and_false, or_false, false_or, not_true_eq_false, not_false_eq_true]) | exact am_s0 (by simp_all only [mz_may, true_and, false_and, and_true, and_false, or_false, false_or, not_true_eq_false, not_false_eq_true]), rfl, rfl⟩
    · refine V.st (st' := [.int (nI 0)]) (by rw [bI_f b50]; rfl) ?_
      refine V.if_eq (tgt := 182) dX8_mayBe_154 (by decide) (fun _ => ?_) (fun z => absurd z (by decide))
      refine V.iconst (v := nI 0) (by decide) dX8_mayBe_182 ?_
      refine V.rz dX8_mayBe_183 rfl (by decide) ?_
      have ne := And.intro (nI_ne11 6 0 (by decide)) trivial
      have n0 : ¬ o = nI 0 := by rw [q49]; decide
      have n1 : ¬ o = nI 1 := by rw [q49]; decide
      have n2 : ¬ o = nI 2 := by rw [q49]; decide
      have n3 : ¬ o = nI 3 := by rw [q49]; decide
      have n4 : ¬ o = nI 4 := by rw [q49]; decide
      have n5 : ¬ o = nI 5 := by rw [q49]; decide
      have n7 : ¬ o = nI 7 := by rw [q49]; decide
      have n8 : ¬ o = nI 8 := by rw [q49]; decide
      have n9 : ¬ o = nI 9 := by rw [q49]; decide
      have n10 : ¬ o = nI 10 := by rw [q49]; decide
      exact ⟨by first | exact am_s1 (by simp_all only [mz_may, true_and, false_and, and_true, and_false, or_false, false_or, not_true_eq_false, not_false_eq_true]) | exact am_s0 (by simp_all only [mz_may, true_and, false_and, and_true, and_false, or_false, false_or, not_true_eq_false, not_false_eq_true]), rfl, rfl⟩
  by_cases q58 : o = nI 7
  · refine V.st (st' := [.int (nI 7)]) (by rw [q58]) ?_
    refine V.tableIn (tgt := 184) dX8_mayBe_1 (by decide) (by decide) rfl (by decide) ?_
    refine V.aload_n (j := 0) rfl dX8_mayBe_184 ?_
    refine V.iload_n (j := 2) rfl dX8_mayBe_185 ?_
    refine V.cV (As := [.int a]) (st := []) dX8_mayBe_186 sX8_83 iX8_isValue lX8_isValue rfl rfl (md_isV I A nv hn _) ⟨by decide, by decide⟩ (Nat.le_of_ble_eq_true rfl) rfl (fun r I' A' hq => ?_)
    obtain ⟨rfl, rfl, rfl⟩ := hq
    by_cases b59 : mz_isV (nI nv) (a)
    · refine V.st (st' := [.int (nI 1)]) (by rw [bI_t b59]; rfl) ?_
      refine V.if_eq (tgt := 216) dX8_mayBe_189 (by decide) (fun z => absurd z (by decide)) (fun _ => ?_)
      refine V.aload_n (j := 0) rfl dX8_mayBe_192 ?_
      refine V.iload_n (j := 3) rfl dX8_mayBe_193 ?_
      refine V.cV (As := [.int b]) (st := []) dX8_mayBe_194 sX8_83 iX8_isValue lX8_isValue rfl rfl (md_isV I A nv hn _) ⟨by decide, by decide⟩ (Nat.le_of_ble_eq_true rfl) rfl (fun r I' A' hq => ?_)
      obtain ⟨rfl, rfl, rfl⟩ := hq
      by_cases b61 : mz_isV (nI nv) (b)
      · refine V.st (st' := [.int (nI 1)]) (by rw [bI_t b61]; rfl) ?_
        refine V.if_eq (tgt := 216) dX8_mayBe_197 (by decide) (fun z => absurd z (by decide)) (fun _ => ?_)
        refine V.iload (j := 4) rfl dX8_mayBe_200 ?_
        refine V.if_lt (tgt := 216) dX8_mayBe_202 (by decide) (fun c63 => ?_) (fun c63 => ?_)
        · refine V.iconst (v := nI 0) (by decide) dX8_mayBe_216 ?_
          refine V.rz dX8_mayBe_217 rfl (by decide) ?_
          have ne := And.intro (nI_ne11 7 0 (by decide)) trivial
          have n0 : ¬ o = nI 0 := by rw [q58]; decide
          have n1 : ¬ o = nI 1 := by rw [q58]; decide
          have n2 : ¬ o = nI 2 := by rw [q58]; decide
          have n3 : ¬ o = nI 3 := by rw [q58]; decide
          have n4 : ¬ o = nI 4 := by rw [q58]; decide
          have n5 : ¬ o = nI 5 := by rw [q58]; decide
          have n6 : ¬ o = nI 6 := by rw [q58]; decide
          have n8 : ¬ o = nI 8 := by rw [q58]; decide
          have n9 : ¬ o = nI 9 := by rw [q58]; decide
          have n10 : ¬ o = nI 10 := by rw [q58]; decide
          exact ⟨by first | exact am_s1 (by simp_all only [mz_may, true_and, false_and, and_true, and_false, or_false, false_or, not_true_eq_false, not_false_eq_true]) | exact am_s0 (by simp_all only [mz_may, true_and, false_and, and_true, and_false, or_false, false_or, not_true_eq_false, not_false_eq_true]), rfl, rfl⟩
        · refine V.iload (j := 4) rfl dX8_mayBe_205 ?_
          refine V.bipush (v := nI 60) (by decide) dX8_mayBe_207 ?_
          refine V.icmp_gt (tgt := 216) dX8_mayBe_209 (by decide) (fun c64 => ?_) (fun c64 => ?_)
          · refine V.iconst (v := nI 0) (by decide) dX8_mayBe_216 ?_
            refine V.rz dX8_mayBe_217 rfl (by decide) ?_
            have ne := And.intro (nI_ne11 7 0 (by decide)) trivial
            have n0 : ¬ o = nI 0 := by rw [q58]; decide
            have n1 : ¬ o = nI 1 := by rw [q58]; decide
            have n2 : ¬ o = nI 2 := by rw [q58]; decide
            have n3 : ¬ o = nI 3 := by rw [q58]; decide
            have n4 : ¬ o = nI 4 := by rw [q58]; decide
            have n5 : ¬ o = nI 5 := by rw [q58]; decide
            have n6 : ¬ o = nI 6 := by rw [q58]; decide
            have n8 : ¬ o = nI 8 := by rw [q58]; decide
            have n9 : ¬ o = nI 9 := by rw [q58]; decide
            have n10 : ¬ o = nI 10 := by rw [q58]; decide
            exact ⟨by first | exact am_s1 (by simp_all only [mz_may, true_and, false_and, and_true, and_false, or_false, false_or, not_true_eq_false, not_false_eq_true]) | exact am_s0 (by simp_all only [mz_may, true_and, false_and, and_true, and_false, or_false, false_or, not_true_eq_false, not_false_eq_true]), rfl, rfl⟩
          · refine V.iconst (v := nI 1) (by decide) dX8_mayBe_212 ?_
            refine V.goto (tgt := 217) dX8_mayBe_213 (by decide) ?_
            refine V.rz dX8_mayBe_217 rfl (by decide) ?_
            have ne := And.intro (nI_ne11 7 0 (by decide)) trivial
            have n0 : ¬ o = nI 0 := by rw [q58]; decide
            have n1 : ¬ o = nI 1 := by rw [q58]; decide
            have n2 : ¬ o = nI 2 := by rw [q58]; decide
            have n3 : ¬ o = nI 3 := by rw [q58]; decide
            have n4 : ¬ o = nI 4 := by rw [q58]; decide
            have n5 : ¬ o = nI 5 := by rw [q58]; decide
            have n6 : ¬ o = nI 6 := by rw [q58]; decide
            have n8 : ¬ o = nI 8 := by rw [q58]; decide
            have n9 : ¬ o = nI 9 := by rw [q58]; decide
            have n10 : ¬ o = nI 10 := by rw [q58]; decide
            exact ⟨by first | exact am_s1 (by simp_all only [mz_may, true_and, false_and, and_true, and_false, or_false, false_or, not_true_eq_false, not_false_eq_true]) | exact am_s0 (by simp_all only [mz_may, true_and, false_and, and_true, and_false, or_false, false_or, not_true_eq_false, not_false_eq_true]), rfl, rfl⟩
      · refine V.st (st' := [.int (nI 0)]) (by rw [bI_f b61]; rfl) ?_
        refine V.if_eq (tgt := 216) dX8_mayBe_197 (by decide) (fun _ => ?_) (fun z => absurd z (by decide))
        refine V.iconst (v := nI 0) (by decide) dX8_mayBe_216 ?_
        refine V.rz dX8_mayBe_217 rfl (by decide) ?_
        have ne := And.intro (nI_ne11 7 0 (by decide)) trivial
        have n0 : ¬ o = nI 0 := by rw [q58]; decide
        have n1 : ¬ o = nI 1 := by rw [q58]; decide
        have n2 : ¬ o = nI 2 := by rw [q58]; decide
        have n3 : ¬ o = nI 3 := by rw [q58]; decide
        have n4 : ¬ o = nI 4 := by rw [q58]; decide
        have n5 : ¬ o = nI 5 := by rw [q58]; decide
        have n6 : ¬ o = nI 6 := by rw [q58]; decide
        have n8 : ¬ o = nI 8 := by rw [q58]; decide
        have n9 : ¬ o = nI 9 := by rw [q58]; decide
        have n10 : ¬ o = nI 10 := by rw [q58]; decide
        exact ⟨by first | exact am_s1 (by simp_all only [mz_may, true_and, false_and, and_true, and_false, or_false, false_or, not_true_eq_false, not_false_eq_true]) | exact am_s0 (by simp_all only [mz_may, true_and, false_and, and_true, and_false, or_false, false_or, not_true_eq_false, not_false_eq_true]), rfl, rfl⟩
    · refine V.st (st' := [.int (nI 0)]) (by rw [bI_f b59]; rfl) ?_
      refine V.if_eq (tgt := 216) dX8_mayBe_189 (by decide) (fun _ => ?_) (fun z => absurd z (by decide))
      refine V.iconst (v := nI 0) (by decide) dX8_mayBe_216 ?_
      refine V.rz dX8_mayBe_217 rfl (by decide) ?_
      have ne := And.intro (nI_ne11 7 0 (by decide)) trivial
      have n0 : ¬ o = nI 0 := by rw [q58]; decide
      have n1 : ¬ o = nI 1 := by rw [q58]; decide
      have n2 : ¬ o = nI 2 := by rw [q58]; decide
      have n3 : ¬ o = nI 3 := by rw [q58]; decide
      have n4 : ¬ o = nI 4 := by rw [q58]; decide
      have n5 : ¬ o = nI 5 := by rw [q58]; decide
      have n6 : ¬ o = nI 6 := by rw [q58]; decide
      have n8 : ¬ o = nI 8 := by rw [q58]; decide
      have n9 : ¬ o = nI 9 := by rw [q58]; decide
      have n10 : ¬ o = nI 10 := by rw [q58]; decide
      exact ⟨by first | exact am_s1 (by simp_all only [mz_may, true_and, false_and, and_true, and_false, or_false, false_or, not_true_eq_false, not_false_eq_true]) | exact am_s0 (by simp_all only [mz_may, true_and, false_and, and_true, and_false, or_false, false_or, not_true_eq_false, not_false_eq_true]), rfl, rfl⟩
  by_cases q67 : o = nI 8
  · refine V.st (st' := [.int (nI 8)]) (by rw [q67]) ?_
    refine V.tableIn (tgt := 218) dX8_mayBe_1 (by decide) (by decide) rfl (by decide) ?_
    refine V.iload_n (j := 2) rfl dX8_mayBe_218 ?_
    refine V.if_lt (tgt := 232) dX8_mayBe_219 (by decide) (fun c68 => ?_) (fun c68 => ?_)
    · refine V.iconst (v := nI 0) (by decide) dX8_mayBe_232 ?_
      refine V.rz dX8_mayBe_233 rfl (by decide) ?_
      have ne := And.intro (nI_ne11 8 0 (by decide)) trivial
      have n0 : ¬ o = nI 0 := by rw [q67]; decide
      have n1 : ¬ o = nI 1 := by rw [q67]; decide
      have n2 : ¬ o = nI 2 := by rw [q67]; decide
      have n3 : ¬ o = nI 3 := by rw [q67]; decide
      have n4 : ¬ o = nI 4 := by rw [q67]; decide
      have n5 : ¬ o = nI 5 := by rw [q67]; decide
      have n6 : ¬ o = nI 6 := by rw [q67]; decide
      have n7 : ¬ o = nI 7 := by rw [q67]; decide
      have n9 : ¬ o = nI 9 := by rw [q67]; decide
      have n10 : ¬ o = nI 10 := by rw [q67]; decide
      exact ⟨by first | exact am_s1 (by simp_all only [mz_may, true_and, false_and, and_true, and_false, or_false, false_or, not_true_eq_false, not_false_eq_true]) | exact am_s0 (by simp_all only [mz_may, true_and, false_and, and_true, and_false, or_false, false_or, not_true_eq_false, not_false_eq_true]), rfl, rfl⟩
    · refine V.iload_n (j := 2) rfl dX8_mayBe_222 ?_
      refine V.bipush (v := nI 60) (by decide) dX8_mayBe_223 ?_
      refine V.icmp_gt (tgt := 232) dX8_mayBe_225 (by decide) (fun c69 => ?_) (fun c69 => ?_)
      · refine V.iconst (v := nI 0) (by decide) dX8_mayBe_232 ?_
        refine V.rz dX8_mayBe_233 rfl (by decide) ?_
        have ne := And.intro (nI_ne11 8 0 (by decide)) trivial
        have n0 : ¬ o = nI 0 := by rw [q67]; decide
        have n1 : ¬ o = nI 1 := by rw [q67]; decide
        have n2 : ¬ o = nI 2 := by rw [q67]; decide
        have n3 : ¬ o = nI 3 := by rw [q67]; decide
        have n4 : ¬ o = nI 4 := by rw [q67]; decide
        have n5 : ¬ o = nI 5 := by rw [q67]; decide
        have n6 : ¬ o = nI 6 := by rw [q67]; decide
        have n7 : ¬ o = nI 7 := by rw [q67]; decide
        have n9 : ¬ o = nI 9 := by rw [q67]; decide
        have n10 : ¬ o = nI 10 := by rw [q67]; decide
        exact ⟨by first | exact am_s1 (by simp_all only [mz_may, true_and, false_and, and_true, and_false, or_false, false_or, not_true_eq_false, not_false_eq_true]) | exact am_s0 (by simp_all only [mz_may, true_and, false_and, and_true, and_false, or_false, false_or, not_true_eq_false, not_false_eq_true]), rfl, rfl⟩
      · refine V.iconst (v := nI 1) (by decide) dX8_mayBe_228 ?_
        refine V.goto (tgt := 233) dX8_mayBe_229 (by decide) ?_
        refine V.rz dX8_mayBe_233 rfl (by decide) ?_
        have ne := And.intro (nI_ne11 8 0 (by decide)) trivial
        have n0 : ¬ o = nI 0 := by rw [q67]; decide
        have n1 : ¬ o = nI 1 := by rw [q67]; decide
        have n2 : ¬ o = nI 2 := by rw [q67]; decide
        have n3 : ¬ o = nI 3 := by rw [q67]; decide
        have n4 : ¬ o = nI 4 := by rw [q67]; decide
        have n5 : ¬ o = nI 5 := by rw [q67]; decide
        have n6 : ¬ o = nI 6 := by rw [q67]; decide
        have n7 : ¬ o = nI 7 := by rw [q67]; decide
        have n9 : ¬ o = nI 9 := by rw [q67]; decide
        have n10 : ¬ o = nI 10 := by rw [q67]; decide
        exact ⟨by first | exact am_s1 (by simp_all only [mz_may, true_and, false_and, and_true, and_false, or_false, false_or, not_true_eq_false, not_false_eq_true]) | exact am_s0 (by simp_all only [mz_may, true_and, false_and, and_true, and_false, or_false, false_or, not_true_eq_false, not_false_eq_true]), rfl, rfl⟩
  by_cases q70 : o = nI 9
  · refine V.st (st' := [.int (nI 9)]) (by rw [q70]) ?_
    refine V.tableIn (tgt := 56) dX8_mayBe_1 (by decide) (by decide) rfl (by decide) ?_
    refine V.aload_n (j := 0) rfl dX8_mayBe_56 ?_
    refine V.iload_n (j := 2) rfl dX8_mayBe_57 ?_
    refine V.cV (As := [.int a]) (st := []) dX8_mayBe_58 sX8_83 iX8_isValue lX8_isValue rfl rfl (md_isV I A nv hn _) ⟨by decide, by decide⟩ (Nat.le_of_ble_eq_true rfl) rfl (fun r I' A' hq => ?_)
    obtain ⟨rfl, rfl, rfl⟩ := hq
    by_cases b71 : mz_isV (nI nv) (a)
    · refine V.st (st' := [.int (nI 1)]) (by rw [bI_t b71]; rfl) ?_
      refine V.rz dX8_mayBe_61 rfl (by decide) ?_
      have ne := And.intro (nI_ne11 9 0 (by decide)) trivial
      have n0 : ¬ o = nI 0 := by rw [q70]; decide
      have n1 : ¬ o = nI 1 := by rw [q70]; decide
      have n2 : ¬ o = nI 2 := by rw [q70]; decide
      have n3 : ¬ o = nI 3 := by rw [q70]; decide
      have n4 : ¬ o = nI 4 := by rw [q70]; decide
      have n5 : ¬ o = nI 5 := by rw [q70]; decide
      have n6 : ¬ o = nI 6 := by rw [q70]; decide
      have n7 : ¬ o = nI 7 := by rw [q70]; decide
      have n8 : ¬ o = nI 8 := by rw [q70]; decide
      have n10 : ¬ o = nI 10 := by rw [q70]; decide
      exact ⟨by first | exact am_s1 (by simp_all only [mz_may, true_and, false_and, and_true, and_false, or_false, false_or, not_true_eq_false, not_false_eq_true]) | exact am_s0 (by simp_all only [mz_may, true_and, false_and, and_true, and_false, or_false, false_or, not_true_eq_false, not_false_eq_true]), rfl, rfl⟩
    · refine V.st (st' := [.int (nI 0)]) (by rw [bI_f b71]; rfl) ?_
      refine V.rz dX8_mayBe_61 rfl (by decide) ?_
      have ne := And.intro (nI_ne11 9 0 (by decide)) trivial
      have n0 : ¬ o = nI 0 := by rw [q70]; decide
      have n1 : ¬ o = nI 1 := by rw [q70]; decide
      have n2 : ¬ o = nI 2 := by rw [q70]; decide
      have n3 : ¬ o = nI 3 := by rw [q70]; decide
      have n4 : ¬ o = nI 4 := by rw [q70]; decide
      have n5 : ¬ o = nI 5 := by rw [q70]; decide
      have n6 : ¬ o = nI 6 := by rw [q70]; decide
      have n7 : ¬ o = nI 7 := by rw [q70]; decide
      have n8 : ¬ o = nI 8 := by rw [q70]; decide
      have n10 : ¬ o = nI 10 := by rw [q70]; decide
      exact ⟨by first | exact am_s1 (by simp_all only [mz_may, true_and, false_and, and_true, and_false, or_false, false_or, not_true_eq_false, not_false_eq_true]) | exact am_s0 (by simp_all only [mz_may, true_and, false_and, and_true, and_false, or_false, false_or, not_true_eq_false, not_false_eq_true]), rfl, rfl⟩
  have tq1 : ¬ (o).toInt = 0 := lv_neT q1 (by decide)
  have tq3 : ¬ (o).toInt = 1 := lv_neT q3 (by decide)
  have tq10 : ¬ (o).toInt = 2 := lv_neT q10 (by decide)
  have tq20 : ¬ (o).toInt = 3 := lv_neT q20 (by decide)
  have tq30 : ¬ (o).toInt = 4 := lv_neT q30 (by decide)
  have tq40 : ¬ (o).toInt = 5 := lv_neT q40 (by decide)
  have tq49 : ¬ (o).toInt = 6 := lv_neT q49 (by decide)
  have tq58 : ¬ (o).toInt = 7 := lv_neT q58 (by decide)
  have tq67 : ¬ (o).toInt = 8 := lv_neT q67 (by decide)
  have tq70 : ¬ (o).toInt = 9 := lv_neT q70 (by decide)
  refine V.tableOut (tgt := 234) dX8_mayBe_1 (by omega) (by decide) ?_
  refine V.iload_n (j := 1) rfl dX8_mayBe_234 ?_
  refine V.bipush (v := nI 10) (by decide) dX8_mayBe_235 ?_
  refine V.icmp_ne (tgt := 244) dX8_mayBe_237 (by decide) (fun c72 => ?_) (fun c72 => ?_)
  · refine V.iconst (v := nI 0) (by decide) dX8_mayBe_244 ?_
    refine V.rz dX8_mayBe_245 rfl (by decide) ?_
    exact ⟨by first | exact am_s1 (by simp_all only [mz_may, true_and, false_and, and_true, and_false, or_false, false_or, or_true, not_true_eq_false, not_false_eq_true]) | exact am_s0 (by simp_all only [mz_may, true_and, false_and, and_true, and_false, or_false, false_or, or_true, not_true_eq_false, not_false_eq_true]; try simp), rfl, rfl⟩
  · refine V.iconst (v := nI 1) (by decide) dX8_mayBe_240 ?_
    refine V.goto (tgt := 245) dX8_mayBe_241 (by decide) ?_
    refine V.rz dX8_mayBe_245 rfl (by decide) ?_
    exact ⟨by first | exact am_s1 (by simp_all only [mz_may, true_and, false_and, and_true, and_false, or_false, false_or, or_true, not_true_eq_false, not_false_eq_true]) | exact am_s0 (by simp_all only [mz_may, true_and, false_and, and_true, and_false, or_false, false_or, or_true, not_true_eq_false, not_false_eq_true]; try simp), rfl, rfl⟩
def mz_pOK (nv ns : Nat) (cl : Nat → Int32) (o a b c : Int32) : Prop := mz_may nv cl o a b c ∧ ¬ ns = 60
set_option maxRecDepth 100000 in
set_option maxHeartbeats 4000000 in
theorem md_put {G : am_G} (I A : Nat → Nat → Int32) (nv ns : Nat) (hn : I mM 0 = nI nv) (hv : nv ≤ 24) (hs : I mM 2 = nI ns) (hs2 : ns ≤ 60) (o a b c : Int32) : Cm G MX8_put 3 67 [.ref mM, .int o, .int a, .int b, .int c] I A (fun r I' A' => (mz_pOK nv ns (A m_classes) o a b c → r = some (.int (nI ns)) ∧ upI I mM 2 (nI (ns + 1)) = I' ∧ upA (upA (upA (upA A m_ops (upd (A m_ops) ns o)) m_first (upd (A m_first) ns a)) m_second (upd (A m_second) ns b)) m_third (upd (A m_third) ns c) = A') ∧ (¬ mz_pOK nv ns (A m_classes) o a b c → r = some (.int (-1)) ∧ I = I' ∧ A = A')) := by
  refine Cm.of (by decide) (Nat.le_of_ble_eq_true rfl) rfl ?_
  show V G MX8_put (am_R 3 67 0 0) _ 0 0 0 [(0, .ref mM), (1, .int o), (2, .int a), (3, .int b), (4, .int c)] [] (hp I A)
  refine V.aload_n (j := 0) rfl dX8_put_0 ?_
  refine V.iload_n (j := 1) rfl dX8_put_1 ?_
  refine V.iload_n (j := 2) rfl dX8_put_2 ?_
  refine V.iload_n (j := 3) rfl dX8_put_3 ?_
  refine V.iload (j := 4) rfl dX8_put_4 ?_
  refine V.cV (As := [.int o, .int a, .int b, .int c]) (st := []) dX8_put_6 sX8_91 iX8_mayBe lX8_mayBe rfl rfl (md_mayBe I A nv hn hv _ _ _ _) ⟨by decide, by decide⟩ (Nat.le_of_ble_eq_true rfl) rfl (fun r I' A' hq => ?_)
  obtain ⟨rfl, rfl, rfl⟩ := hq
  by_cases b1 : mz_may nv (A m_classes) o a b c
  · refine V.st (st' := [.int (nI 1)]) (by rw [bI_t b1]; rfl) ?_
    refine V.if_eq (tgt := 21) dX8_put_9 (by decide) (fun z => absurd z (by decide)) (fun _ => ?_)
    refine V.aload_n (j := 0) rfl dX8_put_12 ?_
    refine V.geti (v := nI ns) dX8_put_13 fX8_95 rfl rfl hs ?_
    refine V.bipush (v := nI 60) (by decide) dX8_put_16 ?_
    refine V.icmp_neN (tgt := 23) dX8_put_18 (by decide) (by omega) (by omega) (fun c3 => ?_) (fun c3 => ?_)
    · refine V.aload_n (j := 0) rfl dX8_put_23 ?_
      refine V.getr (q := m_ops) dX8_put_24 fX8_13 rfl rfl ?_
      refine V.aload_n (j := 0) rfl dX8_put_27 ?_
      refine V.geti (v := nI ns) dX8_put_28 fX8_95 rfl rfl hs ?_
      refine V.iload_n (j := 1) rfl dX8_put_31 ?_
      refine V.sta (g := upd (A m_ops) ns (o)) dX8_put_32 rfl (by omega) (by decide) rfl ?_
      refine V.aload_n (j := 0) rfl dX8_put_33 ?_
      refine V.getr (q := m_first) dX8_put_34 fX8_16 rfl rfl ?_
      refine V.aload_n (j := 0) rfl dX8_put_37 ?_
      refine V.geti (v := nI ns) dX8_put_38 fX8_95 rfl rfl hs ?_
      refine V.iload_n (j := 2) rfl dX8_put_41 ?_
      refine V.sta (g := upd (A m_first) ns (a)) dX8_put_42 rfl (by omega) (by decide) rfl ?_
      refine V.aload_n (j := 0) rfl dX8_put_43 ?_
      refine V.getr (q := m_second) dX8_put_44 fX8_19 rfl rfl ?_
      refine V.aload_n (j := 0) rfl dX8_put_47 ?_
      refine V.geti (v := nI ns) dX8_put_48 fX8_95 rfl rfl hs ?_
      refine V.iload_n (j := 3) rfl dX8_put_51 ?_
      refine V.sta (g := upd (A m_second) ns (b)) dX8_put_52 rfl (by omega) (by decide) rfl ?_
      refine V.aload_n (j := 0) rfl dX8_put_53 ?_
      refine V.getr (q := m_third) dX8_put_54 fX8_22 rfl rfl ?_
      refine V.aload_n (j := 0) rfl dX8_put_57 ?_
      refine V.geti (v := nI ns) dX8_put_58 fX8_95 rfl rfl hs ?_
      refine V.iload (j := 4) rfl dX8_put_61 ?_
      refine V.sta (g := upd (A m_third) ns (c)) dX8_put_63 rfl (by omega) (by decide) rfl ?_
      refine V.aload_n (j := 0) rfl dX8_put_64 ?_
      refine V.dup rfl dX8_put_65 ?_
      refine V.geti (v := nI ns) dX8_put_66 fX8_95 rfl rfl hs ?_
      refine V.iconst (v := nI 1) (by decide) dX8_put_69 ?_
      refine V.iaddN dX8_put_70 ?_
      refine V.puti dX8_put_71 pX8_95 rfl rfl ?_
      refine V.aload_n (j := 0) rfl dX8_put_74 ?_
      refine V.geti (v := nI (ns + 1)) dX8_put_75 fX8_95 rfl rfl rfl ?_
      refine V.iconst (v := nI 1) (by decide) dX8_put_78 ?_
      refine V.isubN dX8_put_79 (by omega) ?_
      refine V.st (st' := [.int (nI ns)]) rfl ?_
      refine V.ri dX8_put_80 rfl ?_
      exact ⟨fun _ => ⟨by simp, rfl, rfl⟩, fun z => absurd ⟨b1, c3⟩ z⟩
    · refine V.iconst (v := (-1)) (by decide) dX8_put_21 ?_
      refine V.ri dX8_put_22 rfl ?_
      exact ⟨fun z => by first | exact absurd z.1 b1 | (obtain ⟨z1, z2⟩ := z; contradiction), fun _ => ⟨rfl, rfl, rfl⟩⟩
  · refine V.st (st' := [.int (nI 0)]) (by rw [bI_f b1]; rfl) ?_
    refine V.if_eq (tgt := 21) dX8_put_9 (by decide) (fun _ => ?_) (fun z => absurd z (by decide))
    refine V.iconst (v := (-1)) (by decide) dX8_put_21 ?_
    refine V.ri dX8_put_22 rfl ?_
    exact ⟨fun z => by first | exact absurd z.1 b1 | (obtain ⟨z1, z2⟩ := z; contradiction), fun _ => ⟨rfl, rfl, rfl⟩⟩
