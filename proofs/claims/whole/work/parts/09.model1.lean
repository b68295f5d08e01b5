theorem nIc_0 : nI 0 = 0 := rfl
theorem nIc_1 : nI 1 = 1 := rfl
theorem nIc_2 : nI 2 = 2 := rfl
theorem nIc_3 : nI 3 = 3 := rfl
theorem nIc_4 : nI 4 = 4 := rfl
theorem nIc_5 : nI 5 = 5 := rfl
theorem nIc_6 : nI 6 = 6 := rfl
theorem nIc_7 : nI 7 = 7 := rfl
theorem nIc_8 : nI 8 = 8 := rfl
theorem nIc_9 : nI 9 = 9 := rfl
theorem nIc_10 : nI 10 = 10 := rfl
theorem nIc_11 : nI 11 = 11 := rfl
theorem nIc_12 : nI 12 = 12 := rfl
theorem nIc_16 : nI 16 = 16 := rfl
theorem nIc_24 : nI 24 = 24 := rfl
theorem nIc_32 : nI 32 = 32 := rfl
theorem nIc_50 : nI 50 = 50 := rfl
theorem nIc_60 : nI 60 = 60 := rfl
theorem nIc_63 : nI 63 = 63 := rfl
theorem nIc_64 : nI 64 = 64 := rfl
theorem nIc_100 : nI 100 = 100 := rfl
def mz_isV (nv v : Int32) : Prop := ¬ v < 0 ∧ ¬ nv ≤ v
theorem mz_nat {nv : Nat} {v : Int32} (hn : nv < 2 ^ 31) (h : mz_isV (nI nv) v) : ∃ j : Nat, j < nv ∧ v = nI j := by
  obtain ⟨j, hj, rfl⟩ := nI_of h.1
  exact ⟨j, by have := h.2; rw [nI_leI hn hj] at this; omega, rfl⟩
theorem mz_lt {nv : Nat} {v : Int32} (hn : nv < 2 ^ 31) (h : ¬ v < 0) (h2 : v < nI nv) : ∃ j : Nat, j < nv ∧ v = nI j := by
  obtain ⟨j, hj, rfl⟩ := nI_of h
  exact ⟨j, by rw [nI_ltI hj hn] at h2; exact h2, rfl⟩
theorem mz_le {nv : Nat} {v : Int32} (hn : nv < 2 ^ 31) (h : ¬ v < 0) (h2 : v ≤ nI nv) : ∃ j : Nat, j ≤ nv ∧ v = nI j := by
  obtain ⟨j, hj, rfl⟩ := nI_of h
  exact ⟨j, by rw [nI_leI hj hn] at h2; exact h2, rfl⟩
theorem mz_ngt {nv : Nat} {v : Int32} (hn : nv < 2 ^ 31) (h : ¬ v < 0) (h2 : ¬ nI nv < v) : ∃ j : Nat, j ≤ nv ∧ v = nI j := by
  obtain ⟨j, hj, rfl⟩ := nI_of h
  exact ⟨j, by rw [nI_ltI hn hj] at h2; omega, rfl⟩
set_option maxRecDepth 100000 in
set_option maxHeartbeats 4000000 in
theorem md_isValue {G : am_G} (I A : Nat → Nat → Int32) (v : Int32) : Cm G MX8_isValue 0 0 [.ref mM, .int v] I A (fun r I' A' => r = some (.int (bI (mz_isV (I mM 0) v))) ∧ I = I' ∧ A = A') := by
  refine Cm.of (by decide) (Nat.le_of_ble_eq_true rfl) rfl ?_
  show V G MX8_isValue (am_R 0 0 0 0) _ 0 0 0 [(0, .ref mM), (1, .int v)] [] (hp I A)
  refine V.iload_n (j := 1) rfl dX8_isValue_0 ?_
  refine V.if_lt (tgt := 16) dX8_isValue_1 (by decide) (fun c1 => ?_) (fun c1 => ?_)
  · refine V.iconst (v := nI 0) (by decide) dX8_isValue_16 ?_
    refine V.rz dX8_isValue_17 rfl (by decide) ?_
    exact ⟨by first | exact am_s1 (by simp_all [mz_isV]) | exact am_s0 (by simp_all [mz_isV]), rfl, rfl⟩
  · refine V.iload_n (j := 1) rfl dX8_isValue_4 ?_
    refine V.aload_n (j := 0) rfl dX8_isValue_5 ?_
    refine V.geti (v := I mM 0) dX8_isValue_6 fX8_79 rfl rfl rfl ?_
    refine V.icmp_ge (tgt := 16) dX8_isValue_9 (by decide) (fun c2 => ?_) (fun c2 => ?_)
    · refine V.iconst (v := nI 0) (by decide) dX8_isValue_16 ?_
      refine V.rz dX8_isValue_17 rfl (by decide) ?_
      exact ⟨by first | exact am_s1 (by simp_all [mz_isV]) | exact am_s0 (by simp_all [mz_isV]), rfl, rfl⟩
    · refine V.iconst (v := nI 1) (by decide) dX8_isValue_12 ?_
      refine V.goto (tgt := 17) dX8_isValue_13 (by decide) ?_
      refine V.rz dX8_isValue_17 rfl (by decide) ?_
      exact ⟨by first | exact am_s1 (by simp_all [mz_isV]) | exact am_s0 (by simp_all [mz_isV]), rfl, rfl⟩
set_option maxRecDepth 100000 in
set_option maxHeartbeats 4000000 in
theorem md_clear {G : am_G} (I A : Nat → Nat → Int32)  : Cm G MX8_clear 0 0 [.ref mM] I A (fun r I' A' => r = some (.int (I mM 2)) ∧ upI I mM 2 0 = I' ∧ A = A') := by
  refine Cm.of (by decide) (Nat.le_of_ble_eq_true rfl) rfl ?_
  show V G MX8_clear (am_R 0 0 0 0) _ 0 0 0 [(0, .ref mM)] [] (hp I A)
  refine V.aload_n (j := 0) rfl dX8_clear_0 ?_
  refine V.geti (v := I mM 2) dX8_clear_1 fX8_95 rfl rfl rfl ?_
  refine V.istore_n (ls' := [(0, .ref mM), (1, .int (I mM 2))]) dX8_clear_4 (by decide) rfl ?_
  refine V.aload_n (j := 0) rfl dX8_clear_5 ?_
  refine V.iconst (v := nI 0) (by decide) dX8_clear_6 ?_
  refine V.puti dX8_clear_7 pX8_95 rfl rfl ?_
  refine V.iload_n (j := 1) rfl dX8_clear_10 ?_
  refine V.ri dX8_clear_11 rfl ?_
  exact ⟨rfl, rfl, rfl⟩
set_option maxRecDepth 100000 in
set_option maxHeartbeats 4000000 in
theorem md_made {G : am_G} (I A : Nat → Nat → Int32) (v : Int32) : Cm G MX8_made 0 0 [.ref mM, .int v] I A (fun r I' A' => r = some (.int (if v = 0 then I mM 18 else if v = 1 then I mM 19 else -1)) ∧ I = I' ∧ A = A') := by
  refine Cm.of (by decide) (Nat.le_of_ble_eq_true rfl) rfl ?_
  show V G MX8_made (am_R 0 0 0 0) _ 0 0 0 [(0, .ref mM), (1, .int v)] [] (hp I A)
  refine V.iload_n (j := 1) rfl dX8_made_0 ?_
  refine V.if_ne (tgt := 11) dX8_made_1 (by decide) (fun c1 => ?_) (fun c1 => ?_)
  · refine V.iload_n (j := 1) rfl dX8_made_11 ?_
    refine V.iconst (v := nI 1) (by decide) dX8_made_12 ?_
    refine V.icmp_ne (tgt := 23) dX8_made_13 (by decide) (fun c2 => ?_) (fun c2 => ?_)
    · refine V.iconst (v := (-1)) (by decide) dX8_made_23 ?_
      refine V.ri dX8_made_24 rfl ?_
      exact ⟨by simp_all [nI_0, nIc_0, nIc_1, nIc_2, nIc_3, nIc_4, nIc_5, nIc_6, nIc_7, nIc_8, nIc_9, nIc_10, nIc_11, nIc_12], rfl, rfl⟩
    · refine V.aload_n (j := 0) rfl dX8_made_16 ?_
      refine V.geti (v := I mM 19) dX8_made_17 fX8_175 rfl rfl rfl ?_
      refine V.goto (tgt := 24) dX8_made_20 (by decide) ?_
      refine V.ri dX8_made_24 rfl ?_
      exact ⟨by simp_all [nI_0, nIc_0, nIc_1, nIc_2, nIc_3, nIc_4, nIc_5, nIc_6, nIc_7, nIc_8, nIc_9, nIc_10, nIc_11, nIc_12], rfl, rfl⟩
  · refine V.aload_n (j := 0) rfl dX8_made_4 ?_
    refine V.geti (v := I mM 18) dX8_made_5 fX8_172 rfl rfl rfl ?_
    refine V.goto (tgt := 24) dX8_made_8 (by decide) ?_
    refine V.ri dX8_made_24 rfl ?_
    exact ⟨by simp_all [nI_0, nIc_0, nIc_1, nIc_2, nIc_3, nIc_4, nIc_5, nIc_6, nIc_7, nIc_8, nIc_9, nIc_10, nIc_11, nIc_12], rfl, rfl⟩
set_option maxRecDepth 100000 in
set_option maxHeartbeats 4000000 in
theorem md_check {G : am_G} (I A : Nat → Nat → Int32)  : Cm G MX8_check 0 0 [.ref mM] I A (fun r I' A' => r = some (.int 1) ∧ I = I' ∧ A = A') := by
  refine Cm.of (by decide) (Nat.le_of_ble_eq_true rfl) rfl ?_
  show V G MX8_check (am_R 0 0 0 0) _ 0 0 0 [(0, .ref mM)] [] (hp I A)
  refine V.iconst (v := nI 1) (by decide) dX8_check_0 ?_
  refine V.ri dX8_check_1 rfl ?_
  exact ⟨rfl, rfl, rfl⟩
set_option maxRecDepth 100000 in
set_option maxHeartbeats 4000000 in
theorem md_register {G : am_G} (I A : Nat → Nat → Int32) (c v : Int32) : Cm G MX8_register 0 0 [.int c, .int v] I A (fun r I' A' => r = some (.int (16 * c + v)) ∧ I = I' ∧ A = A') := by
  refine Cm.of (by decide) (Nat.le_of_ble_eq_true rfl) rfl ?_
  show V G MX8_register (am_R 0 0 0 0) _ 0 0 0 [(0, .int c), (1, .int v)] [] (hp I A)
  refine V.bipush (v := nI 16) (by decide) dX8_register_0 ?_
  refine V.iload_n (j := 0) rfl dX8_register_2 ?_
  refine V.imul dX8_register_3 ?_
  refine V.iload_n (j := 1) rfl dX8_register_4 ?_
  refine V.iadd dX8_register_5 ?_
  refine V.ri dX8_register_6 rfl ?_
  exact ⟨rfl, rfl, rfl⟩
set_option maxRecDepth 100000 in
set_option maxHeartbeats 4000000 in
theorem md_reckoned {G : am_G} (I A : Nat → Nat → Int32) (o a b : Int32) : Cm G MX8_reckoned 0 0 [.int o, .int a, .int b] I A (fun r I' A' => r = some (.int (if o = 2 then a + b else if o = 3 then a - b else a * b)) ∧ I = I' ∧ A = A') := by
  refine Cm.of (by decide) (Nat.le_of_ble_eq_true rfl) rfl ?_
  show V G MX8_reckoned (am_R 0 0 0 0) _ 0 0 0 [(0, .int o), (1, .int a), (2, .int b)] [] (hp I A)
  refine V.iload_n (j := 0) rfl dX8_reckoned_0 ?_
  refine V.iconst (v := nI 2) (by decide) dX8_reckoned_1 ?_
  refine V.icmp_ne (tgt := 11) dX8_reckoned_2 (by decide) (fun c1 => ?_) (fun c1 => ?_)
  · refine V.iload_n (j := 0) rfl dX8_reckoned_11 ?_
    refine V.iconst (v := nI 3) (by decide) dX8_reckoned_12 ?_
    refine V.icmp_ne (tgt := 22) dX8_reckoned_13 (by decide) (fun c2 => ?_) (fun c2 => ?_)
    · refine V.iload_n (j := 1) rfl dX8_reckoned_22 ?_
      refine V.iload_n (j := 2) rfl dX8_reckoned_23 ?_
      refine V.imul dX8_reckoned_24 ?_
      refine V.ri dX8_reckoned_25 rfl ?_
      exact ⟨by simp_all [nI_0, nIc_0, nIc_1, nIc_2, nIc_3, nIc_4, nIc_5, nIc_6, nIc_7, nIc_8, nIc_9, nIc_10, nIc_11, nIc_12], rfl, rfl⟩
    · refine V.iload_n (j := 1) rfl dX8_reckoned_16 ?_
      refine V.iload_n (j := 2) rfl dX8_reckoned_17 ?_
      refine V.isub dX8_reckoned_18 ?_
      refine V.goto (tgt := 25) dX8_reckoned_19 (by decide) ?_
      refine V.ri dX8_reckoned_25 rfl ?_
      exact ⟨by simp_all [nI_0, nIc_0, nIc_1, nIc_2, nIc_3, nIc_4, nIc_5, nIc_6, nIc_7, nIc_8, nIc_9, nIc_10, nIc_11, nIc_12], rfl, rfl⟩
  · refine V.iload_n (j := 1) rfl dX8_reckoned_5 ?_
    refine V.iload_n (j := 2) rfl dX8_reckoned_6 ?_
    refine V.iadd dX8_reckoned_7 ?_
    refine V.goto (tgt := 25) dX8_reckoned_8 (by decide) ?_
    refine V.ri dX8_reckoned_25 rfl ?_
    exact ⟨by simp_all [nI_0, nIc_0, nIc_1, nIc_2, nIc_3, nIc_4, nIc_5, nIc_6, nIc_7, nIc_8, nIc_9, nIc_10, nIc_11, nIc_12], rfl, rfl⟩
/-- a place of a row of n that a number tells, and what is written there -/
def mz_put (n : Nat) (f : Nat → Int32) (k v : Int32) : Nat → Int32 := if ¬ k < 0 ∧ k < nI n then upd f k.toNatClampNeg v else f
theorem mz_put_in {n j : Nat} {f : Nat → Int32} {v : Int32} (hn : n < 2 ^ 31) (hj : j < n) : mz_put n f (nI j) v = upd f j v := by
  unfold mz_put
  rw [if_pos ⟨nI_pos (by omega), (nI_ltI (by omega) hn).mpr hj⟩, nI_clamp (by omega)]
set_option maxRecDepth 100000 in
set_option maxHeartbeats 4000000 in
theorem md_memory {G : am_G} (I A : Nat → Nat → Int32) (k v : Int32) : Cm G MX8_memory 0 0 [.ref mM, .int k, .int v] I A (fun r I' A' => r = some (.int (if ¬ k < 0 ∧ k < 64 then 1 else 0)) ∧ I = I' ∧ upA A m_memory (mz_put 64 (A m_memory) k v) = A') := by
  refine Cm.of (by decide) (Nat.le_of_ble_eq_true rfl) rfl ?_
  show V G MX8_memory (am_R 0 0 0 0) _ 0 0 0 [(0, .ref mM), (1, .int k), (2, .int v)] [] (hp I A)
  refine V.iload_n (j := 1) rfl dX8_memory_0 ?_
  refine V.if_lt (tgt := 10) dX8_memory_1 (by decide) (fun c1 => ?_) (fun c1 => ?_)
  · refine V.iconst (v := nI 0) (by decide) dX8_memory_10 ?_
    refine V.ri dX8_memory_11 rfl ?_
    have hz : ¬ (¬ k < 0 ∧ k < 64) := by simp_all [nIc_64]
    exact ⟨by rw [if_neg hz]; rfl, rfl, by unfold mz_put; rw [if_neg (by simpa [nIc_64] using hz), upA_i]⟩
  · refine V.iload_n (j := 1) rfl dX8_memory_4 ?_
    refine V.bipush (v := nI 64) (by decide) dX8_memory_5 ?_
    refine V.icmp_lt (tgt := 12) dX8_memory_7 (by decide) (fun c2 => ?_) (fun c2 => ?_)
    · obtain ⟨j, hj, rfl⟩ := mz_lt (nv := 64) (by decide) c1 c2
      refine V.aload_n (j := 0) rfl dX8_memory_12 ?_
      refine V.getr (q := m_memory) dX8_memory_13 fX8_28 rfl rfl ?_
      refine V.iload_n (j := 1) rfl dX8_memory_16 ?_
      refine V.iload_n (j := 2) rfl dX8_memory_17 ?_
      refine V.sta (g := upd (A m_memory) j (v)) dX8_memory_18 rfl (by omega) (by decide) rfl ?_
      refine V.iconst (v := nI 1) (by decide) dX8_memory_19 ?_
      refine V.ri dX8_memory_20 rfl ?_
      exact ⟨by rw [if_pos ⟨c1, c2⟩]; rfl, rfl, by rw [mz_put_in (by decide) hj]⟩
    · refine V.iconst (v := nI 0) (by decide) dX8_memory_10 ?_
      refine V.ri dX8_memory_11 rfl ?_
      have hz : ¬ (¬ k < 0 ∧ k < 64) := by simp_all [nIc_64]
      exact ⟨by rw [if_neg hz]; rfl, rfl, by unfold mz_put; rw [if_neg (by simpa [nIc_64] using hz), upA_i]⟩
