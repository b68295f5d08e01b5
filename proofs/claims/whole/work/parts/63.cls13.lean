theorem cz_neg (x : Int32) : x < 0 ↔ bg_t x 31 = true := by
  rw [Int32.lt_iff_toInt_lt, show (0 : Int32).toInt = 0 from by decide]
  unfold bg_t
  have h := BitVec.msb_eq_toInt (x := x.toBitVec)
  rw [BitVec.msb_eq_getLsbD_last] at h
  rw [h]
  exact decide_eq_true_iff.symm
theorem cz_x64 (x : Int32) : (0 : Int32) ≤ (x ^^^ nI 64) ↔ 0 ≤ x.toInt := by
  rw [← Int32.not_lt, cz_neg, bg_xor, show bg_t (nI 64) 31 = false from by decide, Bool.xor_false, ← cz_neg, Int32.lt_iff_toInt_lt, show (0 : Int32).toInt = 0 from by decide]
  omega
theorem cz_cl_int (x : Int32) : ((mz_cl x : Nat) : Int) = x.toInt % 64 := by
  unfold mz_cl
  have h : x.toInt = x.toBitVec.toInt := rfl
  rw [h, BitVec.toInt_eq_toNat_cond]
  split <;> omega
theorem cz_fm1 {x : Int32} (h : 0 ≤ x.toInt) : x - x / nI 64 * nI 64 = nI (mz_cl x) := by
  apply Int32.toInt_inj.mp
  have := mz_cl_lt x
  rw [rem_toInt, nI_toInt (show 64 < 2 ^ 31 by omega), nI_toInt (show mz_cl x < 2 ^ 31 by omega), cz_cl_int, Int.tmod_eq_emod_of_nonneg h]
  rfl
theorem cz_fm0 {x : Int32} (h : ¬ 0 ≤ x.toInt) : (x - x / nI 64 * nI 64).toInt = - ((- x.toInt) % 64) := by
  rw [rem_toInt, nI_toInt (by omega), show x.toInt.tmod ((64 : Nat) : Int) = -((-x.toInt).tmod 64) from by rw [Int.neg_tmod, Int.neg_neg]; rfl, Int.tmod_eq_emod_of_nonneg (by omega)]
theorem cz_fm2 {x : Int32} (h : ¬ 0 ≤ x.toInt) (h2 : x - x / nI 64 * nI 64 = 0) : x - x / nI 64 * nI 64 = nI (mz_cl x) := by
  have e := cz_fm0 h
  have := mz_cl_lt x
  have e2 := cz_cl_int x
  apply Int32.toInt_inj.mp
  rw [nI_toInt (by omega), e2, e]
  rw [h2, show (0 : Int32).toInt = 0 from by decide] at e
  omega
theorem cz_fm3 {x : Int32} (h : ¬ 0 ≤ x.toInt) (h2 : ¬ x - x / nI 64 * nI 64 = 0) : x - x / nI 64 * nI 64 + nI 64 = nI (mz_cl x) := by
  have e := cz_fm0 h
  have := mz_cl_lt x
  have e2 := cz_cl_int x
  have h3 : ¬ (x - x / nI 64 * nI 64).toInt = 0 := fun z => h2 (Int32.toInt_inj.mp (by rw [z]; decide))
  apply Int32.toInt_inj.mp
  rw [Int32.toInt_add, nI_toInt (show 64 < 2 ^ 31 by omega), nI_toInt (by omega), e2, e, Int.bmod_eq_of_le (by omega) (by omega)]
  omega
set_option maxRecDepth 100000 in
set_option maxHeartbeats 4000000 in
theorem cd_fmod {G : am_G} (I A : Nat → Nat → Int32) (x : Int32) : Cm G MJ9_floorMod_7cf53 0 0 [.int x, .int (nI 64)] I A (fun r I' A' => r = some (.int (nI (mz_cl x))) ∧ I = I' ∧ A = A') := by
  refine Cm.ofF (by decide +kernel) (Nat.le_of_ble_eq_true rfl) rfl ?_
  show V G MJ9_floorMod_7cf53 (am_R 0 0 0 0) _ 0 0 0 [(0, .int x), (1, .int (nI 64))] [] (hp I A)
  refine V.iload_n (j := 0) rfl dJ9_floorMod_7cf53_0 ?_
  refine V.iload_n (j := 1) rfl dJ9_floorMod_7cf53_1 ?_
  refine V.irem (by decide) dJ9_floorMod_7cf53_2 ?_
  refine V.istore_n (ls' := [(0, .int x), (1, .int (nI 64)), (2, .int ((x) - (x) / (nI 64) * (nI 64)))]) dJ9_floorMod_7cf53_3 (by decide) rfl ?_
  refine V.iload_n (j := 0) rfl dJ9_floorMod_7cf53_4 ?_
  refine V.iload_n (j := 1) rfl dJ9_floorMod_7cf53_5 ?_
  refine V.ixor dJ9_floorMod_7cf53_6 ?_
  refine V.if_ge (tgt := 18) dJ9_floorMod_7cf53_7 (by decide) (fun c1 => ?_) (fun c1 => ?_)
  · refine V.iload_n (j := 2) rfl dJ9_floorMod_7cf53_18 ?_
    refine V.ri dJ9_floorMod_7cf53_19 rfl ?_
    exact ⟨by rw [cz_fm1 ((cz_x64 x).mp c1)], rfl, rfl⟩
  · refine V.iload_n (j := 2) rfl dJ9_floorMod_7cf53_10 ?_
    refine V.if_eq (tgt := 18) dJ9_floorMod_7cf53_11 (by decide) (fun c2 => ?_) (fun c2 => ?_)
    · refine V.iload_n (j := 2) rfl dJ9_floorMod_7cf53_18 ?_
      refine V.ri dJ9_floorMod_7cf53_19 rfl ?_
      exact ⟨by rw [cz_fm2 (fun z => c1 ((cz_x64 x).mpr z)) c2], rfl, rfl⟩
    · refine V.iload_n (j := 2) rfl dJ9_floorMod_7cf53_14 ?_
      refine V.iload_n (j := 1) rfl dJ9_floorMod_7cf53_15 ?_
      refine V.iadd dJ9_floorMod_7cf53_16 ?_
      refine V.ri dJ9_floorMod_7cf53_17 rfl ?_
      exact ⟨by rw [cz_fm3 (fun z => c1 ((cz_x64 x).mpr z)) c2], rfl, rfl⟩
set_option maxRecDepth 100000 in
set_option maxHeartbeats 4000000 in
theorem cd_slotAt {G : am_G} (I A : Nat → Nat → Int32) (x y : Nat) (hx : x < 32) (hy : y < 24) : Cm G MX4_slotAt 0 0 [.int (nI x), .int (nI y)] I A (fun r I' A' => r = some (.int (nI (x / 16 * 24 + y))) ∧ I = I' ∧ A = A') := by
  refine Cm.of (by decide) (Nat.le_of_ble_eq_true rfl) rfl ?_
  show V G MX4_slotAt (am_R 0 0 0 0) _ 0 0 0 [(0, .int (nI x)), (1, .int (nI y))] [] (hp I A)
  refine V.iload_n (j := 0) rfl dX4_slotAt_0 ?_
  refine V.bipush (v := nI 16) (by decide) dX4_slotAt_1 ?_
  refine V.idiv (by decide) dX4_slotAt_3 ?_
  refine V.bipush (v := nI 24) (by decide) dX4_slotAt_4 ?_
  refine V.imul dX4_slotAt_6 ?_
  refine V.iload_n (j := 1) rfl dX4_slotAt_7 ?_
  refine V.iadd dX4_slotAt_8 ?_
  refine V.ri dX4_slotAt_9 rfl ?_
  exact ⟨by rw [pk_div (by omega) (by decide) (by decide), pk_mul, nI_add], rfl, rfl⟩
theorem mz_rk2 {a b : Int32} : mz_rk (nI 2) a b = a + b := if_pos rfl
theorem mz_rk3 {a b : Int32} : mz_rk (nI 3) a b = a - b := (if_neg (by decide)).trans (if_pos rfl)
theorem mz_rk4 {a b : Int32} : mz_rk (nI 4) a b = a * b := (if_neg (by decide)).trans (if_neg (by decide))
/-- the slots as the reference lays them -/
def cz_sl (s : Nat → Int32) : Nat → Int32 := fun j => if j % 32 < 24 then s (j / 32 * 24 + j % 32) else 0
theorem cz_sl_at {s : Nat → Int32} {k y : Nat} (hy : y < 24) : cz_sl s (32 * k + y) = s (k * 24 + y) := by
  unfold cz_sl
  rw [if_pos (by omega), show (32 * k + y) / 32 = k by omega, show (32 * k + y) % 32 = y by omega]
theorem cz_sl_upd {s : Nat → Int32} {k y : Nat} {v : Int32} (hy : y < 24) : cz_sl (upd s (k * 24 + y) v) = upd (cz_sl s) (32 * k + y) v := by
  funext j
  unfold cz_sl upd
  by_cases h : j = 32 * k + y
  · rw [if_pos h, if_pos (by omega), if_pos (by omega)]
  · rw [if_neg h]
    by_cases q : j % 32 < 24
    · simp only [if_pos q]; rw [if_neg (by omega)]
    · simp only [if_neg q]
set_option maxRecDepth 100000 in
set_option maxHeartbeats 4000000 in
theorem cd_cellAt36 {G : am_G} (I A : Nat → Nat → Int32) (y : Nat) (hy : y < 32) (z : Int32) : Cm G MX4_cellAt 1 22 [.ref 36, .int (nI y), .int z] I A (fun r I' A' => r = some (.int (nI (mz_cl (A 37 y + z)))) ∧ I = I' ∧ A = A') := by
  refine Cm.of (by decide) (Nat.le_of_ble_eq_true rfl) rfl ?_
  show V G MX4_cellAt (am_R 1 22 0 0) _ 0 0 0 [(0, .ref 36), (1, .int (nI y)), (2, .int z)] [] (hp I A)
  refine V.aload_n (j := 0) rfl dX4_cellAt_0 ?_
  refine V.getr (q := 37) dX4_cellAt_1 fX4_9 rfl rfl ?_
  refine V.iload_n (j := 1) rfl dX4_cellAt_4 ?_
  refine V.lda (v := A 37 y) dX4_cellAt_5 rfl (by omega) (by decide) rfl ?_
  refine V.iload_n (j := 2) rfl dX4_cellAt_6 ?_
  refine V.iadd dX4_cellAt_7 ?_
  refine V.bipush (v := nI 64) (by decide) dX4_cellAt_8 ?_
  refine V.cS (As := [.int ((A 37 y) + (z)), .int (nI 64)]) (st := []) dX4_cellAt_10 sX4_71 zJ9_floorMod_7cf53 (cd_fmod I A _) ⟨by decide, by decide⟩ (Nat.le_of_ble_eq_true rfl) rfl (fun r I' A' hq => ?_)
  obtain ⟨rfl, rfl, rfl⟩ := hq
  refine V.st (st' := [.int (nI (mz_cl ((A 37 y) + (z))))]) rfl ?_
  refine V.ri dX4_cellAt_13 rfl ?_
  exact ⟨rfl, rfl, rfl⟩
set_option maxRecDepth 100000 in
set_option maxHeartbeats 4000000 in
theorem cd_speak36 {G : am_G} (I A : Nat → Nat → Int32) (t : Nat) (ht : I 36 4 = nI t) (ht2 : t < 4000) (v : Int32) : Cm G MX4_speak 0 0 [.ref 36, .int v] I A (fun r I' A' => r = none ∧ upI I 36 4 (nI (t + 1)) = I' ∧ upA A 40 (mz_sy t (A 40) v) = A') := by
  refine Cm.of (by decide) (Nat.le_of_ble_eq_true rfl) rfl ?_
  show V G MX4_speak (am_R 0 0 0 0) _ 0 0 0 [(0, .ref 36), (1, .int v)] [] (hp I A)
  refine V.aload_n (j := 0) rfl dX4_speak_0 ?_
  refine V.geti (v := nI t) dX4_speak_1 fX4_24 rfl rfl ht ?_
  refine V.bipush (v := nI 50) (by decide) dX4_speak_4 ?_
  refine V.icmp_geN (tgt := 19) dX4_speak_6 (by decide) (by omega) (by omega) (fun c1 => ?_) (fun c1 => ?_)
  · refine V.aload_n (j := 0) rfl dX4_speak_19 ?_
    refine V.dup rfl dX4_speak_20 ?_
    refine V.geti (v := nI t) dX4_speak_21 fX4_24 rfl rfl ht ?_
    refine V.iconst (v := nI 1) (by decide) dX4_speak_24 ?_
    refine V.iaddN dX4_speak_25 ?_
    refine V.puti dX4_speak_26 pX4_24 rfl rfl ?_
    refine V.rv dX4_speak_29 rfl ?_
    exact ⟨rfl, rfl, by unfold mz_sy; rw [if_neg (by omega)]; exact upA_i⟩
  · refine V.aload_n (j := 0) rfl dX4_speak_9 ?_
    refine V.getr (q := 40) dX4_speak_10 fX4_21 rfl rfl ?_
    refine V.aload_n (j := 0) rfl dX4_speak_13 ?_
    refine V.geti (v := nI t) dX4_speak_14 fX4_24 rfl rfl ht ?_
    refine V.iload_n (j := 1) rfl dX4_speak_17 ?_
    refine V.sta (g := upd (A 40) t (v)) dX4_speak_18 rfl (by omega) (by decide) rfl ?_
    refine V.aload_n (j := 0) rfl dX4_speak_19 ?_
    refine V.dup rfl dX4_speak_20 ?_
    refine V.geti (v := nI t) dX4_speak_21 fX4_24 rfl rfl ht ?_
    refine V.iconst (v := nI 1) (by decide) dX4_speak_24 ?_
    refine V.iaddN dX4_speak_25 ?_
    refine V.puti dX4_speak_26 pX4_24 rfl rfl ?_
    refine V.rv dX4_speak_29 rfl ?_
    exact ⟨rfl, rfl, by unfold mz_sy; rw [if_pos (by omega)]⟩
set_option maxRecDepth 100000 in
set_option maxHeartbeats 4000000 in
theorem cd_act36_0 {G : am_G} (I A : Nat → Nat → Int32) (x : Nat) (hx : x < 32) (y : Int32) (z : Int32) : Cm G MX4_act 2 44 [.ref 36, .int (nI 0), .int (nI x), .int y, .int z] I A (fun r I' A' => r = none ∧ I = I' ∧ upA A 37 (upd (A 37) x y) = A') := by
  refine Cm.of (by decide) (Nat.le_of_ble_eq_true rfl) rfl ?_
  show V G MX4_act (am_R 2 44 0 0) _ 0 0 0 [(0, .ref 36), (1, .int (nI 0)), (2, .int (nI x)), (3, .int y), (4, .int z)] [] (hp I A)
  refine V.iload_n (j := 1) rfl dX4_act_0 ?_
  refine V.tableIn (tgt := 68) dX4_act_1 (by decide) (by decide) rfl (by decide) ?_
  refine V.aload_n (j := 0) rfl dX4_act_68 ?_
  refine V.getr (q := 37) dX4_act_69 fX4_9 rfl rfl ?_
  refine V.iload_n (j := 2) rfl dX4_act_72 ?_
  refine V.iload_n (j := 3) rfl dX4_act_73 ?_
  refine V.sta (g := upd (A 37) x (y)) dX4_act_74 rfl (by omega) (by decide) rfl ?_
  refine V.goto (tgt := 255) dX4_act_75 (by decide) ?_
  refine V.rv dX4_act_255 rfl ?_
  exact ⟨rfl, rfl, rfl⟩
set_option maxRecDepth 100000 in
set_option maxHeartbeats 4000000 in
theorem cd_act36_1 {G : am_G} (I A : Nat → Nat → Int32) (x : Nat) (hx : x < 32) (y : Nat) (hy : y < 32) (z : Int32) : Cm G MX4_act 2 44 [.ref 36, .int (nI 1), .int (nI x), .int (nI y), .int z] I A (fun r I' A' => r = none ∧ I = I' ∧ upA A 37 (upd (A 37) x (A 37 y)) = A') := by
  refine Cm.of (by decide) (Nat.le_of_ble_eq_true rfl) rfl ?_
  show V G MX4_act (am_R 2 44 0 0) _ 0 0 0 [(0, .ref 36), (1, .int (nI 1)), (2, .int (nI x)), (3, .int (nI y)), (4, .int z)] [] (hp I A)
  refine V.iload_n (j := 1) rfl dX4_act_0 ?_
  refine V.tableIn (tgt := 78) dX4_act_1 (by decide) (by decide) rfl (by decide) ?_
  refine V.aload_n (j := 0) rfl dX4_act_78 ?_
  refine V.getr (q := 37) dX4_act_79 fX4_9 rfl rfl ?_
  refine V.iload_n (j := 2) rfl dX4_act_82 ?_
  refine V.aload_n (j := 0) rfl dX4_act_83 ?_
  refine V.getr (q := 37) dX4_act_84 fX4_9 rfl rfl ?_
  refine V.iload_n (j := 3) rfl dX4_act_87 ?_
  refine V.lda (v := A 37 y) dX4_act_88 rfl (by omega) (by decide) rfl ?_
  refine V.sta (g := upd (A 37) x (A 37 y)) dX4_act_89 rfl (by omega) (by decide) rfl ?_
  refine V.goto (tgt := 255) dX4_act_90 (by decide) ?_
  refine V.rv dX4_act_255 rfl ?_
  exact ⟨rfl, rfl, rfl⟩
set_option maxRecDepth 100000 in
set_option maxHeartbeats 4000000 in
theorem cd_act36_2 {G : am_G} (I A : Nat → Nat → Int32) (x : Nat) (hx : x < 32) (y : Nat) (hy : y < 32) (z : Nat) (hz : z < 32) : Cm G MX4_act 2 44 [.ref 36, .int (nI 2), .int (nI x), .int (nI y), .int (nI z)] I A (fun r I' A' => r = none ∧ I = I' ∧ upA A 37 (upd (A 37) x ((A 37 y) + (A 37 z))) = A') := by
  refine Cm.of (by decide) (Nat.le_of_ble_eq_true rfl) rfl ?_
  show V G MX4_act (am_R 2 44 0 0) _ 0 0 0 [(0, .ref 36), (1, .int (nI 2)), (2, .int (nI x)), (3, .int (nI y)), (4, .int (nI z))] [] (hp I A)
  refine V.iload_n (j := 1) rfl dX4_act_0 ?_
  refine V.tableIn (tgt := 93) dX4_act_1 (by decide) (by decide) rfl (by decide) ?_
  refine V.aload_n (j := 0) rfl dX4_act_93 ?_
  refine V.getr (q := 37) dX4_act_94 fX4_9 rfl rfl ?_
  refine V.iload_n (j := 2) rfl dX4_act_97 ?_
  refine V.aload_n (j := 0) rfl dX4_act_98 ?_
  refine V.getr (q := 37) dX4_act_99 fX4_9 rfl rfl ?_
  refine V.iload_n (j := 3) rfl dX4_act_102 ?_
  refine V.lda (v := A 37 y) dX4_act_103 rfl (by omega) (by decide) rfl ?_
  refine V.aload_n (j := 0) rfl dX4_act_104 ?_
  refine V.getr (q := 37) dX4_act_105 fX4_9 rfl rfl ?_
  refine V.iload (j := 4) rfl dX4_act_108 ?_
  refine V.lda (v := A 37 z) dX4_act_110 rfl (by omega) (by decide) rfl ?_
  refine V.iadd dX4_act_111 ?_
  refine V.sta (g := upd (A 37) x ((A 37 y) + (A 37 z))) dX4_act_112 rfl (by omega) (by decide) rfl ?_
  refine V.goto (tgt := 255) dX4_act_113 (by decide) ?_
  refine V.rv dX4_act_255 rfl ?_
  exact ⟨rfl, rfl, rfl⟩
set_option maxRecDepth 100000 in
set_option maxHeartbeats 4000000 in
theorem cd_act36_3 {G : am_G} (I A : Nat → Nat → Int32) (x : Nat) (hx : x < 32) (y : Nat) (hy : y < 32) (z : Nat) (hz : z < 32) : Cm G MX4_act 2 44 [.ref 36, .int (nI 3), .int (nI x), .int (nI y), .int (nI z)] I A (fun r I' A' => r = none ∧ I = I' ∧ upA A 37 (upd (A 37) x ((A 37 y) - (A 37 z))) = A') := by
  refine Cm.of (by decide) (Nat.le_of_ble_eq_true rfl) rfl ?_
  show V G MX4_act (am_R 2 44 0 0) _ 0 0 0 [(0, .ref 36), (1, .int (nI 3)), (2, .int (nI x)), (3, .int (nI y)), (4, .int (nI z))] [] (hp I A)
  refine V.iload_n (j := 1) rfl dX4_act_0 ?_
  refine V.tableIn (tgt := 116) dX4_act_1 (by decide) (by decide) rfl (by decide) ?_
  refine V.aload_n (j := 0) rfl dX4_act_116 ?_
  refine V.getr (q := 37) dX4_act_117 fX4_9 rfl rfl ?_
  refine V.iload_n (j := 2) rfl dX4_act_120 ?_
  refine V.aload_n (j := 0) rfl dX4_act_121 ?_
  refine V.getr (q := 37) dX4_act_122 fX4_9 rfl rfl ?_
  refine V.iload_n (j := 3) rfl dX4_act_125 ?_
  refine V.lda (v := A 37 y) dX4_act_126 rfl (by omega) (by decide) rfl ?_
  refine V.aload_n (j := 0) rfl dX4_act_127 ?_
  refine V.getr (q := 37) dX4_act_128 fX4_9 rfl rfl ?_
  refine V.iload (j := 4) rfl dX4_act_131 ?_
  refine V.lda (v := A 37 z) dX4_act_133 rfl (by omega) (by decide) rfl ?_
  refine V.isub dX4_act_134 ?_
  refine V.sta (g := upd (A 37) x ((A 37 y) - (A 37 z))) dX4_act_135 rfl (by omega) (by decide) rfl ?_
  refine V.goto (tgt := 255) dX4_act_136 (by decide) ?_
  refine V.rv dX4_act_255 rfl ?_
  exact ⟨rfl, rfl, rfl⟩
set_option maxRecDepth 100000 in
set_option maxHeartbeats 4000000 in
theorem cd_act36_4 {G : am_G} (I A : Nat → Nat → Int32) (x : Nat) (hx : x < 32) (y : Nat) (hy : y < 32) (z : Nat) (hz : z < 32) : Cm G MX4_act 2 44 [.ref 36, .int (nI 4), .int (nI x), .int (nI y), .int (nI z)] I A (fun r I' A' => r = none ∧ I = I' ∧ upA A 37 (upd (A 37) x ((A 37 y) * (A 37 z))) = A') := by
  refine Cm.of (by decide) (Nat.le_of_ble_eq_true rfl) rfl ?_
  show V G MX4_act (am_R 2 44 0 0) _ 0 0 0 [(0, .ref 36), (1, .int (nI 4)), (2, .int (nI x)), (3, .int (nI y)), (4, .int (nI z))] [] (hp I A)
  refine V.iload_n (j := 1) rfl dX4_act_0 ?_
  refine V.tableIn (tgt := 139) dX4_act_1 (by decide) (by decide) rfl (by decide) ?_
  refine V.aload_n (j := 0) rfl dX4_act_139 ?_
  refine V.getr (q := 37) dX4_act_140 fX4_9 rfl rfl ?_
  refine V.iload_n (j := 2) rfl dX4_act_143 ?_
  refine V.aload_n (j := 0) rfl dX4_act_144 ?_
  refine V.getr (q := 37) dX4_act_145 fX4_9 rfl rfl ?_
  refine V.iload_n (j := 3) rfl dX4_act_148 ?_
  refine V.lda (v := A 37 y) dX4_act_149 rfl (by omega) (by decide) rfl ?_
  refine V.aload_n (j := 0) rfl dX4_act_150 ?_
  refine V.getr (q := 37) dX4_act_151 fX4_9 rfl rfl ?_
  refine V.iload (j := 4) rfl dX4_act_154 ?_
  refine V.lda (v := A 37 z) dX4_act_156 rfl (by omega) (by decide) rfl ?_
  refine V.imul dX4_act_157 ?_
  refine V.sta (g := upd (A 37) x ((A 37 y) * (A 37 z))) dX4_act_158 rfl (by omega) (by decide) rfl ?_
  refine V.goto (tgt := 255) dX4_act_159 (by decide) ?_
  refine V.rv dX4_act_255 rfl ?_
  exact ⟨rfl, rfl, rfl⟩
set_option maxRecDepth 100000 in
set_option maxHeartbeats 4000000 in
theorem cd_act36_5 {G : am_G} (I A : Nat → Nat → Int32) (x : Nat) (hx : x < 32) (y : Nat) (hy : y < 32) (z : Int32) : Cm G MX4_act 2 44 [.ref 36, .int (nI 5), .int (nI x), .int (nI y), .int z] I A (fun r I' A' => r = none ∧ I = I' ∧ upA A 37 (upd (A 37) x (A 39 (mz_cl (A 37 y + z)))) = A') := by
  refine Cm.of (by decide) (Nat.le_of_ble_eq_true rfl) rfl ?_
  show V G MX4_act (am_R 2 44 0 0) _ 0 0 0 [(0, .ref 36), (1, .int (nI 5)), (2, .int (nI x)), (3, .int (nI y)), (4, .int z)] [] (hp I A)
  refine V.iload_n (j := 1) rfl dX4_act_0 ?_
  refine V.tableIn (tgt := 162) dX4_act_1 (by decide) (by decide) rfl (by decide) ?_
  refine V.aload_n (j := 0) rfl dX4_act_162 ?_
  refine V.getr (q := 37) dX4_act_163 fX4_9 rfl rfl ?_
  refine V.iload_n (j := 2) rfl dX4_act_166 ?_
  refine V.aload_n (j := 0) rfl dX4_act_167 ?_
  refine V.getr (q := 39) dX4_act_168 fX4_18 rfl rfl ?_
  refine V.aload_n (j := 0) rfl dX4_act_171 ?_
  refine V.iload_n (j := 3) rfl dX4_act_172 ?_
  refine V.iload (j := 4) rfl dX4_act_173 ?_
  refine V.cV (As := [.int (nI y), .int z]) (st := [.ref 39, .int (nI x), .ref 37]) dX4_act_175 sX4_60 iX4_cellAt lX4_cellAt rfl rfl (cd_cellAt36 I A y hy _) ⟨by decide, by decide⟩ (Nat.le_of_ble_eq_true rfl) rfl (fun r I' A' hq => ?_)
  obtain ⟨rfl, rfl, rfl⟩ := hq
  refine V.st (st' := [.int (nI (mz_cl (A 37 y + z))), .ref 39, .int (nI x), .ref 37]) rfl ?_
  have hcl := mz_cl_lt (A 37 y + z)
  refine V.lda (v := A 39 (mz_cl (A 37 y + z))) dX4_act_178 rfl (by omega) (by decide) rfl ?_
  refine V.sta (g := upd (A 37) x (A 39 (mz_cl (A 37 y + z)))) dX4_act_179 rfl (by omega) (by decide) rfl ?_
  refine V.goto (tgt := 255) dX4_act_180 (by decide) ?_
  refine V.rv dX4_act_255 rfl ?_
  exact ⟨rfl, rfl, rfl⟩
set_option maxRecDepth 100000 in
set_option maxHeartbeats 4000000 in
theorem cd_act36_6 {G : am_G} (I A : Nat → Nat → Int32) (x : Nat) (hx : x < 32) (y : Nat) (hy : y < 32) (z : Int32) : Cm G MX4_act 2 44 [.ref 36, .int (nI 6), .int (nI x), .int (nI y), .int z] I A (fun r I' A' => r = none ∧ I = I' ∧ upA A 39 (upd (A 39) (mz_cl (A 37 y + z)) (A 37 x)) = A') := by
  refine Cm.of (by decide) (Nat.le_of_ble_eq_true rfl) rfl ?_
  show V G MX4_act (am_R 2 44 0 0) _ 0 0 0 [(0, .ref 36), (1, .int (nI 6)), (2, .int (nI x)), (3, .int (nI y)), (4, .int z)] [] (hp I A)
  refine V.iload_n (j := 1) rfl dX4_act_0 ?_
  refine V.tableIn (tgt := 183) dX4_act_1 (by decide) (by decide) rfl (by decide) ?_
  refine V.aload_n (j := 0) rfl dX4_act_183 ?_
  refine V.getr (q := 39) dX4_act_184 fX4_18 rfl rfl ?_
  refine V.aload_n (j := 0) rfl dX4_act_187 ?_
  refine V.iload_n (j := 3) rfl dX4_act_188 ?_
  refine V.iload (j := 4) rfl dX4_act_189 ?_
  refine V.cV (As := [.int (nI y), .int z]) (st := [.ref 39]) dX4_act_191 sX4_60 iX4_cellAt lX4_cellAt rfl rfl (cd_cellAt36 I A y hy _) ⟨by decide, by decide⟩ (Nat.le_of_ble_eq_true rfl) rfl (fun r I' A' hq => ?_)
  obtain ⟨rfl, rfl, rfl⟩ := hq
  refine V.st (st' := [.int (nI (mz_cl (A 37 y + z))), .ref 39]) rfl ?_
  have hcl := mz_cl_lt (A 37 y + z)
  refine V.aload_n (j := 0) rfl dX4_act_194 ?_
  refine V.getr (q := 37) dX4_act_195 fX4_9 rfl rfl ?_
  refine V.iload_n (j := 2) rfl dX4_act_198 ?_
  refine V.lda (v := A 37 x) dX4_act_199 rfl (by omega) (by decide) rfl ?_
  refine V.sta (g := upd (A 39) (mz_cl (A 37 y + z)) (A 37 x)) dX4_act_200 rfl (by omega) (by decide) rfl ?_
  refine V.goto (tgt := 255) dX4_act_201 (by decide) ?_
  refine V.rv dX4_act_255 rfl ?_
  exact ⟨rfl, rfl, rfl⟩
set_option maxRecDepth 100000 in
set_option maxHeartbeats 4000000 in
theorem cd_act36_9 {G : am_G} (I A : Nat → Nat → Int32) (x : Nat) (hx : x < 32) (y : Int32) (z : Int32) (t : Nat) (ht : I 36 4 = nI t) (ht2 : t < 4000) : Cm G MX4_act 2 44 [.ref 36, .int (nI 9), .int (nI x), .int y, .int z] I A (fun r I' A' => r = none ∧ upI I 36 4 (nI (t + 1)) = I' ∧ upA A 40 (mz_sy t (A 40) (A 37 x)) = A') := by
  refine Cm.of (by decide) (Nat.le_of_ble_eq_true rfl) rfl ?_
  show V G MX4_act (am_R 2 44 0 0) _ 0 0 0 [(0, .ref 36), (1, .int (nI 9)), (2, .int (nI x)), (3, .int y), (4, .int z)] [] (hp I A)
  refine V.iload_n (j := 1) rfl dX4_act_0 ?_
  refine V.tableIn (tgt := 204) dX4_act_1 (by decide) (by decide) rfl (by decide) ?_
  refine V.aload_n (j := 0) rfl dX4_act_204 ?_
  refine V.aload_n (j := 0) rfl dX4_act_205 ?_
  refine V.getr (q := 37) dX4_act_206 fX4_9 rfl rfl ?_
  refine V.iload_n (j := 2) rfl dX4_act_209 ?_
  refine V.lda (v := A 37 x) dX4_act_210 rfl (by omega) (by decide) rfl ?_
  refine V.cV (As := [.int (A 37 x)]) (st := []) dX4_act_211 sX4_64 iX4_speak lX4_speak rfl rfl (cd_speak36 I A t ht ht2 _) ⟨by decide, by decide⟩ (Nat.le_of_ble_eq_true rfl) rfl (fun r I' A' hq => ?_)
  obtain ⟨rfl, rfl, rfl⟩ := hq
  refine V.st (st' := []) rfl ?_
  refine V.goto (tgt := 255) dX4_act_214 (by decide) ?_
  refine V.rv dX4_act_255 rfl ?_
  exact ⟨rfl, rfl, rfl⟩
set_option maxRecDepth 100000 in
set_option maxHeartbeats 4000000 in
theorem cd_act36_11 {G : am_G} (I A : Nat → Nat → Int32) (x : Nat) (hx : x < 32) (y : Nat) (hy : y < 24) (z : Int32) : Cm G MX4_act 2 44 [.ref 36, .int (nI 11), .int (nI x), .int (nI y), .int z] I A (fun r I' A' => r = none ∧ I = I' ∧ upA A 37 (upd (A 37) x (A 38 (x / 16 * 24 + y))) = A') := by
  refine Cm.of (by decide) (Nat.le_of_ble_eq_true rfl) rfl ?_
  show V G MX4_act (am_R 2 44 0 0) _ 0 0 0 [(0, .ref 36), (1, .int (nI 11)), (2, .int (nI x)), (3, .int (nI y)), (4, .int z)] [] (hp I A)
  refine V.iload_n (j := 1) rfl dX4_act_0 ?_
  refine V.tableIn (tgt := 217) dX4_act_1 (by decide) (by decide) rfl (by decide) ?_
  refine V.aload_n (j := 0) rfl dX4_act_217 ?_
  refine V.getr (q := 37) dX4_act_218 fX4_9 rfl rfl ?_
  refine V.iload_n (j := 2) rfl dX4_act_221 ?_
  refine V.aload_n (j := 0) rfl dX4_act_222 ?_
  refine V.getr (q := 38) dX4_act_223 fX4_15 rfl rfl ?_
  refine V.iload_n (j := 2) rfl dX4_act_226 ?_
  refine V.iload_n (j := 3) rfl dX4_act_227 ?_
  refine V.cS (As := [.int (nI x), .int (nI y)]) (st := [.ref 38, .int (nI x), .ref 37]) dX4_act_228 sX4_68 zX4_slotAt (cd_slotAt I A x y hx hy) ⟨by decide, by decide⟩ (Nat.le_of_ble_eq_true rfl) rfl (fun r I' A' hq => ?_)
  obtain ⟨rfl, rfl, rfl⟩ := hq
  refine V.st (st' := [.int (nI (x / 16 * 24 + y)), .ref 38, .int (nI x), .ref 37]) rfl ?_
  refine V.lda (v := A 38 (x / 16 * 24 + y)) dX4_act_231 rfl (by omega) (by decide) rfl ?_
  refine V.sta (g := upd (A 37) x (A 38 (x / 16 * 24 + y))) dX4_act_232 rfl (by omega) (by decide) rfl ?_
  refine V.goto (tgt := 255) dX4_act_233 (by decide) ?_
  refine V.rv dX4_act_255 rfl ?_
  exact ⟨rfl, rfl, rfl⟩
set_option maxRecDepth 100000 in
set_option maxHeartbeats 4000000 in
theorem cd_act36_12 {G : am_G} (I A : Nat → Nat → Int32) (x : Nat) (hx : x < 32) (y : Nat) (hy : y < 24) (z : Int32) : Cm G MX4_act 2 44 [.ref 36, .int (nI 12), .int (nI x), .int (nI y), .int z] I A (fun r I' A' => r = none ∧ I = I' ∧ upA A 38 (upd (A 38) (x / 16 * 24 + y) (A 37 x)) = A') := by
  refine Cm.of (by decide) (Nat.le_of_ble_eq_true rfl) rfl ?_
  show V G MX4_act (am_R 2 44 0 0) _ 0 0 0 [(0, .ref 36), (1, .int (nI 12)), (2, .int (nI x)), (3, .int (nI y)), (4, .int z)] [] (hp I A)
  refine V.iload_n (j := 1) rfl dX4_act_0 ?_
  refine V.tableIn (tgt := 236) dX4_act_1 (by decide) (by decide) rfl (by decide) ?_
  refine V.aload_n (j := 0) rfl dX4_act_236 ?_
  refine V.getr (q := 38) dX4_act_237 fX4_15 rfl rfl ?_
  refine V.iload_n (j := 2) rfl dX4_act_240 ?_
  refine V.iload_n (j := 3) rfl dX4_act_241 ?_
  refine V.cS (As := [.int (nI x), .int (nI y)]) (st := [.ref 38]) dX4_act_242 sX4_68 zX4_slotAt (cd_slotAt I A x y hx hy) ⟨by decide, by decide⟩ (Nat.le_of_ble_eq_true rfl) rfl (fun r I' A' hq => ?_)
  obtain ⟨rfl, rfl, rfl⟩ := hq
  refine V.st (st' := [.int (nI (x / 16 * 24 + y)), .ref 38]) rfl ?_
  refine V.aload_n (j := 0) rfl dX4_act_245 ?_
  refine V.getr (q := 37) dX4_act_246 fX4_9 rfl rfl ?_
  refine V.iload_n (j := 2) rfl dX4_act_249 ?_
  refine V.lda (v := A 37 x) dX4_act_250 rfl (by omega) (by decide) rfl ?_
  refine V.sta (g := upd (A 38) (x / 16 * 24 + y) (A 37 x)) dX4_act_251 rfl (by omega) (by decide) rfl ?_
  refine V.goto (tgt := 255) dX4_act_252 (by decide) ?_
  refine V.rv dX4_act_255 rfl ?_
  exact ⟨rfl, rfl, rfl⟩
set_option maxRecDepth 100000 in
set_option maxHeartbeats 4000000 in
theorem cd_cellAt41 {G : am_G} (I A : Nat → Nat → Int32) (y : Nat) (hy : y < 32) (z : Int32) : Cm G MX4_cellAt 1 22 [.ref 41, .int (nI y), .int z] I A (fun r I' A' => r = some (.int (nI (mz_cl (A 42 y + z)))) ∧ I = I' ∧ A = A') := by
  refine Cm.of (by decide) (Nat.le_of_ble_eq_true rfl) rfl ?_
  show V G MX4_cellAt (am_R 1 22 0 0) _ 0 0 0 [(0, .ref 41), (1, .int (nI y)), (2, .int z)] [] (hp I A)
  refine V.aload_n (j := 0) rfl dX4_cellAt_0 ?_
  refine V.getr (q := 42) dX4_cellAt_1 fX4_9 rfl rfl ?_
  refine V.iload_n (j := 1) rfl dX4_cellAt_4 ?_
  refine V.lda (v := A 42 y) dX4_cellAt_5 rfl (by omega) (by decide) rfl ?_
  refine V.iload_n (j := 2) rfl dX4_cellAt_6 ?_
  refine V.iadd dX4_cellAt_7 ?_
  refine V.bipush (v := nI 64) (by decide) dX4_cellAt_8 ?_
  refine V.cS (As := [.int ((A 42 y) + (z)), .int (nI 64)]) (st := []) dX4_cellAt_10 sX4_71 zJ9_floorMod_7cf53 (cd_fmod I A _) ⟨by decide, by decide⟩ (Nat.le_of_ble_eq_true rfl) rfl (fun r I' A' hq => ?_)
  obtain ⟨rfl, rfl, rfl⟩ := hq
  refine V.st (st' := [.int (nI (mz_cl ((A 42 y) + (z))))]) rfl ?_
  refine V.ri dX4_cellAt_13 rfl ?_
  exact ⟨rfl, rfl, rfl⟩
set_option maxRecDepth 100000 in
set_option maxHeartbeats 4000000 in
theorem cd_speak41 {G : am_G} (I A : Nat → Nat → Int32) (t : Nat) (ht : I 41 4 = nI t) (ht2 : t < 4000) (v : Int32) : Cm G MX4_speak 0 0 [.ref 41, .int v] I A (fun r I' A' => r = none ∧ upI I 41 4 (nI (t + 1)) = I' ∧ upA A 45 (mz_sy t (A 45) v) = A') := by
  refine Cm.of (by decide) (Nat.le_of_ble_eq_true rfl) rfl ?_
  show V G MX4_speak (am_R 0 0 0 0) _ 0 0 0 [(0, .ref 41), (1, .int v)] [] (hp I A)
  refine V.aload_n (j := 0) rfl dX4_speak_0 ?_
  refine V.geti (v := nI t) dX4_speak_1 fX4_24 rfl rfl ht ?_
  refine V.bipush (v := nI 50) (by decide) dX4_speak_4 ?_
  refine V.icmp_geN (tgt := 19) dX4_speak_6 (by decide) (by omega) (by omega) (fun c1 => ?_) (fun c1 => ?_)
  · refine V.aload_n (j := 0) rfl dX4_speak_19 ?_
    refine V.dup rfl dX4_speak_20 ?_
    refine V.geti (v := nI t) dX4_speak_21 fX4_24 rfl rfl ht ?_
    refine V.iconst (v := nI 1) (by decide) dX4_speak_24 ?_
    refine V.iaddN dX4_speak_25 ?_
    refine V.puti dX4_speak_26 pX4_24 rfl rfl ?_
    refine V.rv dX4_speak_29 rfl ?_
    exact ⟨rfl, rfl, by unfold mz_sy; rw [if_neg (by omega)]; exact upA_i⟩
  · refine V.aload_n (j := 0) rfl dX4_speak_9 ?_
    refine V.getr (q := 45) dX4_speak_10 fX4_21 rfl rfl ?_
    refine V.aload_n (j := 0) rfl dX4_speak_13 ?_
    refine V.geti (v := nI t) dX4_speak_14 fX4_24 rfl rfl ht ?_
    refine V.iload_n (j := 1) rfl dX4_speak_17 ?_
    refine V.sta (g := upd (A 45) t (v)) dX4_speak_18 rfl (by omega) (by decide) rfl ?_
    refine V.aload_n (j := 0) rfl dX4_speak_19 ?_
    refine V.dup rfl dX4_speak_20 ?_
    refine V.geti (v := nI t) dX4_speak_21 fX4_24 rfl rfl ht ?_
    refine V.iconst (v := nI 1) (by decide) dX4_speak_24 ?_
    refine V.iaddN dX4_speak_25 ?_
    refine V.puti dX4_speak_26 pX4_24 rfl rfl ?_
    refine V.rv dX4_speak_29 rfl ?_
    exact ⟨rfl, rfl, by unfold mz_sy; rw [if_pos (by omega)]⟩
set_option maxRecDepth 100000 in
set_option maxHeartbeats 4000000 in
theorem cd_act41_0 {G : am_G} (I A : Nat → Nat → Int32) (x : Nat) (hx : x < 32) (y : Int32) (z : Int32) : Cm G MX4_act 2 44 [.ref 41, .int (nI 0), .int (nI x), .int y, .int z] I A (fun r I' A' => r = none ∧ I = I' ∧ upA A 42 (upd (A 42) x y) = A') := by
  refine Cm.of (by decide) (Nat.le_of_ble_eq_true rfl) rfl ?_
  show V G MX4_act (am_R 2 44 0 0) _ 0 0 0 [(0, .ref 41), (1, .int (nI 0)), (2, .int (nI x)), (3, .int y), (4, .int z)] [] (hp I A)
  refine V.iload_n (j := 1) rfl dX4_act_0 ?_
  refine V.tableIn (tgt := 68) dX4_act_1 (by decide) (by decide) rfl (by decide) ?_
  refine V.aload_n (j := 0) rfl dX4_act_68 ?_
  refine V.getr (q := 42) dX4_act_69 fX4_9 rfl rfl ?_
  refine V.iload_n (j := 2) rfl dX4_act_72 ?_
  refine V.iload_n (j := 3) rfl dX4_act_73 ?_
  refine V.sta (g := upd (A 42) x (y)) dX4_act_74 rfl (by omega) (by decide) rfl ?_
  refine V.goto (tgt := 255) dX4_act_75 (by decide) ?_
  refine V.rv dX4_act_255 rfl ?_
  exact ⟨rfl, rfl, rfl⟩
set_option maxRecDepth 100000 in
set_option maxHeartbeats 4000000 in
theorem cd_act41_1 {G : am_G} (I A : Nat → Nat → Int32) (x : Nat) (hx : x < 32) (y : Nat) (hy : y < 32) (z : Int32) : Cm G MX4_act 2 44 [.ref 41, .int (nI 1), .int (nI x), .int (nI y), .int z] I A (fun r I' A' => r = none ∧ I = I' ∧ upA A 42 (upd (A 42) x (A 42 y)) = A') := by
  refine Cm.of (by decide) (Nat.le_of_ble_eq_true rfl) rfl ?_
  show V G MX4_act (am_R 2 44 0 0) _ 0 0 0 [(0, .ref 41), (1, .int (nI 1)), (2, .int (nI x)), (3, .int (nI y)), (4, .int z)] [] (hp I A)
  refine V.iload_n (j := 1) rfl dX4_act_0 ?_
  refine V.tableIn (tgt := 78) dX4_act_1 (by decide) (by decide) rfl (by decide) ?_
  refine V.aload_n (j := 0) rfl dX4_act_78 ?_
  refine V.getr (q := 42) dX4_act_79 fX4_9 rfl rfl ?_
  refine V.iload_n (j := 2) rfl dX4_act_82 ?_
  refine V.aload_n (j := 0) rfl dX4_act_83 ?_
  refine V.getr (q := 42) dX4_act_84 fX4_9 rfl rfl ?_
  refine V.iload_n (j := 3) rfl dX4_act_87 ?_
  refine V.lda (v := A 42 y) dX4_act_88 rfl (by omega) (by decide) rfl ?_
  refine V.sta (g := upd (A 42) x (A 42 y)) dX4_act_89 rfl (by omega) (by decide) rfl ?_
  refine V.goto (tgt := 255) dX4_act_90 (by decide) ?_
  refine V.rv dX4_act_255 rfl ?_
  exact ⟨rfl, rfl, rfl⟩
set_option maxRecDepth 100000 in
set_option maxHeartbeats 4000000 in
theorem cd_act41_2 {G : am_G} (I A : Nat → Nat → Int32) (x : Nat) (hx : x < 32) (y : Nat) (hy : y < 32) (z : Nat) (hz : z < 32) : Cm G MX4_act 2 44 [.ref 41, .int (nI 2), .int (nI x), .int (nI y), .int (nI z)] I A (fun r I' A' => r = none ∧ I = I' ∧ upA A 42 (upd (A 42) x ((A 42 y) + (A 42 z))) = A') := by
  refine Cm.of (by decide) (Nat.le_of_ble_eq_true rfl) rfl ?_
  show V G MX4_act (am_R 2 44 0 0) _ 0 0 0 [(0, .ref 41), (1, .int (nI 2)), (2, .int (nI x)), (3, .int (nI y)), (4, .int (nI z))] [] (hp I A)
  refine V.iload_n (j := 1) rfl dX4_act_0 ?_
  refine V.tableIn (tgt := 93) dX4_act_1 (by decide) (by decide) rfl (by decide) ?_
  refine V.aload_n (j := 0) rfl dX4_act_93 ?_
  refine V.getr (q := 42) dX4_act_94 fX4_9 rfl rfl ?_
  refine V.iload_n (j := 2) rfl dX4_act_97 ?_
  refine V.aload_n (j := 0) rfl dX4_act_98 ?_
  refine V.getr (q := 42) dX4_act_99 fX4_9 rfl rfl ?_
  refine V.iload_n (j := 3) rfl dX4_act_102 ?_
  refine V.lda (v := A 42 y) dX4_act_103 rfl (by omega) (by decide) rfl ?_
  refine V.aload_n (j := 0) rfl dX4_act_104 ?_
  refine V.getr (q := 42) dX4_act_105 fX4_9 rfl rfl ?_
  refine V.iload (j := 4) rfl dX4_act_108 ?_
  refine V.lda (v := A 42 z) dX4_act_110 rfl (by omega) (by decide) rfl ?_
  refine V.iadd dX4_act_111 ?_
  refine V.sta (g := upd (A 42) x ((A 42 y) + (A 42 z))) dX4_act_112 rfl (by omega) (by decide) rfl ?_
  refine V.goto (tgt := 255) dX4_act_113 (by decide) ?_
  refine V.rv dX4_act_255 rfl ?_
  exact ⟨rfl, rfl, rfl⟩
set_option maxRecDepth 100000 in
set_option maxHeartbeats 4000000 in
theorem cd_act41_3 {G : am_G} (I A : Nat → Nat → Int32) (x : Nat) (hx : x < 32) (y : Nat) (hy : y < 32) (z : Nat) (hz : z < 32) : Cm G MX4_act 2 44 [.ref 41, .int (nI 3), .int (nI x), .int (nI y), .int (nI z)] I A (fun r I' A' => r = none ∧ I = I' ∧ upA A 42 (upd (A 42) x ((A 42 y) - (A 42 z))) = A') := by
  refine Cm.of (by decide) (Nat.le_of_ble_eq_true rfl) rfl ?_
  show V G MX4_act (am_R 2 44 0 0) _ 0 0 0 [(0, .ref 41), (1, .int (nI 3)), (2, .int (nI x)), (3, .int (nI y)), (4, .int (nI z))] [] (hp I A)
  refine V.iload_n (j := 1) rfl dX4_act_0 ?_
  refine V.tableIn (tgt := 116) dX4_act_1 (by decide) (by decide) rfl (by decide) ?_
  refine V.aload_n (j := 0) rfl dX4_act_116 ?_
  refine V.getr (q := 42) dX4_act_117 fX4_9 rfl rfl ?_
  refine V.iload_n (j := 2) rfl dX4_act_120 ?_
  refine V.aload_n (j := 0) rfl dX4_act_121 ?_
  refine V.getr (q := 42) dX4_act_122 fX4_9 rfl rfl ?_
  refine V.iload_n (j := 3) rfl dX4_act_125 ?_
  refine V.lda (v := A 42 y) dX4_act_126 rfl (by omega) (by decide) rfl ?_
  refine V.aload_n (j := 0) rfl dX4_act_127 ?_
  refine V.getr (q := 42) dX4_act_128 fX4_9 rfl rfl ?_
  refine V.iload (j := 4) rfl dX4_act_131 ?_
  refine V.lda (v := A 42 z) dX4_act_133 rfl (by omega) (by decide) rfl ?_
  refine V.isub dX4_act_134 ?_
  refine V.sta (g := upd (A 42) x ((A 42 y) - (A 42 z))) dX4_act_135 rfl (by omega) (by decide) rfl ?_
  refine V.goto (tgt := 255) dX4_act_136 (by decide) ?_
  refine V.rv dX4_act_255 rfl ?_
  exact ⟨rfl, rfl, rfl⟩
set_option maxRecDepth 100000 in
set_option maxHeartbeats 4000000 in
theorem cd_act41_4 {G : am_G} (I A : Nat → Nat → Int32) (x : Nat) (hx : x < 32) (y : Nat) (hy : y < 32) (z : Nat) (hz : z < 32) : Cm G MX4_act 2 44 [.ref 41, .int (nI 4), .int (nI x), .int (nI y), .int (nI z)] I A (fun r I' A' => r = none ∧ I = I' ∧ upA A 42 (upd (A 42) x ((A 42 y) * (A 42 z))) = A') := by
  refine Cm.of (by decide) (Nat.le_of_ble_eq_true rfl) rfl ?_
  show V G MX4_act (am_R 2 44 0 0) _ 0 0 0 [(0, .ref 41), (1, .int (nI 4)), (2, .int (nI x)), (3, .int (nI y)), (4, .int (nI z))] [] (hp I A)
  refine V.iload_n (j := 1) rfl dX4_act_0 ?_
  refine V.tableIn (tgt := 139) dX4_act_1 (by decide) (by decide) rfl (by decide) ?_
  refine V.aload_n (j := 0) rfl dX4_act_139 ?_
  refine V.getr (q := 42) dX4_act_140 fX4_9 rfl rfl ?_
  refine V.iload_n (j := 2) rfl dX4_act_143 ?_
  refine V.aload_n (j := 0) rfl dX4_act_144 ?_
  refine V.getr (q := 42) dX4_act_145 fX4_9 rfl rfl ?_
  refine V.iload_n (j := 3) rfl dX4_act_148 ?_
  refine V.lda (v := A 42 y) dX4_act_149 rfl (by omega) (by decide) rfl ?_
  refine V.aload_n (j := 0) rfl dX4_act_150 ?_
  refine V.getr (q := 42) dX4_act_151 fX4_9 rfl rfl ?_
  refine V.iload (j := 4) rfl dX4_act_154 ?_
  refine V.lda (v := A 42 z) dX4_act_156 rfl (by omega) (by decide) rfl ?_
  refine V.imul dX4_act_157 ?_
  refine V.sta (g := upd (A 42) x ((A 42 y) * (A 42 z))) dX4_act_158 rfl (by omega) (by decide) rfl ?_
  refine V.goto (tgt := 255) dX4_act_159 (by decide) ?_
  refine V.rv dX4_act_255 rfl ?_
  exact ⟨rfl, rfl, rfl⟩
set_option maxRecDepth 100000 in
set_option maxHeartbeats 4000000 in
theorem cd_act41_5 {G : am_G} (I A : Nat → Nat → Int32) (x : Nat) (hx : x < 32) (y : Nat) (hy : y < 32) (z : Int32) : Cm G MX4_act 2 44 [.ref 41, .int (nI 5), .int (nI x), .int (nI y), .int z] I A (fun r I' A' => r = none ∧ I = I' ∧ upA A 42 (upd (A 42) x (A 44 (mz_cl (A 42 y + z)))) = A') := by
  refine Cm.of (by decide) (Nat.le_of_ble_eq_true rfl) rfl ?_
  show V G MX4_act (am_R 2 44 0 0) _ 0 0 0 [(0, .ref 41), (1, .int (nI 5)), (2, .int (nI x)), (3, .int (nI y)), (4, .int z)] [] (hp I A)
  refine V.iload_n (j := 1) rfl dX4_act_0 ?_
  refine V.tableIn (tgt := 162) dX4_act_1 (by decide) (by decide) rfl (by decide) ?_
  refine V.aload_n (j := 0) rfl dX4_act_162 ?_
  refine V.getr (q := 42) dX4_act_163 fX4_9 rfl rfl ?_
  refine V.iload_n (j := 2) rfl dX4_act_166 ?_
  refine V.aload_n (j := 0) rfl dX4_act_167 ?_
  refine V.getr (q := 44) dX4_act_168 fX4_18 rfl rfl ?_
  refine V.aload_n (j := 0) rfl dX4_act_171 ?_
  refine V.iload_n (j := 3) rfl dX4_act_172 ?_
  refine V.iload (j := 4) rfl dX4_act_173 ?_
  refine V.cV (As := [.int (nI y), .int z]) (st := [.ref 44, .int (nI x), .ref 42]) dX4_act_175 sX4_60 iX4_cellAt lX4_cellAt rfl rfl (cd_cellAt41 I A y hy _) ⟨by decide, by decide⟩ (Nat.le_of_ble_eq_true rfl) rfl (fun r I' A' hq => ?_)
  obtain ⟨rfl, rfl, rfl⟩ := hq
  refine V.st (st' := [.int (nI (mz_cl (A 42 y + z))), .ref 44, .int (nI x), .ref 42]) rfl ?_
  have hcl := mz_cl_lt (A 42 y + z)
  refine V.lda (v := A 44 (mz_cl (A 42 y + z))) dX4_act_178 rfl (by omega) (by decide) rfl ?_
  refine V.sta (g := upd (A 42) x (A 44 (mz_cl (A 42 y + z)))) dX4_act_179 rfl (by omega) (by decide) rfl ?_
  refine V.goto (tgt := 255) dX4_act_180 (by decide) ?_
  refine V.rv dX4_act_255 rfl ?_
  exact ⟨rfl, rfl, rfl⟩
set_option maxRecDepth 100000 in
set_option maxHeartbeats 4000000 in
theorem cd_act41_6 {G : am_G} (I A : Nat → Nat → Int32) (x : Nat) (hx : x < 32) (y : Nat) (hy : y < 32) (z : Int32) : Cm G MX4_act 2 44 [.ref 41, .int (nI 6), .int (nI x), .int (nI y), .int z] I A (fun r I' A' => r = none ∧ I = I' ∧ upA A 44 (upd (A 44) (mz_cl (A 42 y + z)) (A 42 x)) = A') := by
  refine Cm.of (by decide) (Nat.le_of_ble_eq_true rfl) rfl ?_
  show V G MX4_act (am_R 2 44 0 0) _ 0 0 0 [(0, .ref 41), (1, .int (nI 6)), (2, .int (nI x)), (3, .int (nI y)), (4, .int z)] [] (hp I A)
  refine V.iload_n (j := 1) rfl dX4_act_0 ?_
  refine V.tableIn (tgt := 183) dX4_act_1 (by decide) (by decide) rfl (by decide) ?_
  refine V.aload_n (j := 0) rfl dX4_act_183 ?_
  refine V.getr (q := 44) dX4_act_184 fX4_18 rfl rfl ?_
  refine V.aload_n (j := 0) rfl dX4_act_187 ?_
  refine V.iload_n (j := 3) rfl dX4_act_188 ?_
  refine V.iload (j := 4) rfl dX4_act_189 ?_
  refine V.cV (As := [.int (nI y), .int z]) (st := [.ref 44]) dX4_act_191 sX4_60 iX4_cellAt lX4_cellAt rfl rfl (cd_cellAt41 I A y hy _) ⟨by decide, by decide⟩ (Nat.le_of_ble_eq_true rfl) rfl (fun r I' A' hq => ?_)
  obtain ⟨rfl, rfl, rfl⟩ := hq
  refine V.st (st' := [.int (nI (mz_cl (A 42 y + z))), .ref 44]) rfl ?_
  have hcl := mz_cl_lt (A 42 y + z)
  refine V.aload_n (j := 0) rfl dX4_act_194 ?_
  refine V.getr (q := 42) dX4_act_195 fX4_9 rfl rfl ?_
  refine V.iload_n (j := 2) rfl dX4_act_198 ?_
  refine V.lda (v := A 42 x) dX4_act_199 rfl (by omega) (by decide) rfl ?_
  refine V.sta (g := upd (A 44) (mz_cl (A 42 y + z)) (A 42 x)) dX4_act_200 rfl (by omega) (by decide) rfl ?_
  refine V.goto (tgt := 255) dX4_act_201 (by decide) ?_
  refine V.rv dX4_act_255 rfl ?_
  exact ⟨rfl, rfl, rfl⟩
set_option maxRecDepth 100000 in
set_option maxHeartbeats 4000000 in
theorem cd_act41_9 {G : am_G} (I A : Nat → Nat → Int32) (x : Nat) (hx : x < 32) (y : Int32) (z : Int32) (t : Nat) (ht : I 41 4 = nI t) (ht2 : t < 4000) : Cm G MX4_act 2 44 [.ref 41, .int (nI 9), .int (nI x), .int y, .int z] I A (fun r I' A' => r = none ∧ upI I 41 4 (nI (t + 1)) = I' ∧ upA A 45 (mz_sy t (A 45) (A 42 x)) = A') := by
  refine Cm.of (by decide) (Nat.le_of_ble_eq_true rfl) rfl ?_
  show V G MX4_act (am_R 2 44 0 0) _ 0 0 0 [(0, .ref 41), (1, .int (nI 9)), (2, .int (nI x)), (3, .int y), (4, .int z)] [] (hp I A)
  refine V.iload_n (j := 1) rfl dX4_act_0 ?_
  refine V.tableIn (tgt := 204) dX4_act_1 (by decide) (by decide) rfl (by decide) ?_
  refine V.aload_n (j := 0) rfl dX4_act_204 ?_
  refine V.aload_n (j := 0) rfl dX4_act_205 ?_
  refine V.getr (q := 42) dX4_act_206 fX4_9 rfl rfl ?_
  refine V.iload_n (j := 2) rfl dX4_act_209 ?_
  refine V.lda (v := A 42 x) dX4_act_210 rfl (by omega) (by decide) rfl ?_
  refine V.cV (As := [.int (A 42 x)]) (st := []) dX4_act_211 sX4_64 iX4_speak lX4_speak rfl rfl (cd_speak41 I A t ht ht2 _) ⟨by decide, by decide⟩ (Nat.le_of_ble_eq_true rfl) rfl (fun r I' A' hq => ?_)
  obtain ⟨rfl, rfl, rfl⟩ := hq
  refine V.st (st' := []) rfl ?_
  refine V.goto (tgt := 255) dX4_act_214 (by decide) ?_
  refine V.rv dX4_act_255 rfl ?_
  exact ⟨rfl, rfl, rfl⟩
set_option maxRecDepth 100000 in
set_option maxHeartbeats 4000000 in
theorem cd_act41_11 {G : am_G} (I A : Nat → Nat → Int32) (x : Nat) (hx : x < 32) (y : Nat) (hy : y < 24) (z : Int32) : Cm G MX4_act 2 44 [.ref 41, .int (nI 11), .int (nI x), .int (nI y), .int z] I A (fun r I' A' => r = none ∧ I = I' ∧ upA A 42 (upd (A 42) x (A 43 (x / 16 * 24 + y))) = A') := by
  refine Cm.of (by decide) (Nat.le_of_ble_eq_true rfl) rfl ?_
  show V G MX4_act (am_R 2 44 0 0) _ 0 0 0 [(0, .ref 41), (1, .int (nI 11)), (2, .int (nI x)), (3, .int (nI y)), (4, .int z)] [] (hp I A)
  refine V.iload_n (j := 1) rfl dX4_act_0 ?_
  refine V.tableIn (tgt := 217) dX4_act_1 (by decide) (by decide) rfl (by decide) ?_
  refine V.aload_n (j := 0) rfl dX4_act_217 ?_
  refine V.getr (q := 42) dX4_act_218 fX4_9 rfl rfl ?_
  refine V.iload_n (j := 2) rfl dX4_act_221 ?_
  refine V.aload_n (j := 0) rfl dX4_act_222 ?_
  refine V.getr (q := 43) dX4_act_223 fX4_15 rfl rfl ?_
  refine V.iload_n (j := 2) rfl dX4_act_226 ?_
  refine V.iload_n (j := 3) rfl dX4_act_227 ?_
  refine V.cS (As := [.int (nI x), .int (nI y)]) (st := [.ref 43, .int (nI x), .ref 42]) dX4_act_228 sX4_68 zX4_slotAt (cd_slotAt I A x y hx hy) ⟨by decide, by decide⟩ (Nat.le_of_ble_eq_true rfl) rfl (fun r I' A' hq => ?_)
  obtain ⟨rfl, rfl, rfl⟩ := hq
  refine V.st (st' := [.int (nI (x / 16 * 24 + y)), .ref 43, .int (nI x), .ref 42]) rfl ?_
  refine V.lda (v := A 43 (x / 16 * 24 + y)) dX4_act_231 rfl (by omega) (by decide) rfl ?_
  refine V.sta (g := upd (A 42) x (A 43 (x / 16 * 24 + y))) dX4_act_232 rfl (by omega) (by decide) rfl ?_
  refine V.goto (tgt := 255) dX4_act_233 (by decide) ?_
  refine V.rv dX4_act_255 rfl ?_
  exact ⟨rfl, rfl, rfl⟩
set_option maxRecDepth 100000 in
set_option maxHeartbeats 4000000 in
theorem cd_act41_12 {G : am_G} (I A : Nat → Nat → Int32) (x : Nat) (hx : x < 32) (y : Nat) (hy : y < 24) (z : Int32) : Cm G MX4_act 2 44 [.ref 41, .int (nI 12), .int (nI x), .int (nI y), .int z] I A (fun r I' A' => r = none ∧ I = I' ∧ upA A 43 (upd (A 43) (x / 16 * 24 + y) (A 42 x)) = A') := by
  refine Cm.of (by decide) (Nat.le_of_ble_eq_true rfl) rfl ?_
  show V G MX4_act (am_R 2 44 0 0) _ 0 0 0 [(0, .ref 41), (1, .int (nI 12)), (2, .int (nI x)), (3, .int (nI y)), (4, .int z)] [] (hp I A)
  refine V.iload_n (j := 1) rfl dX4_act_0 ?_
  refine V.tableIn (tgt := 236) dX4_act_1 (by decide) (by decide) rfl (by decide) ?_
  refine V.aload_n (j := 0) rfl dX4_act_236 ?_
  refine V.getr (q := 43) dX4_act_237 fX4_15 rfl rfl ?_
  refine V.iload_n (j := 2) rfl dX4_act_240 ?_
  refine V.iload_n (j := 3) rfl dX4_act_241 ?_
  refine V.cS (As := [.int (nI x), .int (nI y)]) (st := [.ref 43]) dX4_act_242 sX4_68 zX4_slotAt (cd_slotAt I A x y hx hy) ⟨by decide, by decide⟩ (Nat.le_of_ble_eq_true rfl) rfl (fun r I' A' hq => ?_)
  obtain ⟨rfl, rfl, rfl⟩ := hq
  refine V.st (st' := [.int (nI (x / 16 * 24 + y)), .ref 43]) rfl ?_
  refine V.aload_n (j := 0) rfl dX4_act_245 ?_
  refine V.getr (q := 42) dX4_act_246 fX4_9 rfl rfl ?_
  refine V.iload_n (j := 2) rfl dX4_act_249 ?_
  refine V.lda (v := A 42 x) dX4_act_250 rfl (by omega) (by decide) rfl ?_
  refine V.sta (g := upd (A 43) (x / 16 * 24 + y) (A 42 x)) dX4_act_251 rfl (by omega) (by decide) rfl ?_
  refine V.goto (tgt := 255) dX4_act_252 (by decide) ?_
  refine V.rv dX4_act_255 rfl ?_
  exact ⟨rfl, rfl, rfl⟩
set_option maxRecDepth 100000 in
set_option maxHeartbeats 4000000 in
theorem cd_cellAt46 {G : am_G} (I A : Nat → Nat → Int32) (y : Nat) (hy : y < 32) (z : Int32) : Cm G MX4_cellAt 1 22 [.ref 46, .int (nI y), .int z] I A (fun r I' A' => r = some (.int (nI (mz_cl (A 47 y + z)))) ∧ I = I' ∧ A = A') := by
  refine Cm.of (by decide) (Nat.le_of_ble_eq_true rfl) rfl ?_
  show V G MX4_cellAt (am_R 1 22 0 0) _ 0 0 0 [(0, .ref 46), (1, .int (nI y)), (2, .int z)] [] (hp I A)
  refine V.aload_n (j := 0) rfl dX4_cellAt_0 ?_
  refine V.getr (q := 47) dX4_cellAt_1 fX4_9 rfl rfl ?_
  refine V.iload_n (j := 1) rfl dX4_cellAt_4 ?_
  refine V.lda (v := A 47 y) dX4_cellAt_5 rfl (by omega) (by decide) rfl ?_
  refine V.iload_n (j := 2) rfl dX4_cellAt_6 ?_
  refine V.iadd dX4_cellAt_7 ?_
  refine V.bipush (v := nI 64) (by decide) dX4_cellAt_8 ?_
  refine V.cS (As := [.int ((A 47 y) + (z)), .int (nI 64)]) (st := []) dX4_cellAt_10 sX4_71 zJ9_floorMod_7cf53 (cd_fmod I A _) ⟨by decide, by decide⟩ (Nat.le_of_ble_eq_true rfl) rfl (fun r I' A' hq => ?_)
  obtain ⟨rfl, rfl, rfl⟩ := hq
  refine V.st (st' := [.int (nI (mz_cl ((A 47 y) + (z))))]) rfl ?_
  refine V.ri dX4_cellAt_13 rfl ?_
  exact ⟨rfl, rfl, rfl⟩
set_option maxRecDepth 100000 in
set_option maxHeartbeats 4000000 in
theorem cd_speak46 {G : am_G} (I A : Nat → Nat → Int32) (t : Nat) (ht : I 46 4 = nI t) (ht2 : t < 4000) (v : Int32) : Cm G MX4_speak 0 0 [.ref 46, .int v] I A (fun r I' A' => r = none ∧ upI I 46 4 (nI (t + 1)) = I' ∧ upA A 50 (mz_sy t (A 50) v) = A') := by
  refine Cm.of (by decide) (Nat.le_of_ble_eq_true rfl) rfl ?_
  show V G MX4_speak (am_R 0 0 0 0) _ 0 0 0 [(0, .ref 46), (1, .int v)] [] (hp I A)
  refine V.aload_n (j := 0) rfl dX4_speak_0 ?_
  refine V.geti (v := nI t) dX4_speak_1 fX4_24 rfl rfl ht ?_
  refine V.bipush (v := nI 50) (by decide) dX4_speak_4 ?_
  refine V.icmp_geN (tgt := 19) dX4_speak_6 (by decide) (by omega) (by omega) (fun c1 => ?_) (fun c1 => ?_)
  · refine V.aload_n (j := 0) rfl dX4_speak_19 ?_
    refine V.dup rfl dX4_speak_20 ?_
    refine V.geti (v := nI t) dX4_speak_21 fX4_24 rfl rfl ht ?_
    refine V.iconst (v := nI 1) (by decide) dX4_speak_24 ?_
    refine V.iaddN dX4_speak_25 ?_
    refine V.puti dX4_speak_26 pX4_24 rfl rfl ?_
    refine V.rv dX4_speak_29 rfl ?_
    exact ⟨rfl, rfl, by unfold mz_sy; rw [if_neg (by omega)]; exact upA_i⟩
  · refine V.aload_n (j := 0) rfl dX4_speak_9 ?_
    refine V.getr (q := 50) dX4_speak_10 fX4_21 rfl rfl ?_
    refine V.aload_n (j := 0) rfl dX4_speak_13 ?_
    refine V.geti (v := nI t) dX4_speak_14 fX4_24 rfl rfl ht ?_
    refine V.iload_n (j := 1) rfl dX4_speak_17 ?_
    refine V.sta (g := upd (A 50) t (v)) dX4_speak_18 rfl (by omega) (by decide) rfl ?_
    refine V.aload_n (j := 0) rfl dX4_speak_19 ?_
    refine V.dup rfl dX4_speak_20 ?_
    refine V.geti (v := nI t) dX4_speak_21 fX4_24 rfl rfl ht ?_
    refine V.iconst (v := nI 1) (by decide) dX4_speak_24 ?_
    refine V.iaddN dX4_speak_25 ?_
    refine V.puti dX4_speak_26 pX4_24 rfl rfl ?_
    refine V.rv dX4_speak_29 rfl ?_
    exact ⟨rfl, rfl, by unfold mz_sy; rw [if_pos (by omega)]⟩
set_option maxRecDepth 100000 in
set_option maxHeartbeats 4000000 in
theorem cd_act46_0 {G : am_G} (I A : Nat → Nat → Int32) (x : Nat) (hx : x < 32) (y : Int32) (z : Int32) : Cm G MX4_act 2 44 [.ref 46, .int (nI 0), .int (nI x), .int y, .int z] I A (fun r I' A' => r = none ∧ I = I' ∧ upA A 47 (upd (A 47) x y) = A') := by
  refine Cm.of (by decide) (Nat.le_of_ble_eq_true rfl) rfl ?_
  show V G MX4_act (am_R 2 44 0 0) _ 0 0 0 [(0, .ref 46), (1, .int (nI 0)), (2, .int (nI x)), (3, .int y), (4, .int z)] [] (hp I A)
  refine V.iload_n (j := 1) rfl dX4_act_0 ?_
  refine V.tableIn (tgt := 68) dX4_act_1 (by decide) (by decide) rfl (by decide) ?_
  refine V.aload_n (j := 0) rfl dX4_act_68 ?_
  refine V.getr (q := 47) dX4_act_69 fX4_9 rfl rfl ?_
  refine V.iload_n (j := 2) rfl dX4_act_72 ?_
  refine V.iload_n (j := 3) rfl dX4_act_73 ?_
  refine V.sta (g := upd (A 47) x (y)) dX4_act_74 rfl (by omega) (by decide) rfl ?_
  refine V.goto (tgt := 255) dX4_act_75 (by decide) ?_
  refine V.rv dX4_act_255 rfl ?_
  exact ⟨rfl, rfl, rfl⟩
set_option maxRecDepth 100000 in
set_option maxHeartbeats 4000000 in
theorem cd_act46_1 {G : am_G} (I A : Nat → Nat → Int32) (x : Nat) (hx : x < 32) (y : Nat) (hy : y < 32) (z : Int32) : Cm G MX4_act 2 44 [.ref 46, .int (nI 1), .int (nI x), .int (nI y), .int z] I A (fun r I' A' => r = none ∧ I = I' ∧ upA A 47 (upd (A 47) x (A 47 y)) = A') := by
  refine Cm.of (by decide) (Nat.le_of_ble_eq_true rfl) rfl ?_
  show V G MX4_act (am_R 2 44 0 0) _ 0 0 0 [(0, .ref 46), (1, .int (nI 1)), (2, .int (nI x)), (3, .int (nI y)), (4, .int z)] [] (hp I A)
  refine V.iload_n (j := 1) rfl dX4_act_0 ?_
  refine V.tableIn (tgt := 78) dX4_act_1 (by decide) (by decide) rfl (by decide) ?_
  refine V.aload_n (j := 0) rfl dX4_act_78 ?_
  refine V.getr (q := 47) dX4_act_79 fX4_9 rfl rfl ?_
  refine V.iload_n (j := 2) rfl dX4_act_82 ?_
  refine V.aload_n (j := 0) rfl dX4_act_83 ?_
  refine V.getr (q := 47) dX4_act_84 fX4_9 rfl rfl ?_
  refine V.iload_n (j := 3) rfl dX4_act_87 ?_
  refine V.lda (v := A 47 y) dX4_act_88 rfl (by omega) (by decide) rfl ?_
  refine V.sta (g := upd (A 47) x (A 47 y)) dX4_act_89 rfl (by omega) (by decide) rfl ?_
  refine V.goto (tgt := 255) dX4_act_90 (by decide) ?_
  refine V.rv dX4_act_255 rfl ?_
  exact ⟨rfl, rfl, rfl⟩
set_option maxRecDepth 100000 in
set_option maxHeartbeats 4000000 in
theorem cd_act46_2 {G : am_G} (I A : Nat → Nat → Int32) (x : Nat) (hx : x < 32) (y : Nat) (hy : y < 32) (z : Nat) (hz : z < 32) : Cm G MX4_act 2 44 [.ref 46, .int (nI 2), .int (nI x), .int (nI y), .int (nI z)] I A (fun r I' A' => r = none ∧ I = I' ∧ upA A 47 (upd (A 47) x ((A 47 y) + (A 47 z))) = A') := by
  refine Cm.of (by decide) (Nat.le_of_ble_eq_true rfl) rfl ?_
  show V G MX4_act (am_R 2 44 0 0) _ 0 0 0 [(0, .ref 46), (1, .int (nI 2)), (2, .int (nI x)), (3, .int (nI y)), (4, .int (nI z))] [] (hp I A)
  refine V.iload_n (j := 1) rfl dX4_act_0 ?_
  refine V.tableIn (tgt := 93) dX4_act_1 (by decide) (by decide) rfl (by decide) ?_
  refine V.aload_n (j := 0) rfl dX4_act_93 ?_
  refine V.getr (q := 47) dX4_act_94 fX4_9 rfl rfl ?_
  refine V.iload_n (j := 2) rfl dX4_act_97 ?_
  refine V.aload_n (j := 0) rfl dX4_act_98 ?_
  refine V.getr (q := 47) dX4_act_99 fX4_9 rfl rfl ?_
  refine V.iload_n (j := 3) rfl dX4_act_102 ?_
  refine V.lda (v := A 47 y) dX4_act_103 rfl (by omega) (by decide) rfl ?_
  refine V.aload_n (j := 0) rfl dX4_act_104 ?_
  refine V.getr (q := 47) dX4_act_105 fX4_9 rfl rfl ?_
  refine V.iload (j := 4) rfl dX4_act_108 ?_
  refine V.lda (v := A 47 z) dX4_act_110 rfl (by omega) (by decide) rfl ?_
  refine V.iadd dX4_act_111 ?_
  refine V.sta (g := upd (A 47) x ((A 47 y) + (A 47 z))) dX4_act_112 rfl (by omega) (by decide) rfl ?_
  refine V.goto (tgt := 255) dX4_act_113 (by decide) ?_
  refine V.rv dX4_act_255 rfl ?_
  exact ⟨rfl, rfl, rfl⟩
set_option maxRecDepth 100000 in
set_option maxHeartbeats 4000000 in
theorem cd_act46_3 {G : am_G} (I A : Nat → Nat → Int32) (x : Nat) (hx : x < 32) (y : Nat) (hy : y < 32) (z : Nat) (hz : z < 32) : Cm G MX4_act 2 44 [.ref 46, .int (nI 3), .int (nI x), .int (nI y), .int (nI z)] I A (fun r I' A' => r = none ∧ I = I' ∧ upA A 47 (upd (A 47) x ((A 47 y) - (A 47 z))) = A') := by
  refine Cm.of (by decide) (Nat.le_of_ble_eq_true rfl) rfl ?_
  show V G MX4_act (am_R 2 44 0 0) _ 0 0 0 [(0, .ref 46), (1, .int (nI 3)), (2, .int (nI x)), (3, .int (nI y)), (4, .int (nI z))] [] (hp I A)
  refine V.iload_n (j := 1) rfl dX4_act_0 ?_
  refine V.tableIn (tgt := 116) dX4_act_1 (by decide) (by decide) rfl (by decide) ?_
  refine V.aload_n (j := 0) rfl dX4_act_116 ?_
  refine V.getr (q := 47) dX4_act_117 fX4_9 rfl rfl ?_
  refine V.iload_n (j := 2) rfl dX4_act_120 ?_
  refine V.aload_n (j := 0) rfl dX4_act_121 ?_
  refine V.getr (q := 47) dX4_act_122 fX4_9 rfl rfl ?_
  refine V.iload_n (j := 3) rfl dX4_act_125 ?_
  refine V.lda (v := A 47 y) dX4_act_126 rfl (by omega) (by decide) rfl ?_
  refine V.aload_n (j := 0) rfl dX4_act_127 ?_
  refine V.getr (q := 47) dX4_act_128 fX4_9 rfl rfl ?_
  refine V.iload (j := 4) rfl dX4_act_131 ?_
  refine V.lda (v := A 47 z) dX4_act_133 rfl (by omega) (by decide) rfl ?_
  refine V.isub dX4_act_134 ?_
  refine V.sta (g := upd (A 47) x ((A 47 y) - (A 47 z))) dX4_act_135 rfl (by omega) (by decide) rfl ?_
  refine V.goto (tgt := 255) dX4_act_136 (by decide) ?_
  refine V.rv dX4_act_255 rfl ?_
  exact ⟨rfl, rfl, rfl⟩
set_option maxRecDepth 100000 in
set_option maxHeartbeats 4000000 in
theorem cd_act46_4 {G : am_G} (I A : Nat → Nat → Int32) (x : Nat) (hx : x < 32) (y : Nat) (hy : y < 32) (z : Nat) (hz : z < 32) : Cm G MX4_act 2 44 [.ref 46, .int (nI 4), .int (nI x), .int (nI y), .int (nI z)] I A (fun r I' A' => r = none ∧ I = I' ∧ upA A 47 (upd (A 47) x ((A 47 y) * (A 47 z))) = A') := by
  refine Cm.of (by decide) (Nat.le_of_ble_eq_true rfl) rfl ?_
  show V G MX4_act (am_R 2 44 0 0) _ 0 0 0 [(0, .ref 46), (1, .int (nI 4)), (2, .int (nI x)), (3, .int (nI y)), (4, .int (nI z))] [] (hp I A)
  refine V.iload_n (j := 1) rfl dX4_act_0 ?_
  refine V.tableIn (tgt := 139) dX4_act_1 (by decide) (by decide) rfl (by decide) ?_
  refine V.aload_n (j := 0) rfl dX4_act_139 ?_
  refine V.getr (q := 47) dX4_act_140 fX4_9 rfl rfl ?_
  refine V.iload_n (j := 2) rfl dX4_act_143 ?_
  refine V.aload_n (j := 0) rfl dX4_act_144 ?_
  refine V.getr (q := 47) dX4_act_145 fX4_9 rfl rfl ?_
  refine V.iload_n (j := 3) rfl dX4_act_148 ?_
  refine V.lda (v := A 47 y) dX4_act_149 rfl (by omega) (by decide) rfl ?_
  refine V.aload_n (j := 0) rfl dX4_act_150 ?_
  refine V.getr (q := 47) dX4_act_151 fX4_9 rfl rfl ?_
  refine V.iload (j := 4) rfl dX4_act_154 ?_
  refine V.lda (v := A 47 z) dX4_act_156 rfl (by omega) (by decide) rfl ?_
  refine V.imul dX4_act_157 ?_
  refine V.sta (g := upd (A 47) x ((A 47 y) * (A 47 z))) dX4_act_158 rfl (by omega) (by decide) rfl ?_
  refine V.goto (tgt := 255) dX4_act_159 (by decide) ?_
  refine V.rv dX4_act_255 rfl ?_
  exact ⟨rfl, rfl, rfl⟩
set_option maxRecDepth 100000 in
set_option maxHeartbeats 4000000 in
theorem cd_act46_5 {G : am_G} (I A : Nat → Nat → Int32) (x : Nat) (hx : x < 32) (y : Nat) (hy : y < 32) (z : Int32) : Cm G MX4_act 2 44 [.ref 46, .int (nI 5), .int (nI x), .int (nI y), .int z] I A (fun r I' A' => r = none ∧ I = I' ∧ upA A 47 (upd (A 47) x (A 49 (mz_cl (A 47 y + z)))) = A') := by
  refine Cm.of (by decide) (Nat.le_of_ble_eq_true rfl) rfl ?_
  show V G MX4_act (am_R 2 44 0 0) _ 0 0 0 [(0, .ref 46), (1, .int (nI 5)), (2, .int (nI x)), (3, .int (nI y)), (4, .int z)] [] (hp I A)
  refine V.iload_n (j := 1) rfl dX4_act_0 ?_
  refine V.tableIn (tgt := 162) dX4_act_1 (by decide) (by decide) rfl (by decide) ?_
  refine V.aload_n (j := 0) rfl dX4_act_162 ?_
  refine V.getr (q := 47) dX4_act_163 fX4_9 rfl rfl ?_
  refine V.iload_n (j := 2) rfl dX4_act_166 ?_
  refine V.aload_n (j := 0) rfl dX4_act_167 ?_
  refine V.getr (q := 49) dX4_act_168 fX4_18 rfl rfl ?_
  refine V.aload_n (j := 0) rfl dX4_act_171 ?_
  refine V.iload_n (j := 3) rfl dX4_act_172 ?_
  refine V.iload (j := 4) rfl dX4_act_173 ?_
  refine V.cV (As := [.int (nI y), .int z]) (st := [.ref 49, .int (nI x), .ref 47]) dX4_act_175 sX4_60 iX4_cellAt lX4_cellAt rfl rfl (cd_cellAt46 I A y hy _) ⟨by decide, by decide⟩ (Nat.le_of_ble_eq_true rfl) rfl (fun r I' A' hq => ?_)
  obtain ⟨rfl, rfl, rfl⟩ := hq
  refine V.st (st' := [.int (nI (mz_cl (A 47 y + z))), .ref 49, .int (nI x), .ref 47]) rfl ?_
  have hcl := mz_cl_lt (A 47 y + z)
  refine V.lda (v := A 49 (mz_cl (A 47 y + z))) dX4_act_178 rfl (by omega) (by decide) rfl ?_
  refine V.sta (g := upd (A 47) x (A 49 (mz_cl (A 47 y + z)))) dX4_act_179 rfl (by omega) (by decide) rfl ?_
  refine V.goto (tgt := 255) dX4_act_180 (by decide) ?_
  refine V.rv dX4_act_255 rfl ?_
  exact ⟨rfl, rfl, rfl⟩
set_option maxRecDepth 100000 in
set_option maxHeartbeats 4000000 in
theorem cd_act46_6 {G : am_G} (I A : Nat → Nat → Int32) (x : Nat) (hx : x < 32) (y : Nat) (hy : y < 32) (z : Int32) : Cm G MX4_act 2 44 [.ref 46, .int (nI 6), .int (nI x), .int (nI y), .int z] I A (fun r I' A' => r = none ∧ I = I' ∧ upA A 49 (upd (A 49) (mz_cl (A 47 y + z)) (A 47 x)) = A') := by
  refine Cm.of (by decide) (Nat.le_of_ble_eq_true rfl) rfl ?_
  show V G MX4_act (am_R 2 44 0 0) _ 0 0 0 [(0, .ref 46), (1, .int (nI 6)), (2, .int (nI x)), (3, .int (nI y)), (4, .int z)] [] (hp I A)
  refine V.iload_n (j := 1) rfl dX4_act_0 ?_
  refine V.tableIn (tgt := 183) dX4_act_1 (by decide) (by decide) rfl (by decide) ?_
  refine V.aload_n (j := 0) rfl dX4_act_183 ?_
  refine V.getr (q := 49) dX4_act_184 fX4_18 rfl rfl ?_
  refine V.aload_n (j := 0) rfl dX4_act_187 ?_
  refine V.iload_n (j := 3) rfl dX4_act_188 ?_
  refine V.iload (j := 4) rfl dX4_act_189 ?_
  refine V.cV (As := [.int (nI y), .int z]) (st := [.ref 49]) dX4_act_191 sX4_60 iX4_cellAt lX4_cellAt rfl rfl (cd_cellAt46 I A y hy _) ⟨by decide, by decide⟩ (Nat.le_of_ble_eq_true rfl) rfl (fun r I' A' hq => ?_)
  obtain ⟨rfl, rfl, rfl⟩ := hq
  refine V.st (st' := [.int (nI (mz_cl (A 47 y + z))), .ref 49]) rfl ?_
  have hcl := mz_cl_lt (A 47 y + z)
  refine V.aload_n (j := 0) rfl dX4_act_194 ?_
  refine V.getr (q := 47) dX4_act_195 fX4_9 rfl rfl ?_
  refine V.iload_n (j := 2) rfl dX4_act_198 ?_
  refine V.lda (v := A 47 x) dX4_act_199 rfl (by omega) (by decide) rfl ?_
  refine V.sta (g := upd (A 49) (mz_cl (A 47 y + z)) (A 47 x)) dX4_act_200 rfl (by omega) (by decide) rfl ?_
  refine V.goto (tgt := 255) dX4_act_201 (by decide) ?_
  refine V.rv dX4_act_255 rfl ?_
  exact ⟨rfl, rfl, rfl⟩
set_option maxRecDepth 100000 in
set_option maxHeartbeats 4000000 in
theorem cd_act46_9 {G : am_G} (I A : Nat → Nat → Int32) (x : Nat) (hx : x < 32) (y : Int32) (z : Int32) (t : Nat) (ht : I 46 4 = nI t) (ht2 : t < 4000) : Cm G MX4_act 2 44 [.ref 46, .int (nI 9), .int (nI x), .int y, .int z] I A (fun r I' A' => r = none ∧ upI I 46 4 (nI (t + 1)) = I' ∧ upA A 50 (mz_sy t (A 50) (A 47 x)) = A') := by
  refine Cm.of (by decide) (Nat.le_of_ble_eq_true rfl) rfl ?_
  show V G MX4_act (am_R 2 44 0 0) _ 0 0 0 [(0, .ref 46), (1, .int (nI 9)), (2, .int (nI x)), (3, .int y), (4, .int z)] [] (hp I A)
  refine V.iload_n (j := 1) rfl dX4_act_0 ?_
  refine V.tableIn (tgt := 204) dX4_act_1 (by decide) (by decide) rfl (by decide) ?_
  refine V.aload_n (j := 0) rfl dX4_act_204 ?_
  refine V.aload_n (j := 0) rfl dX4_act_205 ?_
  refine V.getr (q := 47) dX4_act_206 fX4_9 rfl rfl ?_
  refine V.iload_n (j := 2) rfl dX4_act_209 ?_
  refine V.lda (v := A 47 x) dX4_act_210 rfl (by omega) (by decide) rfl ?_
  refine V.cV (As := [.int (A 47 x)]) (st := []) dX4_act_211 sX4_64 iX4_speak lX4_speak rfl rfl (cd_speak46 I A t ht ht2 _) ⟨by decide, by decide⟩ (Nat.le_of_ble_eq_true rfl) rfl (fun r I' A' hq => ?_)
  obtain ⟨rfl, rfl, rfl⟩ := hq
  refine V.st (st' := []) rfl ?_
  refine V.goto (tgt := 255) dX4_act_214 (by decide) ?_
  refine V.rv dX4_act_255 rfl ?_
  exact ⟨rfl, rfl, rfl⟩
set_option maxRecDepth 100000 in
set_option maxHeartbeats 4000000 in
theorem cd_act46_11 {G : am_G} (I A : Nat → Nat → Int32) (x : Nat) (hx : x < 32) (y : Nat) (hy : y < 24) (z : Int32) : Cm G MX4_act 2 44 [.ref 46, .int (nI 11), .int (nI x), .int (nI y), .int z] I A (fun r I' A' => r = none ∧ I = I' ∧ upA A 47 (upd (A 47) x (A 48 (x / 16 * 24 + y))) = A') := by
  refine Cm.of (by decide) (Nat.le_of_ble_eq_true rfl) rfl ?_
  show V G MX4_act (am_R 2 44 0 0) _ 0 0 0 [(0, .ref 46), (1, .int (nI 11)), (2, .int (nI x)), (3, .int (nI y)), (4, .int z)] [] (hp I A)
  refine V.iload_n (j := 1) rfl dX4_act_0 ?_
  refine V.tableIn (tgt := 217) dX4_act_1 (by decide) (by decide) rfl (by decide) ?_
  refine V.aload_n (j := 0) rfl dX4_act_217 ?_
  refine V.getr (q := 47) dX4_act_218 fX4_9 rfl rfl ?_
  refine V.iload_n (j := 2) rfl dX4_act_221 ?_
  refine V.aload_n (j := 0) rfl dX4_act_222 ?_
  refine V.getr (q := 48) dX4_act_223 fX4_15 rfl rfl ?_
  refine V.iload_n (j := 2) rfl dX4_act_226 ?_
  refine V.iload_n (j := 3) rfl dX4_act_227 ?_
  refine V.cS (As := [.int (nI x), .int (nI y)]) (st := [.ref 48, .int (nI x), .ref 47]) dX4_act_228 sX4_68 zX4_slotAt (cd_slotAt I A x y hx hy) ⟨by decide, by decide⟩ (Nat.le_of_ble_eq_true rfl) rfl (fun r I' A' hq => ?_)
  obtain ⟨rfl, rfl, rfl⟩ := hq
  refine V.st (st' := [.int (nI (x / 16 * 24 + y)), .ref 48, .int (nI x), .ref 47]) rfl ?_
  refine V.lda (v := A 48 (x / 16 * 24 + y)) dX4_act_231 rfl (by omega) (by decide) rfl ?_
  refine V.sta (g := upd (A 47) x (A 48 (x / 16 * 24 + y))) dX4_act_232 rfl (by omega) (by decide) rfl ?_
  refine V.goto (tgt := 255) dX4_act_233 (by decide) ?_
  refine V.rv dX4_act_255 rfl ?_
  exact ⟨rfl, rfl, rfl⟩
set_option maxRecDepth 100000 in
set_option maxHeartbeats 4000000 in
theorem cd_act46_12 {G : am_G} (I A : Nat → Nat → Int32) (x : Nat) (hx : x < 32) (y : Nat) (hy : y < 24) (z : Int32) : Cm G MX4_act 2 44 [.ref 46, .int (nI 12), .int (nI x), .int (nI y), .int z] I A (fun r I' A' => r = none ∧ I = I' ∧ upA A 48 (upd (A 48) (x / 16 * 24 + y) (A 47 x)) = A') := by
  refine Cm.of (by decide) (Nat.le_of_ble_eq_true rfl) rfl ?_
  show V G MX4_act (am_R 2 44 0 0) _ 0 0 0 [(0, .ref 46), (1, .int (nI 12)), (2, .int (nI x)), (3, .int (nI y)), (4, .int z)] [] (hp I A)
  refine V.iload_n (j := 1) rfl dX4_act_0 ?_
  refine V.tableIn (tgt := 236) dX4_act_1 (by decide) (by decide) rfl (by decide) ?_
  refine V.aload_n (j := 0) rfl dX4_act_236 ?_
  refine V.getr (q := 48) dX4_act_237 fX4_15 rfl rfl ?_
  refine V.iload_n (j := 2) rfl dX4_act_240 ?_
  refine V.iload_n (j := 3) rfl dX4_act_241 ?_
  refine V.cS (As := [.int (nI x), .int (nI y)]) (st := [.ref 48]) dX4_act_242 sX4_68 zX4_slotAt (cd_slotAt I A x y hx hy) ⟨by decide, by decide⟩ (Nat.le_of_ble_eq_true rfl) rfl (fun r I' A' hq => ?_)
  obtain ⟨rfl, rfl, rfl⟩ := hq
  refine V.st (st' := [.int (nI (x / 16 * 24 + y)), .ref 48]) rfl ?_
  refine V.aload_n (j := 0) rfl dX4_act_245 ?_
  refine V.getr (q := 47) dX4_act_246 fX4_9 rfl rfl ?_
  refine V.iload_n (j := 2) rfl dX4_act_249 ?_
  refine V.lda (v := A 47 x) dX4_act_250 rfl (by omega) (by decide) rfl ?_
  refine V.sta (g := upd (A 48) (x / 16 * 24 + y) (A 47 x)) dX4_act_251 rfl (by omega) (by decide) rfl ?_
  refine V.goto (tgt := 255) dX4_act_252 (by decide) ?_
  refine V.rv dX4_act_255 rfl ?_
  exact ⟨rfl, rfl, rfl⟩
