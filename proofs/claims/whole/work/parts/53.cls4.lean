/-- what is live before x, if there is such a step -/
def cz_at (ns : Nat) (bf : Nat → Int32) (x : Int32) : Int32 := if x < 0 then nI 0 else if nI ns ≤ x then nI 0 else bf x.toNatClampNeg
theorem cz_at_mz {ns : Nat} {bf : Nat → Int32} {x : Int32} (h : ¬ x < 0) : cz_at ns bf x = mz_at ns bf x := by unfold cz_at mz_at; rw [if_neg h]
theorem cz_or_c (x y : Int32) : x ||| y = y ||| x := bg_ext fun i _ => by rw [bg_or, bg_or, Bool.or_comm]
theorem cz_or_z (x : Int32) : nI 0 ||| x = x := bg_ext fun i _ => by rw [bg_or, bg_0, Bool.false_or]
theorem cz_or_z2 (x : Int32) : x ||| nI 0 = x := by rw [cz_or_c, cz_or_z]
set_option maxRecDepth 100000 in
set_option maxHeartbeats 4000000 in
theorem cd_bfIf {G : am_G} (I A : Nat → Nat → Int32) (ns : Nat) (hs : I 4 4 = nI ns) (hns : ns ≤ 60) (x : Int32) : Cm G MX1_beforeIfThere 0 0 [.ref 12, .ref 4, .int x] I A (fun r I' A' => r = some (.int (cz_at ns (A 13) x)) ∧ I = I' ∧ A = A') := by
  refine Cm.of (by decide) (Nat.le_of_ble_eq_true rfl) rfl ?_
  show V G MX1_beforeIfThere (am_R 0 0 0 0) _ 0 0 0 [(0, .ref 12), (1, .ref 4), (2, .int x)] [] (hp I A)
  refine V.iload_n (j := 2) rfl dX1_beforeIfThere_0 ?_
  refine V.if_lt (tgt := 21) dX1_beforeIfThere_1 (by decide) (fun c1 => ?_) (fun c1 => ?_)
  · refine V.iconst (v := nI 0) (by decide) dX1_beforeIfThere_21 ?_
    refine V.ri dX1_beforeIfThere_22 rfl ?_
    exact ⟨by unfold cz_at; rw [if_pos c1], rfl, rfl⟩
  · refine V.iload_n (j := 2) rfl dX1_beforeIfThere_4 ?_
    refine V.aload_n (j := 1) rfl dX1_beforeIfThere_5 ?_
    refine V.geti (v := nI ns) dX1_beforeIfThere_6 fX1_24 rfl rfl hs ?_
    refine V.icmp_ge (tgt := 21) dX1_beforeIfThere_9 (by decide) (fun c2 => ?_) (fun c2 => ?_)
    · refine V.iconst (v := nI 0) (by decide) dX1_beforeIfThere_21 ?_
      refine V.ri dX1_beforeIfThere_22 rfl ?_
      exact ⟨by unfold cz_at; rw [if_neg c1, if_pos c2], rfl, rfl⟩
    · obtain ⟨j, hj, rfl⟩ := mz_nat (nv := ns) (by omega) ⟨c1, c2⟩
      refine V.aload_n (j := 0) rfl dX1_beforeIfThere_12 ?_
      refine V.getr (q := 13) dX1_beforeIfThere_13 fX1_9 rfl rfl ?_
      refine V.iload_n (j := 2) rfl dX1_beforeIfThere_16 ?_
      refine V.lda (v := A 13 j) dX1_beforeIfThere_17 rfl (by omega) (by decide) rfl ?_
      refine V.goto (tgt := 22) dX1_beforeIfThere_18 (by decide) ?_
      refine V.ri dX1_beforeIfThere_22 rfl ?_
      exact ⟨by unfold cz_at; rw [if_neg c1, if_neg c2, nI_clamp (by omega)], rfl, rfl⟩
noncomputable def cz_out (ns : Nat) (op fa fc bf : Nat → Int32) (s : Nat) : Int32 := @ite _ (cz_on op s) (Classical.propDecidable _) (cz_at ns bf (cz_tgt op fa fc s) ||| cz_at ns bf (nI (s + 1))) (cz_at ns bf (cz_tgt op fa fc s))
theorem cz_out_e {ns : Nat} {op fa fc bf : Nat → Int32} {s : Nat} (hs : s < 60) (h8 : op s = nI 8 → ¬ fa s < 0) (h7 : op s = nI 7 → ¬ fc s < 0) : cz_out ns op fa fc bf s = mz_out ns op fa fc bf s := by
  have hs1 : ¬ nI (s + 1) < 0 := nI_pos (by omega)
  have em : cz_at ns bf (-1) = nI 0 := by unfold cz_at; rw [if_pos (by decide)]
  unfold cz_out mz_out cz_tgt
  by_cases q8 : op s = nI 8
  · have q7 : ¬ op s = nI 7 := by rw [q8]; decide
    rw [if_neg (fun z : cz_on op s => z.1 q8), if_neg q7, if_pos q8, if_pos q8, if_neg q7, cz_at_mz (h8 q8), cz_or_z2]
  · by_cases q10 : op s = nI 10
    · have q7 : ¬ op s = nI 7 := by rw [q10]; decide
      rw [if_neg (fun z : cz_on op s => z.2 q10), if_neg q7, if_neg q8, if_neg q8, if_pos q10, if_neg q7, em, cz_or_z2]
    · rw [if_pos (show cz_on op s from ⟨q8, q10⟩), if_neg q8, if_neg q10]
      by_cases q7 : op s = nI 7
      · rw [if_pos q7, if_pos q7, cz_at_mz (h7 q7), cz_at_mz hs1, cz_or_c, if_neg q8]
      · rw [if_neg q7, if_neg q8, if_neg q7, cz_at_mz hs1, em, cz_or_z, cz_or_z2]
theorem cz_inn_e {ns : Nat} {op fa fb fc bf : Nat → Int32} {s : Nat} : ((mz_out ns op fa fc bf s &&& (mz_bit (mz_anew op fa s) ^^^ (-1))) ||| mz_bit (mz_tak0 op fa fb s)) ||| mz_bit (mz_tak1 op fb fc s) = mz_inn ns op fa fb fc bf s := by
  apply bg_ext
  intro i hi
  unfold mz_inn mz_taking
  rw [bg_or, bg_or, bg_and, bg_not _ hi, bg_or, bg_or, bg_or, bg_0]
  by_cases q : mz_anew op fa s = (-1)
  · rw [if_pos q, q, mz_bit_m]
    cases bg_t (mz_out ns op fa fc bf s) i <;> cases bg_t (mz_bit (mz_tak0 op fa fb s)) i <;> cases bg_t (mz_bit (mz_tak1 op fb fc s)) i <;> rfl
  · rw [if_neg q, bg_and, bg_not _ hi]
    have e : mz_bit (mz_anew op fa s) = nI 1 <<< (mz_anew op fa s &&& 31) := if_neg q
    rw [e]
    cases bg_t (mz_out ns op fa fc bf s) i <;> cases bg_t (mz_bit (mz_tak0 op fa fb s)) i <;> cases bg_t (mz_bit (mz_tak1 op fb fc s)) i <;> cases bg_t (nI 1 <<< (mz_anew op fa s &&& 31)) i <;> rfl
set_option maxRecDepth 100000 in
set_option maxHeartbeats 4000000 in
theorem cd_behind {G : am_G} (I A : Nat → Nat → Int32) (ns : Nat) (hs : I 4 4 = nI ns) (hns : ns ≤ 60) (h8 : ∀ s, s < ns → A 5 s = nI 8 → ¬ A 6 s < 0) (h7 : ∀ s, s < ns → A 5 s = nI 7 → ¬ A 8 s < 0) (s : Nat) (hss : s < ns) : Cm G MX1_behind 1 22 [.ref 12, .ref 4, .int (nI s)] I A (fun r I' A' => r = some (.int (mz_out ns (A 5) (A 6) (A 8) (A 13) s)) ∧ I = I' ∧ A = A') := by
  refine Cm.of (by decide) (Nat.le_of_ble_eq_true rfl) rfl ?_
  show V G MX1_behind (am_R 1 22 0 0) _ 0 0 0 [(0, .ref 12), (1, .ref 4), (2, .int (nI s))] [] (hp I A)
  refine V.aload_n (j := 0) rfl dX1_behind_0 ?_
  refine V.aload_n (j := 1) rfl dX1_behind_1 ?_
  refine V.aload_n (j := 1) rfl dX1_behind_2 ?_
  refine V.iload_n (j := 2) rfl dX1_behind_3 ?_
  refine V.cV (As := [.int (nI s)]) (st := [.ref 4, .ref 12]) dX1_behind_4 sX1_51 iX3_target lX3_target rfl rfl (cd_target4 I A s (by omega)) ⟨by decide, by decide⟩ (Nat.le_of_ble_eq_true rfl) rfl (fun r I' A' hq => ?_)
  obtain ⟨rfl, rfl, rfl⟩ := hq
  refine V.st (st' := [.int (cz_tgt (A 5) (A 6) (A 8) s), .ref 4, .ref 12]) rfl ?_
  refine V.cV (As := [.ref 4, .int (cz_tgt (A 5) (A 6) (A 8) s)]) (st := []) dX1_behind_7 sX1_54 iX1_beforeIfThere lX1_beforeIfThere rfl rfl (cd_bfIf I A ns hs hns _) ⟨by decide, by decide⟩ (Nat.le_of_ble_eq_true rfl) rfl (fun r I' A' hq => ?_)
  obtain ⟨rfl, rfl, rfl⟩ := hq
  refine V.st (st' := [.int (cz_at ns (A 13) (cz_tgt (A 5) (A 6) (A 8) s))]) rfl ?_
  refine V.istore_n (ls' := [(0, .ref 12), (1, .ref 4), (2, .int (nI s)), (3, .int (cz_at ns (A 13) (cz_tgt (A 5) (A 6) (A 8) s)))]) dX1_behind_10 (by decide) rfl ?_
  refine V.aload_n (j := 1) rfl dX1_behind_11 ?_
  refine V.iload_n (j := 2) rfl dX1_behind_12 ?_
  refine V.cV (As := [.int (nI s)]) (st := []) dX1_behind_13 sX1_57 iX3_goesOn lX3_goesOn rfl rfl (cd_on4 I A s (by omega)) ⟨by decide, by decide⟩ (Nat.le_of_ble_eq_true rfl) rfl (fun r I' A' hq => ?_)
  obtain ⟨rfl, rfl, rfl⟩ := hq
  by_cases b1 : cz_on (A 5) s
  · refine V.st (st' := [.int (nI 1)]) (by rw [bI_t b1]; rfl) ?_
    refine V.if_eq (tgt := 30) dX1_behind_16 (by decide) (fun z => absurd z (by decide)) (fun _ => ?_)
    refine V.iload_n (j := 3) rfl dX1_behind_19 ?_
    refine V.aload_n (j := 0) rfl dX1_behind_20 ?_
    refine V.aload_n (j := 1) rfl dX1_behind_21 ?_
    refine V.iload_n (j := 2) rfl dX1_behind_22 ?_
    refine V.iconst (v := nI 1) (by decide) dX1_behind_23 ?_
    refine V.iaddN dX1_behind_24 ?_
    refine V.cV (As := [.ref 4, .int (nI (s + 1))]) (st := [.int (cz_at ns (A 13) (cz_tgt (A 5) (A 6) (A 8) s))]) dX1_behind_25 sX1_54 iX1_beforeIfThere lX1_beforeIfThere rfl rfl (cd_bfIf I A ns hs hns _) ⟨by decide, by decide⟩ (Nat.le_of_ble_eq_true rfl) rfl (fun r I' A' hq => ?_)
    obtain ⟨rfl, rfl, rfl⟩ := hq
    refine V.st (st' := [.int (cz_at ns (A 13) (nI (s + 1))), .int (cz_at ns (A 13) (cz_tgt (A 5) (A 6) (A 8) s))]) rfl ?_
    refine V.ior dX1_behind_28 ?_
    refine V.istore_n (ls' := [(0, .ref 12), (1, .ref 4), (2, .int (nI s)), (3, .int ((cz_at ns (A 13) (cz_tgt (A 5) (A 6) (A 8) s)) ||| (cz_at ns (A 13) (nI (s + 1)))))]) dX1_behind_29 (by decide) rfl ?_
    refine V.iload_n (j := 3) rfl dX1_behind_30 ?_
    refine V.ri dX1_behind_31 rfl ?_
    exact ⟨by rw [← cz_out_e (by omega) (h8 s hss) (h7 s hss)]; unfold cz_out; rw [if_pos b1], rfl, rfl⟩
  · refine V.st (st' := [.int (nI 0)]) (by rw [bI_f b1]; rfl) ?_
    refine V.if_eq (tgt := 30) dX1_behind_16 (by decide) (fun _ => ?_) (fun z => absurd z (by decide))
    refine V.iload_n (j := 3) rfl dX1_behind_30 ?_
    refine V.ri dX1_behind_31 rfl ?_
    exact ⟨by rw [← cz_out_e (by omega) (h8 s hss) (h7 s hss)]; unfold cz_out; rw [if_neg b1], rfl, rfl⟩
set_option maxRecDepth 100000 in
set_option maxHeartbeats 4000000 in
theorem cd_liveB {G : am_G} (I A : Nat → Nat → Int32) (ns : Nat) (hs : I 4 4 = nI ns) (hns : ns ≤ 60) (h8 : ∀ s, s < ns → A 5 s = nI 8 → ¬ A 6 s < 0) (h7 : ∀ s, s < ns → A 5 s = nI 7 → ¬ A 8 s < 0) (h9 : ∀ s, s < ns → A 9 s = mz_anew (A 5) (A 6) s) (h10 : ∀ s, s < ns → A 10 s = mz_tak0 (A 5) (A 6) (A 7) s) (h11 : ∀ s, s < ns → A 11 s = mz_tak1 (A 5) (A 7) (A 8) s) (s : Nat) (hss : s < ns) : Cm G MX1_liveBefore 2 45 [.ref 12, .ref 1, .int (nI s)] I A (fun r I' A' => r = some (.int (mz_inn ns (A 5) (A 6) (A 7) (A 8) (A 13) s)) ∧ I = I' ∧ A = A') := by
  refine Cm.of (by decide) (Nat.le_of_ble_eq_true rfl) rfl ?_
  show V G MX1_liveBefore (am_R 2 45 0 0) _ 0 0 0 [(0, .ref 12), (1, .ref 1), (2, .int (nI s))] [] (hp I A)
  refine V.aload_n (j := 0) rfl dX1_liveBefore_0 ?_
  refine V.aload_n (j := 1) rfl dX1_liveBefore_1 ?_
  refine V.getr (q := 4) dX1_liveBefore_2 fX1_18 rfl rfl ?_
  refine V.iload_n (j := 2) rfl dX1_liveBefore_5 ?_
  refine V.cV (As := [.ref 4, .int (nI s)]) (st := []) dX1_liveBefore_6 sX1_34 iX1_behind lX1_behind rfl rfl (cd_behind I A ns hs hns h8 h7 s hss) ⟨by decide, by decide⟩ (Nat.le_of_ble_eq_true rfl) rfl (fun r I' A' hq => ?_)
  obtain ⟨rfl, rfl, rfl⟩ := hq
  refine V.st (st' := [.int (mz_out ns (A 5) (A 6) (A 8) (A 13) s)]) rfl ?_
  refine V.aload_n (j := 1) rfl dX1_liveBefore_9 ?_
  refine V.getr (q := 9) dX1_liveBefore_10 fX1_38 rfl rfl ?_
  refine V.iload_n (j := 2) rfl dX1_liveBefore_13 ?_
  refine V.lda (v := mz_anew (A 5) (A 6) s) dX1_liveBefore_14 rfl (by omega) (by decide) (h9 s hss) ?_
  refine V.cSN (As := [.int (mz_anew (A 5) (A 6) s)]) (st := [.int (mz_out ns (A 5) (A 6) (A 8) (A 13) s)]) dX1_liveBefore_15 sX1_41 zX7_bitIfThere (cd_bitIf I A _) ⟨by decide, by decide⟩ (Nat.le_of_ble_eq_true rfl) rfl (fun r I' A' hq => ?_)
  obtain ⟨rfl, rfl, rfl⟩ := hq
  refine V.st (st' := [.int (mz_bit (mz_anew (A 5) (A 6) s)), .int (mz_out ns (A 5) (A 6) (A 8) (A 13) s)]) rfl ?_
  refine V.iconst (v := (-1)) (by decide) dX1_liveBefore_18 ?_
  refine V.ixor dX1_liveBefore_19 ?_
  refine V.iand dX1_liveBefore_20 ?_
  refine V.istore_n (ls' := [(0, .ref 12), (1, .ref 1), (2, .int (nI s)), (3, .int ((mz_out ns (A 5) (A 6) (A 8) (A 13) s) &&& ((mz_bit (mz_anew (A 5) (A 6) s)) ^^^ ((-1)))))]) dX1_liveBefore_21 (by decide) rfl ?_
  refine V.iload_n (j := 3) rfl dX1_liveBefore_22 ?_
  refine V.aload_n (j := 1) rfl dX1_liveBefore_23 ?_
  refine V.getr (q := 10) dX1_liveBefore_24 fX1_45 rfl rfl ?_
  refine V.iload_n (j := 2) rfl dX1_liveBefore_27 ?_
  refine V.lda (v := mz_tak0 (A 5) (A 6) (A 7) s) dX1_liveBefore_28 rfl (by omega) (by decide) (h10 s hss) ?_
  refine V.cSN (As := [.int (mz_tak0 (A 5) (A 6) (A 7) s)]) (st := [.int ((mz_out ns (A 5) (A 6) (A 8) (A 13) s) &&& ((mz_bit (mz_anew (A 5) (A 6) s)) ^^^ ((-1))))]) dX1_liveBefore_29 sX1_41 zX7_bitIfThere (cd_bitIf I A _) ⟨by decide, by decide⟩ (Nat.le_of_ble_eq_true rfl) rfl (fun r I' A' hq => ?_)
  obtain ⟨rfl, rfl, rfl⟩ := hq
  refine V.st (st' := [.int (mz_bit (mz_tak0 (A 5) (A 6) (A 7) s)), .int ((mz_out ns (A 5) (A 6) (A 8) (A 13) s) &&& ((mz_bit (mz_anew (A 5) (A 6) s)) ^^^ ((-1))))]) rfl ?_
  refine V.ior dX1_liveBefore_32 ?_
  refine V.aload_n (j := 1) rfl dX1_liveBefore_33 ?_
  refine V.getr (q := 11) dX1_liveBefore_34 fX1_48 rfl rfl ?_
  refine V.iload_n (j := 2) rfl dX1_liveBefore_37 ?_
  refine V.lda (v := mz_tak1 (A 5) (A 7) (A 8) s) dX1_liveBefore_38 rfl (by omega) (by decide) (h11 s hss) ?_
  refine V.cSN (As := [.int (mz_tak1 (A 5) (A 7) (A 8) s)]) (st := [.int (((mz_out ns (A 5) (A 6) (A 8) (A 13) s) &&& ((mz_bit (mz_anew (A 5) (A 6) s)) ^^^ ((-1)))) ||| (mz_bit (mz_tak0 (A 5) (A 6) (A 7) s)))]) dX1_liveBefore_39 sX1_41 zX7_bitIfThere (cd_bitIf I A _) ⟨by decide, by decide⟩ (Nat.le_of_ble_eq_true rfl) rfl (fun r I' A' hq => ?_)
  obtain ⟨rfl, rfl, rfl⟩ := hq
  refine V.st (st' := [.int (mz_bit (mz_tak1 (A 5) (A 7) (A 8) s)), .int (((mz_out ns (A 5) (A 6) (A 8) (A 13) s) &&& ((mz_bit (mz_anew (A 5) (A 6) s)) ^^^ ((-1)))) ||| (mz_bit (mz_tak0 (A 5) (A 6) (A 7) s)))]) rfl ?_
  refine V.ior dX1_liveBefore_42 ?_
  refine V.ri dX1_liveBefore_43 rfl ?_
  exact ⟨by rw [← cz_inn_e], rfl, rfl⟩
/-- a pass over the steps, the last one first, of what is live before them alone; and whether it grew -/
def cz_pass (ns : Nat) (op fa fb fc : Nat → Int32) : Nat → (Nat → Int32) → Nat → Int32
  | 0, f => f
  | m + 1, f => cz_pass ns op fa fb fc m (upd f m (mz_inn ns op fa fb fc f m))
def cz_g1 (ns : Nat) (op fa fb fc f : Nat → Int32) (m : Nat) (g : Int32) : Int32 := if ¬ g = 0 then nI 1 else if mz_inn ns op fa fb fc f m = f m then nI 0 else nI 1
def cz_gr (ns : Nat) (op fa fb fc : Nat → Int32) : Nat → (Nat → Int32) → Int32 → Int32
  | 0, _, g => g
  | m + 1, f, g => cz_gr ns op fa fb fc m (upd f m (mz_inn ns op fa fb fc f m)) (cz_g1 ns op fa fb fc f m g)
def cz_it (ns : Nat) (op fa fb fc f : Nat → Int32) : Nat → Nat → Int32
  | 0 => f
  | k + 1 => cz_pass ns op fa fb fc ns (cz_it ns op fa fb fc f k)
def cz_mo (ns : Nat) (op fa fb fc f : Nat → Int32) (k : Nat) : Int32 := cz_gr ns op fa fb fc ns (cz_it ns op fa fb fc f k) (nI 0)
set_option maxRecDepth 100000 in
set_option maxHeartbeats 4000000 in
theorem cl_spread1 {G : am_G} {Fn : Array Value → State → List Frame → State → Prop} (I A : Nat → Nat → Int32) (ns : Nat) (hns : ns ≤ 60) : ∀ (m : Nat) (i : Nat) (f : Nat → Int32), i + m = ns → V G MX1_spread (am_R 3 68 0 0) Fn 0 0 28 [(0, .ref 12), (1, .ref 1), (2, .int (nI ns))] [] (hp I (upA A 13 (mz_fill m i f))) → V G MX1_spread (am_R 3 68 0 0) Fn 0 0 10 [(0, .ref 12), (1, .ref 1), (2, .int (nI ns)), (3, .int (nI i))] [] (hp I (upA A 13 (f))) := by
  intro m
  induction m with
  | zero =>
    intro i f hi0 hk
    refine V.iload_n (j := 3) rfl dX1_spread_10 ?_
    refine V.iload_n (j := 2) rfl dX1_spread_11 ?_
    refine V.icmp_geN (tgt := 28) dX1_spread_12 (by decide) (by omega) (by omega) (fun c1 => ?_) (fun c1 => ?_)
    · refine V.fewer [0, 1, 2] rfl ?_
      exact hk
    · exact absurd c1 (by omega)
  | succ m ih =>
    intro i f hi0 hk
    refine V.iload_n (j := 3) rfl dX1_spread_10 ?_
    refine V.iload_n (j := 2) rfl dX1_spread_11 ?_
    refine V.icmp_geN (tgt := 28) dX1_spread_12 (by decide) (by omega) (by omega) (fun c2 => ?_) (fun c2 => ?_)
    · exact absurd c2 (by omega)
    · refine V.aload_n (j := 0) rfl dX1_spread_15 ?_
      refine V.getr (q := 13) dX1_spread_16 fX1_9 rfl rfl ?_
      refine V.iload_n (j := 3) rfl dX1_spread_19 ?_
      refine V.iconst (v := nI 0) (by decide) dX1_spread_20 ?_
      refine V.sta (g := upd f i (nI 0)) dX1_spread_21 rfl (by omega) (by decide) rfl ?_
      refine V.hpe (A' := (upA A 13 (upd f i (nI 0)))) rfl upA_u ?_
      refine V.iincN (ls' := [(0, .ref 12), (1, .ref 1), (2, .int (nI ns)), (3, .int (nI (i + 1)))]) dX1_spread_22 (j := 3) rfl (by decide) rfl ?_
      refine V.goto (tgt := 10) dX1_spread_25 (by decide) ?_
      exact ih (i + 1) _ (by omega) hk
set_option maxRecDepth 100000 in
set_option maxHeartbeats 4000000 in
theorem cl_spread2 {G : am_G} {Fn : Array Value → State → List Frame → State → Prop} (I A : Nat → Nat → Int32) (ns : Nat) (hs : I 4 4 = nI ns) (hns : ns ≤ 60) (h8 : ∀ s, s < ns → A 5 s = nI 8 → ¬ A 6 s < 0) (h7 : ∀ s, s < ns → A 5 s = nI 7 → ¬ A 8 s < 0) (h9 : ∀ s, s < ns → A 9 s = mz_anew (A 5) (A 6) s) (h10 : ∀ s, s < ns → A 10 s = mz_tak0 (A 5) (A 6) (A 7) s) (h11 : ∀ s, s < ns → A 11 s = mz_tak1 (A 5) (A 7) (A 8) s) (p : Nat) : ∀ (m : Nat) (f : Nat → Int32) (g : Int32), m ≤ ns → V G MX1_spread (am_R 3 68 0 0) Fn 0 0 103 [(0, .ref 12), (1, .ref 1), (2, .int (nI ns)), (3, .int (cz_gr ns (A 5) (A 6) (A 7) (A 8) m f g)), (4, .int (nI p))] [] (hp I (upA A 13 (cz_pass ns (A 5) (A 6) (A 7) (A 8) m f))) → V G MX1_spread (am_R 3 68 0 0) Fn 0 0 52 [(0, .ref 12), (1, .ref 1), (2, .int (nI ns)), (3, .int g), (4, .int (nI p)), (5, .int (mz_pre m))] [] (hp I (upA A 13 (f))) := by
  intro m
  induction m with
  | zero =>
    intro f g hi0 hk
    refine V.lse (ls' := [(0, .ref 12), (1, .ref 1), (2, .int (nI ns)), (3, .int g), (4, .int (nI p)), (5, .int ((-1)))]) rfl ?_
    refine V.iload (j := 5) rfl dX1_spread_52 ?_
    refine V.if_lt (tgt := 103) dX1_spread_54 (by decide) (fun c1 => ?_) (fun c1 => ?_)
    · refine V.fewer [0, 1, 2, 3, 4] rfl ?_
      exact hk
    · exact absurd (by decide) c1
  | succ m ih =>
    intro f g hi0 hk
    refine V.lse (ls' := [(0, .ref 12), (1, .ref 1), (2, .int (nI ns)), (3, .int g), (4, .int (nI p)), (5, .int (nI m))]) rfl ?_
    refine V.iload (j := 5) rfl dX1_spread_52 ?_
    refine V.if_ltN (tgt := 103) dX1_spread_54 (by decide) (by omega) ?_
    refine V.aload_n (j := 0) rfl dX1_spread_57 ?_
    refine V.aload_n (j := 1) rfl dX1_spread_58 ?_
    refine V.iload (j := 5) rfl dX1_spread_59 ?_
    refine V.cV (As := [.ref 1, .int (nI m)]) (st := []) dX1_spread_61 sX1_30 iX1_liveBefore lX1_liveBefore rfl rfl (cd_liveB I (upA A 13 (f)) ns hs hns h8 h7 h9 h10 h11 m (by omega)) ⟨by decide, by decide⟩ (Nat.le_of_ble_eq_true rfl) rfl (fun r I' A' hq => ?_)
    obtain ⟨rfl, rfl, rfl⟩ := hq
    refine V.st (st' := [.int (mz_inn ns (A 5) (A 6) (A 7) (A 8) f m)]) rfl ?_
    refine V.istore (ls' := [(0, .ref 12), (1, .ref 1), (2, .int (nI ns)), (3, .int g), (4, .int (nI p)), (5, .int (nI m)), (6, .int (mz_inn ns (A 5) (A 6) (A 7) (A 8) f m))]) dX1_spread_64 (by decide) rfl ?_
    have K3 : V G MX1_spread (am_R 3 68 0 0) Fn 0 0 87 [(0, .ref 12), (1, .ref 1), (2, .int (nI ns)), (3, .int g), (4, .int (nI p)), (5, .int (nI m)), (6, .int (mz_inn ns (A 5) (A 6) (A 7) (A 8) f m))] [.int (cz_g1 ns (A 5) (A 6) (A 7) (A 8) f m g)] (hp I (upA A 13 (f))) := by
      refine V.istore_n (ls' := [(0, .ref 12), (1, .ref 1), (2, .int (nI ns)), (3, .int (cz_g1 ns (A 5) (A 6) (A 7) (A 8) f m g)), (4, .int (nI p)), (5, .int (nI m)), (6, .int (mz_inn ns (A 5) (A 6) (A 7) (A 8) f m))]) dX1_spread_87 (by decide) rfl ?_
      refine V.aload_n (j := 0) rfl dX1_spread_88 ?_
      refine V.getr (q := 13) dX1_spread_89 fX1_9 rfl rfl ?_
      refine V.iload (j := 5) rfl dX1_spread_92 ?_
      refine V.iload (j := 6) rfl dX1_spread_94 ?_
      refine V.sta (g := upd f m (mz_inn ns (A 5) (A 6) (A 7) (A 8) f m)) dX1_spread_96 rfl (by omega) (by decide) rfl ?_
      refine V.hpe (A' := (upA A 13 (upd f m (mz_inn ns (A 5) (A 6) (A 7) (A 8) f m)))) rfl upA_u ?_
      refine V.iinc (v := mz_pre m) (ls' := [(0, .ref 12), (1, .ref 1), (2, .int (nI ns)), (3, .int (cz_g1 ns (A 5) (A 6) (A 7) (A 8) f m g)), (4, .int (nI p)), (5, .int (mz_pre m)), (6, .int (mz_inn ns (A 5) (A 6) (A 7) (A 8) f m))]) dX1_spread_97 (j := 5) rfl (mz_pre_dec m) (by decide) rfl ?_
      refine V.goto (tgt := 52) dX1_spread_100 (by decide) ?_
      refine V.fewer [0, 1, 2, 3, 4, 5] rfl ?_
      exact ih _ _ (by omega) hk
    refine V.iload_n (j := 3) rfl dX1_spread_66 ?_
    refine V.if_ne (tgt := 82) dX1_spread_67 (by decide) (fun c4 => ?_) (fun c4 => ?_)
    · refine V.iconst (v := nI 1) (by decide) dX1_spread_82 ?_
      refine V.goto (tgt := 87) dX1_spread_83 (by decide) ?_
      exact V.st (by unfold cz_g1; rw [if_pos c4]) K3
    · refine V.iload (j := 6) rfl dX1_spread_70 ?_
      refine V.aload_n (j := 0) rfl dX1_spread_72 ?_
      refine V.getr (q := 13) dX1_spread_73 fX1_9 rfl rfl ?_
      refine V.iload (j := 5) rfl dX1_spread_76 ?_
      refine V.lda (v := f m) dX1_spread_78 rfl (by omega) (by decide) rfl ?_
      refine V.icmp_eq (tgt := 86) dX1_spread_79 (by decide) (fun c5 => ?_) (fun c5 => ?_)
      · refine V.iconst (v := nI 0) (by decide) dX1_spread_86 ?_
        exact V.st (by unfold cz_g1; rw [if_neg (fun z => z c4), if_pos c5]) K3
      · refine V.iconst (v := nI 1) (by decide) dX1_spread_82 ?_
        refine V.goto (tgt := 87) dX1_spread_83 (by decide) ?_
        exact V.st (by unfold cz_g1; rw [if_neg (fun z => z c4), if_neg c5]) K3
set_option maxRecDepth 100000 in
set_option maxHeartbeats 4000000 in
theorem cl_spread3 {G : am_G} {Fn : Array Value → State → List Frame → State → Prop} (I A : Nat → Nat → Int32) (ns : Nat) (hs : I 4 4 = nI ns) (hns : ns ≤ 60) (h8 : ∀ s, s < ns → A 5 s = nI 8 → ¬ A 6 s < 0) (h7 : ∀ s, s < ns → A 5 s = nI 7 → ¬ A 8 s < 0) (h9 : ∀ s, s < ns → A 9 s = mz_anew (A 5) (A 6) s) (h10 : ∀ s, s < ns → A 10 s = mz_tak0 (A 5) (A 6) (A 7) s) (h11 : ∀ s, s < ns → A 11 s = mz_tak1 (A 5) (A 7) (A 8) s) (f0 : Nat → Int32) (kf : Nat) (hkb : kf ≤ 1440) (hkf : cz_mo ns (A 5) (A 6) (A 7) (A 8) f0 kf = nI 0) (hmin : ∀ j, j < kf → ¬ cz_mo ns (A 5) (A 6) (A 7) (A 8) f0 j = nI 0) : ∀ (m j : Nat) (mo : Int32), ¬ mo = 0 → j + m = kf → V G MX1_spread (am_R 3 68 0 0) Fn 0 0 109 [(0, .ref 12), (1, .ref 1), (2, .int (nI ns))] [] (hp I (upA A 13 (cz_it ns (A 5) (A 6) (A 7) (A 8) f0 (kf + 1)))) → V G MX1_spread (am_R 3 68 0 0) Fn 0 0 33 [(0, .ref 12), (1, .ref 1), (2, .int (nI ns)), (3, .int mo), (4, .int (nI j))] [] (hp I (upA A 13 (cz_it ns (A 5) (A 6) (A 7) (A 8) f0 j))) := by
  intro m
  induction m with
  | zero =>
    intro j mo hmo hj hk
    refine V.iload_n (j := 3) rfl dX1_spread_33 ?_
    refine V.if_eq (tgt := 109) dX1_spread_34 (by decide) (fun c => absurd c hmo) (fun c => ?_)
    refine V.iload (j := 4) rfl dX1_spread_37 ?_
    refine V.sipush (v := nI 1440) (by decide) dX1_spread_39 ?_
    refine V.icmp_gtN (tgt := 109) dX1_spread_42 (by decide) (by omega) (by omega) (fun c => absurd c (by omega)) (fun c => ?_)
    refine V.iconst (v := nI 0) (by decide) dX1_spread_45 ?_
    refine V.istore_n (ls' := [(0, .ref 12), (1, .ref 1), (2, .int (nI ns)), (3, .int (nI 0)), (4, .int (nI j))]) dX1_spread_46 (by decide) rfl ?_
    refine V.iload_n (j := 2) rfl dX1_spread_47 ?_
    refine V.iconst (v := nI 1) (by decide) dX1_spread_48 ?_
    refine V.isub dX1_spread_49 ?_
    refine V.st (st' := [.int (mz_pre ns)]) (by rw [mz_pre_sub]) ?_
    refine V.istore (ls' := [(0, .ref 12), (1, .ref 1), (2, .int (nI ns)), (3, .int (nI 0)), (4, .int (nI j)), (5, .int (mz_pre ns))]) dX1_spread_50 (by decide) rfl ?_
    refine cl_spread2 I A ns hs hns h8 h7 h9 h10 h11 j ns _ _ (Nat.le_refl _) ?_
    refine V.iincN (ls' := [(0, .ref 12), (1, .ref 1), (2, .int (nI ns)), (3, .int (cz_mo ns (A 5) (A 6) (A 7) (A 8) f0 j)), (4, .int (nI (j + 1)))]) dX1_spread_103 (j := 4) rfl (by decide) rfl ?_
    refine V.goto (tgt := 33) dX1_spread_106 (by decide) ?_
    obtain rfl : kf = j := by omega
    refine V.iload_n (j := 3) rfl dX1_spread_33 ?_
    refine V.if_eq (tgt := 109) dX1_spread_34 (by decide) (fun c => ?_) (fun c => absurd hkf c)
    refine V.fewer [0, 1, 2] rfl ?_
    exact hk
  | succ m ih =>
    intro j mo hmo hj hk
    refine V.iload_n (j := 3) rfl dX1_spread_33 ?_
    refine V.if_eq (tgt := 109) dX1_spread_34 (by decide) (fun c => absurd c hmo) (fun c => ?_)
    refine V.iload (j := 4) rfl dX1_spread_37 ?_
    refine V.sipush (v := nI 1440) (by decide) dX1_spread_39 ?_
    refine V.icmp_gtN (tgt := 109) dX1_spread_42 (by decide) (by omega) (by omega) (fun c => absurd c (by omega)) (fun c => ?_)
    refine V.iconst (v := nI 0) (by decide) dX1_spread_45 ?_
    refine V.istore_n (ls' := [(0, .ref 12), (1, .ref 1), (2, .int (nI ns)), (3, .int (nI 0)), (4, .int (nI j))]) dX1_spread_46 (by decide) rfl ?_
    refine V.iload_n (j := 2) rfl dX1_spread_47 ?_
    refine V.iconst (v := nI 1) (by decide) dX1_spread_48 ?_
    refine V.isub dX1_spread_49 ?_
    refine V.st (st' := [.int (mz_pre ns)]) (by rw [mz_pre_sub]) ?_
    refine V.istore (ls' := [(0, .ref 12), (1, .ref 1), (2, .int (nI ns)), (3, .int (nI 0)), (4, .int (nI j)), (5, .int (mz_pre ns))]) dX1_spread_50 (by decide) rfl ?_
    refine cl_spread2 I A ns hs hns h8 h7 h9 h10 h11 j ns _ _ (Nat.le_refl _) ?_
    refine V.iincN (ls' := [(0, .ref 12), (1, .ref 1), (2, .int (nI ns)), (3, .int (cz_mo ns (A 5) (A 6) (A 7) (A 8) f0 j)), (4, .int (nI (j + 1)))]) dX1_spread_103 (j := 4) rfl (by decide) rfl ?_
    refine V.goto (tgt := 33) dX1_spread_106 (by decide) ?_
    exact ih (j + 1) _ (hmin j (by omega)) (by omega) hk
set_option maxRecDepth 100000 in
set_option maxHeartbeats 4000000 in
theorem cd_spread {G : am_G} (I A : Nat → Nat → Int32) (ns : Nat) (hs : I 4 4 = nI ns) (hns : ns ≤ 60) (h8 : ∀ s, s < ns → A 5 s = nI 8 → ¬ A 6 s < 0) (h7 : ∀ s, s < ns → A 5 s = nI 7 → ¬ A 8 s < 0) (h9 : ∀ s, s < ns → A 9 s = mz_anew (A 5) (A 6) s) (h10 : ∀ s, s < ns → A 10 s = mz_tak0 (A 5) (A 6) (A 7) s) (h11 : ∀ s, s < ns → A 11 s = mz_tak1 (A 5) (A 7) (A 8) s) (kf : Nat) (hkb : kf ≤ 1440) (hkf : cz_mo ns (A 5) (A 6) (A 7) (A 8) (mz_fill ns 0 (A 13)) kf = nI 0) (hmin : ∀ j, j < kf → ¬ cz_mo ns (A 5) (A 6) (A 7) (A 8) (mz_fill ns 0 (A 13)) j = nI 0) : Cm G MX1_spread 3 68 [.ref 12, .ref 1] I A (fun r I' A' => r = none ∧ I = I' ∧ upA A 13 (cz_it ns (A 5) (A 6) (A 7) (A 8) (mz_fill ns 0 (A 13)) (kf + 1)) = A') := by
  refine Cm.of (by decide) (Nat.le_of_ble_eq_true rfl) rfl ?_
  show V G MX1_spread (am_R 3 68 0 0) _ 0 0 0 [(0, .ref 12), (1, .ref 1)] [] (hp I A)
  refine V.aload_n (j := 1) rfl dX1_spread_0 ?_
  refine V.getr (q := 4) dX1_spread_1 fX1_18 rfl rfl ?_
  refine V.geti (v := nI ns) dX1_spread_4 fX1_24 rfl rfl hs ?_
  refine V.istore_n (ls' := [(0, .ref 12), (1, .ref 1), (2, .int (nI ns))]) dX1_spread_7 (by decide) rfl ?_
  refine V.iconst (v := nI 0) (by decide) dX1_spread_8 ?_
  refine V.istore_n (ls' := [(0, .ref 12), (1, .ref 1), (2, .int (nI ns)), (3, .int (nI 0))]) dX1_spread_9 (by decide) rfl ?_
  refine V.hpe (A' := (upA A 13 (A 13))) rfl (by rw [upA_i]) ?_
  refine cl_spread1 I A ns hns ns 0 _ (by omega) ?_
  refine V.iconst (v := nI 1) (by decide) dX1_spread_28 ?_
  refine V.istore_n (ls' := [(0, .ref 12), (1, .ref 1), (2, .int (nI ns)), (3, .int (nI 1))]) dX1_spread_29 (by decide) rfl ?_
  refine V.iconst (v := nI 0) (by decide) dX1_spread_30 ?_
  refine V.istore (ls' := [(0, .ref 12), (1, .ref 1), (2, .int (nI ns)), (3, .int (nI 1)), (4, .int (nI 0))]) dX1_spread_31 (by decide) rfl ?_
  refine cl_spread3 I A ns hs hns h8 h7 h9 h10 h11 _ kf hkb hkf hmin kf 0 _ (by decide) (by omega) ?_
  refine V.rv dX1_spread_109 rfl ?_
  exact ⟨rfl, rfl, rfl⟩
def cz_blk (op fb : Nat → Int32) (out mem : Int32) (s a : Nat) : Int32 := (if op s = nI 1 then (out &&& mem) &&& ((nI 1 <<< (fb s &&& 31)) ^^^ (-1)) else out &&& mem) &&& ((nI 1 <<< (nI a &&& 31)) ^^^ (-1))
def cz_bl (a : Nat) (oth : Int32) : Nat → Nat → (Nat → Int32) → Nat → Int32
  | 0, _, w => w
  | m + 1, v, w => cz_bl a oth m (v + 1) (if bg_t oth v = true then upd w v (w v ||| nI 1 <<< (nI a &&& 31)) else w)
def cz_bAll (a : Nat) (oth : Int32) (w : Nat → Int32) : Nat → Int32 := cz_bl a oth 24 0 (upd w a (w a ||| oth))
def cz_W1 (op fa fb cl bh mem : Nat → Int32) (s : Nat) (w : Nat → Int32) : Nat → Int32 := if mz_anew op fa s = (-1) then w else cz_bAll (mz_anew op fa s).toNatClampNeg (cz_blk op fb (bh s) (mem (cl (mz_anew op fa s).toNatClampNeg).toNatClampNeg) s (mz_anew op fa s).toNatClampNeg) w
def cz_WW (op fa fb cl bh mem : Nat → Int32) : Nat → Nat → (Nat → Int32) → Nat → Int32
  | 0, _, w => w
  | m + 1, s, w => cz_WW op fa fb cl bh mem m (s + 1) (cz_W1 op fa fb cl bh mem s w)
set_option maxRecDepth 100000 in
set_option maxHeartbeats 4000000 in
theorem cd_blk {G : am_G} (I A : Nat → Nat → Int32) (ns : Nat) (hs : I 4 4 = nI ns) (hns : ns ≤ 60) (h8 : ∀ s, s < ns → A 5 s = nI 8 → ¬ A 6 s < 0) (h7 : ∀ s, s < ns → A 5 s = nI 7 → ¬ A 8 s < 0) (s : Nat) (hss : s < ns) (a cc : Nat) (ha : a < 24) (hcc : cc < 2) (hcl : A 2 a = nI cc) : Cm G MX1_blockedIn 2 45 [.ref 12, .ref 1, .int (nI s), .int (nI a)] I A (fun r I' A' => r = some (.int (cz_blk (A 5) (A 7) (mz_out ns (A 5) (A 6) (A 8) (A 13) s) (A 3 cc) s a)) ∧ I = I' ∧ A = A') := by
  refine Cm.of (by decide) (Nat.le_of_ble_eq_true rfl) rfl ?_
  show V G MX1_blockedIn (am_R 2 45 0 0) _ 0 0 0 [(0, .ref 12), (1, .ref 1), (2, .int (nI s)), (3, .int (nI a))] [] (hp I A)
  refine V.aload_n (j := 0) rfl dX1_blockedIn_0 ?_
  refine V.aload_n (j := 1) rfl dX1_blockedIn_1 ?_
  refine V.getr (q := 4) dX1_blockedIn_2 fX1_18 rfl rfl ?_
  refine V.iload_n (j := 2) rfl dX1_blockedIn_5 ?_
  refine V.cV (As := [.ref 4, .int (nI s)]) (st := []) dX1_blockedIn_6 sX1_34 iX1_behind lX1_behind rfl rfl (cd_behind I A ns hs hns h8 h7 s hss) ⟨by decide, by decide⟩ (Nat.le_of_ble_eq_true rfl) rfl (fun r I' A' hq => ?_)
  obtain ⟨rfl, rfl, rfl⟩ := hq
  refine V.st (st' := [.int (mz_out ns (A 5) (A 6) (A 8) (A 13) s)]) rfl ?_
  refine V.aload_n (j := 1) rfl dX1_blockedIn_9 ?_
  refine V.getr (q := 3) dX1_blockedIn_10 fX1_72 rfl rfl ?_
  refine V.aload_n (j := 1) rfl dX1_blockedIn_13 ?_
  refine V.getr (q := 2) dX1_blockedIn_14 fX1_75 rfl rfl ?_
  refine V.iload_n (j := 3) rfl dX1_blockedIn_17 ?_
  refine V.lda (v := nI cc) dX1_blockedIn_18 rfl (by omega) (by decide) hcl ?_
  refine V.lda (v := A 3 cc) dX1_blockedIn_19 rfl (by omega) (by decide) rfl ?_
  refine V.iand dX1_blockedIn_20 ?_
  refine V.istore (ls' := [(0, .ref 12), (1, .ref 1), (2, .int (nI s)), (3, .int (nI a)), (4, .int ((mz_out ns (A 5) (A 6) (A 8) (A 13) s) &&& (A 3 cc)))]) dX1_blockedIn_21 (by decide) rfl ?_
  refine V.aload_n (j := 1) rfl dX1_blockedIn_23 ?_
  refine V.getr (q := 4) dX1_blockedIn_24 fX1_18 rfl rfl ?_
  refine V.getr (q := 5) dX1_blockedIn_27 fX1_78 rfl rfl ?_
  refine V.iload_n (j := 2) rfl dX1_blockedIn_30 ?_
  refine V.lda (v := A 5 s) dX1_blockedIn_31 rfl (by omega) (by decide) rfl ?_
  refine V.iconst (v := nI 1) (by decide) dX1_blockedIn_32 ?_
  refine V.icmp_ne (tgt := 55) dX1_blockedIn_33 (by decide) (fun c1 => ?_) (fun c1 => ?_)
  · refine V.iload (j := 4) rfl dX1_blockedIn_55 ?_
    refine V.iload_n (j := 3) rfl dX1_blockedIn_57 ?_
    refine V.cSN (As := [.int (nI a)]) (st := [.int ((mz_out ns (A 5) (A 6) (A 8) (A 13) s) &&& (A 3 cc))]) dX1_blockedIn_58 sX1_84 zX7_bit (cd_bit I A _) ⟨by decide, by decide⟩ (Nat.le_of_ble_eq_true rfl) rfl (fun r I' A' hq => ?_)
    obtain ⟨rfl, rfl, rfl⟩ := hq
    refine V.st (st' := [.int (nI 1 <<< (nI a &&& 31)), .int ((mz_out ns (A 5) (A 6) (A 8) (A 13) s) &&& (A 3 cc))]) rfl ?_
    refine V.iconst (v := (-1)) (by decide) dX1_blockedIn_61 ?_
    refine V.ixor dX1_blockedIn_62 ?_
    refine V.iand dX1_blockedIn_63 ?_
    refine V.ri dX1_blockedIn_64 rfl ?_
    exact ⟨by unfold cz_blk; rw [if_neg c1], rfl, rfl⟩
  · refine V.iload (j := 4) rfl dX1_blockedIn_36 ?_
    refine V.aload_n (j := 1) rfl dX1_blockedIn_38 ?_
    refine V.getr (q := 4) dX1_blockedIn_39 fX1_18 rfl rfl ?_
    refine V.getr (q := 7) dX1_blockedIn_42 fX1_81 rfl rfl ?_
    refine V.iload_n (j := 2) rfl dX1_blockedIn_45 ?_
    refine V.lda (v := A 7 s) dX1_blockedIn_46 rfl (by omega) (by decide) rfl ?_
    refine V.cSN (As := [.int (A 7 s)]) (st := [.int ((mz_out ns (A 5) (A 6) (A 8) (A 13) s) &&& (A 3 cc))]) dX1_blockedIn_47 sX1_84 zX7_bit (cd_bit I A _) ⟨by decide, by decide⟩ (Nat.le_of_ble_eq_true rfl) rfl (fun r I' A' hq => ?_)
    obtain ⟨rfl, rfl, rfl⟩ := hq
    refine V.st (st' := [.int (nI 1 <<< (A 7 s &&& 31)), .int ((mz_out ns (A 5) (A 6) (A 8) (A 13) s) &&& (A 3 cc))]) rfl ?_
    refine V.iconst (v := (-1)) (by decide) dX1_blockedIn_50 ?_
    refine V.ixor dX1_blockedIn_51 ?_
    refine V.iand dX1_blockedIn_52 ?_
    refine V.istore (ls' := [(0, .ref 12), (1, .ref 1), (2, .int (nI s)), (3, .int (nI a)), (4, .int (((mz_out ns (A 5) (A 6) (A 8) (A 13) s) &&& (A 3 cc)) &&& ((nI 1 <<< (A 7 s &&& 31)) ^^^ ((-1)))))]) dX1_blockedIn_53 (by decide) rfl ?_
    refine V.iload (j := 4) rfl dX1_blockedIn_55 ?_
    refine V.iload_n (j := 3) rfl dX1_blockedIn_57 ?_
    refine V.cSN (As := [.int (nI a)]) (st := [.int (((mz_out ns (A 5) (A 6) (A 8) (A 13) s) &&& (A 3 cc)) &&& ((nI 1 <<< (A 7 s &&& 31)) ^^^ ((-1))))]) dX1_blockedIn_58 sX1_84 zX7_bit (cd_bit I A _) ⟨by decide, by decide⟩ (Nat.le_of_ble_eq_true rfl) rfl (fun r I' A' hq => ?_)
    obtain ⟨rfl, rfl, rfl⟩ := hq
    refine V.st (st' := [.int (nI 1 <<< (nI a &&& 31)), .int (((mz_out ns (A 5) (A 6) (A 8) (A 13) s) &&& (A 3 cc)) &&& ((nI 1 <<< (A 7 s &&& 31)) ^^^ ((-1))))]) rfl ?_
    refine V.iconst (v := (-1)) (by decide) dX1_blockedIn_61 ?_
    refine V.ixor dX1_blockedIn_62 ?_
    refine V.iand dX1_blockedIn_63 ?_
    refine V.ri dX1_blockedIn_64 rfl ?_
    exact ⟨by unfold cz_blk; rw [if_pos c1], rfl, rfl⟩
set_option maxRecDepth 100000 in
set_option maxHeartbeats 4000000 in
theorem cl_bAll {G : am_G} {Fn : Array Value → State → List Frame → State → Prop} (I A : Nat → Nat → Int32) (a : Nat) (ha : a < 24) (oth : Int32) : ∀ (m : Nat) (v : Nat) (f : Nat → Int32), v + m = 24 → V G MX1_blockAll (am_R 1 21 0 0) Fn 0 0 45 [(0, .ref 12)] [] (hp I (upA A 14 (cz_bl a oth m v f))) → V G MX1_blockAll (am_R 1 21 0 0) Fn 0 0 12 [(0, .ref 12), (1, .int (nI a)), (2, .int oth), (3, .int (nI v))] [] (hp I (upA A 14 (f))) := by
  intro m
  induction m with
  | zero =>
    intro v f hi0 hk
    refine V.iload_n (j := 3) rfl dX1_blockAll_12 ?_
    refine V.bipush (v := nI 24) (by decide) dX1_blockAll_13 ?_
    refine V.icmp_geN (tgt := 45) dX1_blockAll_15 (by decide) (by omega) (by omega) (fun c1 => ?_) (fun c1 => ?_)
    · refine V.fewer [0] rfl ?_
      exact hk
    · exact absurd c1 (by omega)
  | succ m ih =>
    intro v f hi0 hk
    refine V.iload_n (j := 3) rfl dX1_blockAll_12 ?_
    refine V.bipush (v := nI 24) (by decide) dX1_blockAll_13 ?_
    refine V.icmp_geN (tgt := 45) dX1_blockAll_15 (by decide) (by omega) (by omega) (fun c2 => ?_) (fun c2 => ?_)
    · exact absurd c2 (by omega)
    · refine V.iload_n (j := 2) rfl dX1_blockAll_18 ?_
      refine V.iload_n (j := 3) rfl dX1_blockAll_19 ?_
      refine V.cSN (As := [.int oth, .int (nI v)]) (st := []) dX1_blockAll_20 sX1_87 zX7_has (cd_has I (upA A 14 (f)) _ v (by omega)) ⟨by decide, by decide⟩ (Nat.le_of_ble_eq_true rfl) rfl (fun r I' A' hq => ?_)
      obtain ⟨rfl, rfl, rfl⟩ := hq
      by_cases b3 : bg_t (oth) (v) = true
      · refine V.st (st' := [.int (nI 1)]) (by rw [bI_t b3]; rfl) ?_
        refine V.if_eq (tgt := 39) dX1_blockAll_23 (by decide) (fun z => absurd z (by decide)) (fun _ => ?_)
        refine V.aload_n (j := 0) rfl dX1_blockAll_26 ?_
        refine V.getr (q := 14) dX1_blockAll_27 fX1_15 rfl rfl ?_
        refine V.iload_n (j := 3) rfl dX1_blockAll_30 ?_
        refine V.dup2 rfl rfl dX1_blockAll_31 ?_
        refine V.lda (v := f v) dX1_blockAll_32 rfl (by omega) (by decide) rfl ?_
        refine V.iload_n (j := 1) rfl dX1_blockAll_33 ?_
        refine V.cSN (As := [.int (nI a)]) (st := [.int (f v), .int (nI v), .ref 14]) dX1_blockAll_34 sX1_84 zX7_bit (cd_bit I (upA A 14 (f)) _) ⟨by decide, by decide⟩ (Nat.le_of_ble_eq_true rfl) rfl (fun r I' A' hq => ?_)
        obtain ⟨rfl, rfl, rfl⟩ := hq
        refine V.st (st' := [.int (nI 1 <<< (nI a &&& 31)), .int (f v), .int (nI v), .ref 14]) rfl ?_
        refine V.ior dX1_blockAll_37 ?_
        refine V.sta (g := upd f v ((f v) ||| (nI 1 <<< (nI a &&& 31)))) dX1_blockAll_38 rfl (by omega) (by decide) rfl ?_
        refine V.hpe (A' := (upA A 14 (upd f v ((f v) ||| (nI 1 <<< (nI a &&& 31)))))) rfl upA_u ?_
        refine V.iincN (ls' := [(0, .ref 12), (1, .int (nI a)), (2, .int oth), (3, .int (nI (v + 1)))]) dX1_blockAll_39 (j := 3) rfl (by decide) rfl ?_
        refine V.goto (tgt := 12) dX1_blockAll_42 (by decide) ?_
        unfold cz_bl at hk
        rw [if_pos b3] at hk
        exact ih (v + 1) _ (by omega) hk
      · refine V.st (st' := [.int (nI 0)]) (by rw [bI_f b3]; rfl) ?_
        refine V.if_eq (tgt := 39) dX1_blockAll_23 (by decide) (fun _ => ?_) (fun z => absurd z (by decide))
        refine V.iincN (ls' := [(0, .ref 12), (1, .int (nI a)), (2, .int oth), (3, .int (nI (v + 1)))]) dX1_blockAll_39 (j := 3) rfl (by decide) rfl ?_
        refine V.goto (tgt := 12) dX1_blockAll_42 (by decide) ?_
        unfold cz_bl at hk
        rw [if_neg b3] at hk
        exact ih (v + 1) _ (by omega) hk
set_option maxRecDepth 100000 in
set_option maxHeartbeats 4000000 in
theorem cd_bAll {G : am_G} (I A : Nat → Nat → Int32) (a : Nat) (ha : a < 24) (oth : Int32) : Cm G MX1_blockAll 1 21 [.ref 12, .int (nI a), .int oth] I A (fun r I' A' => r = none ∧ I = I' ∧ upA A 14 (cz_bAll a oth (A 14)) = A') := by
  refine Cm.of (by decide) (Nat.le_of_ble_eq_true rfl) rfl ?_
  show V G MX1_blockAll (am_R 1 21 0 0) _ 0 0 0 [(0, .ref 12), (1, .int (nI a)), (2, .int oth)] [] (hp I A)
  refine V.aload_n (j := 0) rfl dX1_blockAll_0 ?_
  refine V.getr (q := 14) dX1_blockAll_1 fX1_15 rfl rfl ?_
  refine V.iload_n (j := 1) rfl dX1_blockAll_4 ?_
  refine V.dup2 rfl rfl dX1_blockAll_5 ?_
  refine V.lda (v := A 14 a) dX1_blockAll_6 rfl (by omega) (by decide) rfl ?_
  refine V.iload_n (j := 2) rfl dX1_blockAll_7 ?_
  refine V.ior dX1_blockAll_8 ?_
  refine V.sta (g := upd (A 14) a ((A 14 a) ||| (oth))) dX1_blockAll_9 rfl (by omega) (by decide) rfl ?_
  refine V.iconst (v := nI 0) (by decide) dX1_blockAll_10 ?_
  refine V.istore_n (ls' := [(0, .ref 12), (1, .int (nI a)), (2, .int oth), (3, .int (nI 0))]) dX1_blockAll_11 (by decide) rfl ?_
  refine cl_bAll I A a ha oth 24 0 _ (by omega) ?_
  refine V.rv dX1_blockAll_45 rfl ?_
  exact ⟨rfl, rfl, rfl⟩
set_option maxRecDepth 100000 in
set_option maxHeartbeats 4000000 in
theorem cl_col1 {G : am_G} {Fn : Array Value → State → List Frame → State → Prop} (I A : Nat → Nat → Int32) (nv : Nat) (hn : I 1 6 = nI nv) (hnv : nv ≤ 24) : ∀ (m : Nat) (i : Nat) (f : Nat → Int32), i + m = nv → V G MX1_collide (am_R 3 69 0 0) Fn 0 0 23 [(0, .ref 12), (1, .ref 1)] [] (hp I (upA A 14 (mz_fill m i f))) → V G MX1_collide (am_R 3 69 0 0) Fn 0 0 2 [(0, .ref 12), (1, .ref 1), (2, .int (nI i))] [] (hp I (upA A 14 (f))) := by
  intro m
  induction m with
  | zero =>
    intro i f hi0 hk
    refine V.iload_n (j := 2) rfl dX1_collide_2 ?_
    refine V.aload_n (j := 1) rfl dX1_collide_3 ?_
    refine V.geti (v := nI nv) dX1_collide_4 fX1_61 rfl rfl hn ?_
    refine V.icmp_geN (tgt := 23) dX1_collide_7 (by decide) (by omega) (by omega) (fun c1 => ?_) (fun c1 => ?_)
    · refine V.fewer [0, 1] rfl ?_
      exact hk
    · exact absurd c1 (by omega)
  | succ m ih =>
    intro i f hi0 hk
    refine V.iload_n (j := 2) rfl dX1_collide_2 ?_
    refine V.aload_n (j := 1) rfl dX1_collide_3 ?_
    refine V.geti (v := nI nv) dX1_collide_4 fX1_61 rfl rfl hn ?_
    refine V.icmp_geN (tgt := 23) dX1_collide_7 (by decide) (by omega) (by omega) (fun c2 => ?_) (fun c2 => ?_)
    · exact absurd c2 (by omega)
    · refine V.aload_n (j := 0) rfl dX1_collide_10 ?_
      refine V.getr (q := 14) dX1_collide_11 fX1_15 rfl rfl ?_
      refine V.iload_n (j := 2) rfl dX1_collide_14 ?_
      refine V.iconst (v := nI 0) (by decide) dX1_collide_15 ?_
      refine V.sta (g := upd f i (nI 0)) dX1_collide_16 rfl (by omega) (by decide) rfl ?_
      refine V.hpe (A' := (upA A 14 (upd f i (nI 0)))) rfl upA_u ?_
      refine V.iincN (ls' := [(0, .ref 12), (1, .ref 1), (2, .int (nI (i + 1)))]) dX1_collide_17 (j := 2) rfl (by decide) rfl ?_
      refine V.goto (tgt := 2) dX1_collide_20 (by decide) ?_
      exact ih (i + 1) _ (by omega) hk
set_option maxRecDepth 100000 in
set_option maxHeartbeats 4000000 in
theorem cl_col2 {G : am_G} {Fn : Array Value → State → List Frame → State → Prop} (I A : Nat → Nat → Int32) (ns : Nat) (hs : I 4 4 = nI ns) (hns : ns ≤ 60) (h8 : ∀ s, s < ns → A 5 s = nI 8 → ¬ A 6 s < 0) (h7 : ∀ s, s < ns → A 5 s = nI 7 → ¬ A 8 s < 0) (nv : Nat) (hnv : nv ≤ 24) (hA : ∀ s, s < ns → mz_anew (A 5) (A 6) s = (-1) ∨ ∃ a, a < nv ∧ mz_anew (A 5) (A 6) s = nI a) (hcl : ∀ v, v < nv → ∃ cc, cc < 2 ∧ A 2 v = nI cc) (h9 : ∀ s, s < ns → A 9 s = mz_anew (A 5) (A 6) s) : ∀ (m : Nat) (s : Nat) (f : Nat → Int32), s + m = ns → V G MX1_collide (am_R 3 69 0 0) Fn 0 0 66 [(0, .ref 12)] [] (hp I (upA A 14 (cz_WW (A 5) (A 6) (A 7) (A 2) (fun s => mz_out ns (A 5) (A 6) (A 8) (A 13) s) (A 3) m s f))) → V G MX1_collide (am_R 3 69 0 0) Fn 0 0 25 [(0, .ref 12), (1, .ref 1), (2, .int (nI s))] [] (hp I (upA A 14 (f))) := by
  intro m
  induction m with
  | zero =>
    intro s f hi0 hk
    refine V.iload_n (j := 2) rfl dX1_collide_25 ?_
    refine V.aload_n (j := 1) rfl dX1_collide_26 ?_
    refine V.getr (q := 4) dX1_collide_27 fX1_18 rfl rfl ?_
    refine V.geti (v := nI ns) dX1_collide_30 fX1_24 rfl rfl hs ?_
    refine V.icmp_geN (tgt := 66) dX1_collide_33 (by decide) (by omega) (by omega) (fun c1 => ?_) (fun c1 => ?_)
    · refine V.fewer [0] rfl ?_
      exact hk
    · exact absurd c1 (by omega)
  | succ m ih =>
    intro s f hi0 hk
    refine V.iload_n (j := 2) rfl dX1_collide_25 ?_
    refine V.aload_n (j := 1) rfl dX1_collide_26 ?_
    refine V.getr (q := 4) dX1_collide_27 fX1_18 rfl rfl ?_
    refine V.geti (v := nI ns) dX1_collide_30 fX1_24 rfl rfl hs ?_
    refine V.icmp_geN (tgt := 66) dX1_collide_33 (by decide) (by omega) (by omega) (fun c2 => ?_) (fun c2 => ?_)
    · exact absurd c2 (by omega)
    · refine V.aload_n (j := 1) rfl dX1_collide_36 ?_
      refine V.getr (q := 9) dX1_collide_37 fX1_38 rfl rfl ?_
      refine V.iload_n (j := 2) rfl dX1_collide_40 ?_
      refine V.lda (v := mz_anew (A 5) (A 6) s) dX1_collide_41 rfl (by omega) (by decide) (h9 s (by omega)) ?_
      refine V.istore_n (ls' := [(0, .ref 12), (1, .ref 1), (2, .int (nI s)), (3, .int (mz_anew (A 5) (A 6) s))]) dX1_collide_42 (by decide) rfl ?_
      rcases hA s (by omega) with e1 | ⟨a, ha, e1⟩
      · refine V.lse (ls' := [(0, .ref 12), (1, .ref 1), (2, .int (nI s)), (3, .int ((-1)))]) (by rw [e1]) ?_
        refine V.iload_n (j := 3) rfl dX1_collide_43 ?_
        refine V.iconst (v := (-1)) (by decide) dX1_collide_44 ?_
        refine V.icmp_eq (tgt := 60) dX1_collide_45 (by decide) (fun _ => ?_) (fun z => absurd rfl z)
        refine V.iincN (ls' := [(0, .ref 12), (1, .ref 1), (2, .int (nI (s + 1))), (3, .int ((-1)))]) dX1_collide_60 (j := 2) rfl (by decide) rfl ?_
        refine V.goto (tgt := 25) dX1_collide_63 (by decide) ?_
        refine V.fewer [0, 1, 2] rfl ?_
        refine V.hpe (A' := (upA A 14 (cz_W1 (A 5) (A 6) (A 7) (A 2) (fun s => mz_out ns (A 5) (A 6) (A 8) (A 13) s) (A 3) s f))) rfl (congrArg (upA A 14) (by unfold cz_W1; rw [if_pos e1])) ?_
        exact ih (s + 1) _ (by omega) hk
      · obtain ⟨cc, hcc, ecl⟩ := hcl a ha
        refine V.lse (ls' := [(0, .ref 12), (1, .ref 1), (2, .int (nI s)), (3, .int (nI a))]) (by rw [e1]) ?_
        refine V.iload_n (j := 3) rfl dX1_collide_43 ?_
        refine V.iconst (v := (-1)) (by decide) dX1_collide_44 ?_
        refine V.icmp_eq (tgt := 60) dX1_collide_45 (by decide) (fun z => absurd z (nI_nm1 (by omega))) (fun _ => ?_)
        refine V.aload_n (j := 0) rfl dX1_collide_48 ?_
        refine V.iload_n (j := 3) rfl dX1_collide_49 ?_
        refine V.aload_n (j := 0) rfl dX1_collide_50 ?_
        refine V.aload_n (j := 1) rfl dX1_collide_51 ?_
        refine V.iload_n (j := 2) rfl dX1_collide_52 ?_
        refine V.iload_n (j := 3) rfl dX1_collide_53 ?_
        refine V.cV (As := [.ref 1, .int (nI s), .int (nI a)]) (st := [.int (nI a), .ref 12]) dX1_collide_54 sX1_64 iX1_blockedIn lX1_blockedIn rfl rfl (cd_blk I (upA A 14 (f)) ns hs hns h8 h7 s (by omega) a cc (by omega) hcc ecl) ⟨by decide, by decide⟩ (Nat.le_of_ble_eq_true rfl) rfl (fun r I' A' hq => ?_)
        obtain ⟨rfl, rfl, rfl⟩ := hq
        refine V.st (st' := [.int (cz_blk (A 5) (A 7) (mz_out ns (A 5) (A 6) (A 8) (A 13) s) (A 3 cc) s a), .int (nI a), .ref 12]) rfl ?_
        refine V.cV (As := [.int (nI a), .int (cz_blk (A 5) (A 7) (mz_out ns (A 5) (A 6) (A 8) (A 13) s) (A 3 cc) s a)]) (st := []) dX1_collide_57 sX1_68 iX1_blockAll lX1_blockAll rfl rfl (cd_bAll I (upA A 14 (f)) a (by omega) _) ⟨by decide, by decide⟩ (Nat.le_of_ble_eq_true rfl) rfl (fun r I' A' hq => ?_)
        obtain ⟨rfl, rfl, rfl⟩ := hq
        refine V.st (st' := []) rfl ?_
        refine V.hpe (A' := (upA A 14 (cz_bAll a (cz_blk (A 5) (A 7) (mz_out ns (A 5) (A 6) (A 8) (A 13) s) (A 3 cc) s a) f))) rfl upA_u ?_
        refine V.iincN (ls' := [(0, .ref 12), (1, .ref 1), (2, .int (nI (s + 1))), (3, .int (nI a))]) dX1_collide_60 (j := 2) rfl (by decide) rfl ?_
        refine V.goto (tgt := 25) dX1_collide_63 (by decide) ?_
        refine V.fewer [0, 1, 2] rfl ?_
        refine V.hpe (A' := (upA A 14 (cz_W1 (A 5) (A 6) (A 7) (A 2) (fun s => mz_out ns (A 5) (A 6) (A 8) (A 13) s) (A 3) s f))) rfl (congrArg (upA A 14) (by unfold cz_W1; rw [e1, if_neg (nI_nm1 (by omega)), nI_clamp (by omega), ecl, nI_clamp (by omega)])) ?_
        exact ih (s + 1) _ (by omega) hk
set_option maxRecDepth 100000 in
set_option maxHeartbeats 4000000 in
theorem cd_collide {G : am_G} (I A : Nat → Nat → Int32) (nv : Nat) (hn : I 1 6 = nI nv) (hnv : nv ≤ 24) (ns : Nat) (hs : I 4 4 = nI ns) (hns : ns ≤ 60) (h8 : ∀ s, s < ns → A 5 s = nI 8 → ¬ A 6 s < 0) (h7 : ∀ s, s < ns → A 5 s = nI 7 → ¬ A 8 s < 0) (hA : ∀ s, s < ns → mz_anew (A 5) (A 6) s = (-1) ∨ ∃ a, a < nv ∧ mz_anew (A 5) (A 6) s = nI a) (hcl : ∀ v, v < nv → ∃ cc, cc < 2 ∧ A 2 v = nI cc) (h9 : ∀ s, s < ns → A 9 s = mz_anew (A 5) (A 6) s) : Cm G MX1_collide 3 69 [.ref 12, .ref 1] I A (fun r I' A' => r = none ∧ I = I' ∧ upA A 14 (cz_WW (A 5) (A 6) (A 7) (A 2) (fun s => mz_out ns (A 5) (A 6) (A 8) (A 13) s) (A 3) ns 0 (mz_fill nv 0 (A 14))) = A') := by
  refine Cm.of (by decide) (Nat.le_of_ble_eq_true rfl) rfl ?_
  show V G MX1_collide (am_R 3 69 0 0) _ 0 0 0 [(0, .ref 12), (1, .ref 1)] [] (hp I A)
  refine V.iconst (v := nI 0) (by decide) dX1_collide_0 ?_
  refine V.istore_n (ls' := [(0, .ref 12), (1, .ref 1), (2, .int (nI 0))]) dX1_collide_1 (by decide) rfl ?_
  refine V.hpe (A' := (upA A 14 (A 14))) rfl (by rw [upA_i]) ?_
  refine cl_col1 I A nv hn hnv nv 0 _ (by omega) ?_
  refine V.iconst (v := nI 0) (by decide) dX1_collide_23 ?_
  refine V.istore_n (ls' := [(0, .ref 12), (1, .ref 1), (2, .int (nI 0))]) dX1_collide_24 (by decide) rfl ?_
  refine cl_col2 I A ns hs hns h8 h7 nv hnv hA hcl h9 ns 0 _ (by omega) ?_
  refine V.rv dX1_collide_66 rfl ?_
  exact ⟨rfl, rfl, rfl⟩
