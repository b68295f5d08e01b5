theorem cz_look2 {x a b oa ob d : Int} (h1 : ¬ x = a) (h2 : ¬ x = b) : Op.lookupswitch.offset (#[(a, oa), (b, ob)] : Array (Int × Int)).toList d x = d := by
  simp [Op.lookupswitch.offset, List.find?, h1, h2, Ne.symm h1, Ne.symm h2]
theorem cz_look3 {x a b c oa ob oc d : Int} (h1 : ¬ x = a) (h2 : ¬ x = b) (h3 : ¬ x = c) : Op.lookupswitch.offset (#[(a, oa), (b, ob), (c, oc)] : Array (Int × Int)).toList d x = d := by
  simp [Op.lookupswitch.offset, List.find?, h1, h2, h3, Ne.symm h1, Ne.symm h2, Ne.symm h3]
def cz_in (n : Nat) (x : Int32) : Prop := ¬ x < 0 ∧ ¬ nI n ≤ x
set_option maxRecDepth 100000 in
set_option maxHeartbeats 4000000 in
theorem cd_isClass {G : am_G} (I A : Nat → Nat → Int32) (c : Int32) : Cm G MX7_isClass 0 0 [.int c] I A (fun r I' A' => r = some (.int (bI (cz_in 2 c))) ∧ I = I' ∧ A = A') := by
  refine Cm.of (by decide) (Nat.le_of_ble_eq_true rfl) rfl ?_
  show V G MX7_isClass (am_R 0 0 0 0) _ 0 0 0 [(0, .int c)] [] (hp I A)
  refine V.iload_n (j := 0) rfl dX7_isClass_0 ?_
  refine V.if_lt (tgt := 13) dX7_isClass_1 (by decide) (fun c1 => ?_) (fun c1 => ?_)
  · refine V.iconst (v := nI 0) (by decide) dX7_isClass_13 ?_
    refine V.rz dX7_isClass_14 rfl (by decide) ?_
    exact ⟨am_s0 (fun z => z.1 c1), rfl, rfl⟩
  · refine V.iload_n (j := 0) rfl dX7_isClass_4 ?_
    refine V.iconst (v := nI 2) (by decide) dX7_isClass_5 ?_
    refine V.icmp_ge (tgt := 13) dX7_isClass_6 (by decide) (fun c2 => ?_) (fun c2 => ?_)
    · refine V.iconst (v := nI 0) (by decide) dX7_isClass_13 ?_
      refine V.rz dX7_isClass_14 rfl (by decide) ?_
      exact ⟨am_s0 (fun z => z.2 c2), rfl, rfl⟩
    · refine V.iconst (v := nI 1) (by decide) dX7_isClass_9 ?_
      refine V.goto (tgt := 14) dX7_isClass_10 (by decide) ?_
      refine V.rz dX7_isClass_14 rfl (by decide) ?_
      exact ⟨am_s1 ⟨c1, c2⟩, rfl, rfl⟩
set_option maxRecDepth 100000 in
set_option maxHeartbeats 4000000 in
theorem cd_isCell {G : am_G} (I A : Nat → Nat → Int32) (c : Int32) : Cm G MX7_isCell 0 0 [.int c] I A (fun r I' A' => r = some (.int (bI (cz_in 64 c))) ∧ I = I' ∧ A = A') := by
  refine Cm.of (by decide) (Nat.le_of_ble_eq_true rfl) rfl ?_
  show V G MX7_isCell (am_R 0 0 0 0) _ 0 0 0 [(0, .int c)] [] (hp I A)
  refine V.iload_n (j := 0) rfl dX7_isCell_0 ?_
  refine V.if_lt (tgt := 14) dX7_isCell_1 (by decide) (fun c1 => ?_) (fun c1 => ?_)
  · refine V.iconst (v := nI 0) (by decide) dX7_isCell_14 ?_
    refine V.rz dX7_isCell_15 rfl (by decide) ?_
    exact ⟨am_s0 (fun z => z.1 c1), rfl, rfl⟩
  · refine V.iload_n (j := 0) rfl dX7_isCell_4 ?_
    refine V.bipush (v := nI 64) (by decide) dX7_isCell_5 ?_
    refine V.icmp_ge (tgt := 14) dX7_isCell_7 (by decide) (fun c2 => ?_) (fun c2 => ?_)
    · refine V.iconst (v := nI 0) (by decide) dX7_isCell_14 ?_
      refine V.rz dX7_isCell_15 rfl (by decide) ?_
      exact ⟨am_s0 (fun z => z.2 c2), rfl, rfl⟩
    · refine V.iconst (v := nI 1) (by decide) dX7_isCell_10 ?_
      refine V.goto (tgt := 15) dX7_isCell_11 (by decide) ?_
      refine V.rz dX7_isCell_15 rfl (by decide) ?_
      exact ⟨am_s1 ⟨c1, c2⟩, rfl, rfl⟩
set_option maxRecDepth 100000 in
set_option maxHeartbeats 4000000 in
theorem cd_bit {G : am_G} (I A : Nat → Nat → Int32) (k : Int32) : Cm G MX7_bit 0 0 [.int k] I A (fun r I' A' => r = some (.int (nI 1 <<< (k &&& 31))) ∧ I = I' ∧ A = A') := by
  refine Cm.of (by decide) (Nat.le_of_ble_eq_true rfl) rfl ?_
  show V G MX7_bit (am_R 0 0 0 0) _ 0 0 0 [(0, .int k)] [] (hp I A)
  refine V.iconst (v := nI 1) (by decide) dX7_bit_0 ?_
  refine V.iload_n (j := 0) rfl dX7_bit_1 ?_
  refine V.ishl dX7_bit_2 ?_
  refine V.ri dX7_bit_3 rfl ?_
  exact ⟨rfl, rfl, rfl⟩
set_option maxRecDepth 100000 in
set_option maxHeartbeats 4000000 in
theorem cd_bitIf {G : am_G} (I A : Nat → Nat → Int32) (k : Int32) : Cm G MX7_bitIfThere 1 20 [.int k] I A (fun r I' A' => r = some (.int (mz_bit k)) ∧ I = I' ∧ A = A') := by
  refine Cm.of (by decide) (Nat.le_of_ble_eq_true rfl) rfl ?_
  show V G MX7_bitIfThere (am_R 1 20 0 0) _ 0 0 0 [(0, .int k)] [] (hp I A)
  refine V.iload_n (j := 0) rfl dX7_bitIfThere_0 ?_
  refine V.iconst (v := (-1)) (by decide) dX7_bitIfThere_1 ?_
  refine V.icmp_ne (tgt := 9) dX7_bitIfThere_2 (by decide) (fun c1 => ?_) (fun c1 => ?_)
  · refine V.iload_n (j := 0) rfl dX7_bitIfThere_9 ?_
    refine V.cS (As := [.int k]) (st := []) dX7_bitIfThere_10 sX7_199 zX7_bit (cd_bit I A _) ⟨by decide, by decide⟩ (Nat.le_of_ble_eq_true rfl) rfl (fun r I' A' hq => ?_)
    obtain ⟨rfl, rfl, rfl⟩ := hq
    refine V.st (st' := [.int (nI 1 <<< (k &&& 31))]) rfl ?_
    refine V.ri dX7_bitIfThere_13 rfl ?_
    exact ⟨by unfold mz_bit; rw [if_neg c1], rfl, rfl⟩
  · refine V.iconst (v := nI 0) (by decide) dX7_bitIfThere_5 ?_
    refine V.goto (tgt := 13) dX7_bitIfThere_6 (by decide) ?_
    refine V.ri dX7_bitIfThere_13 rfl ?_
    exact ⟨by unfold mz_bit; rw [if_pos c1], rfl, rfl⟩
set_option maxRecDepth 100000 in
set_option maxHeartbeats 4000000 in
theorem cd_has {G : am_G} (I A : Nat → Nat → Int32) (b : Int32) (u : Nat) (hu : u < 32) : Cm G MX7_has 0 0 [.int b, .int (nI u)] I A (fun r I' A' => r = some (.int (bI (bg_t b u = true))) ∧ I = I' ∧ A = A') := by
  refine Cm.of (by decide) (Nat.le_of_ble_eq_true rfl) rfl ?_
  show V G MX7_has (am_R 0 0 0 0) _ 0 0 0 [(0, .int b), (1, .int (nI u))] [] (hp I A)
  refine V.iload_n (j := 0) rfl dX7_has_0 ?_
  refine V.iload_n (j := 1) rfl dX7_has_1 ?_
  refine V.ishr dX7_has_2 ?_
  refine V.iconst (v := nI 1) (by decide) dX7_has_3 ?_
  refine V.iand dX7_has_4 ?_
  refine V.if_eq (tgt := 12) dX7_has_5 (by decide) (fun c1 => ?_) (fun c1 => ?_)
  · refine V.iconst (v := nI 0) (by decide) dX7_has_12 ?_
    refine V.rz dX7_has_13 rfl (by decide) ?_
    exact ⟨am_s0 ((bg_sh0 hu).mp c1), rfl, rfl⟩
  · refine V.iconst (v := nI 1) (by decide) dX7_has_8 ?_
    refine V.goto (tgt := 13) dX7_has_9 (by decide) ?_
    refine V.rz dX7_has_13 rfl (by decide) ?_
    exact ⟨am_s1 (Classical.byContradiction fun q => c1 ((bg_sh0 hu).mpr q)), rfl, rfl⟩
/-- the least bit from k on, of m -/
def cz_lo (b : Int32) : Nat → Nat → Nat
  | 0, k => k
  | m + 1, k => if bg_t b k = true then k else cz_lo b m (k + 1)
theorem cz_lo_s {b : Int32} : ∀ (m k : Nat), (cz_lo b m k = k + m ∧ ∀ j, k ≤ j → j < k + m → ¬ bg_t b j = true) ∨ (k ≤ cz_lo b m k ∧ cz_lo b m k < k + m ∧ bg_t b (cz_lo b m k) = true ∧ ∀ j, k ≤ j → j < cz_lo b m k → ¬ bg_t b j = true)
  | 0, k => Or.inl ⟨rfl, fun j h1 h2 => by omega⟩
  | m + 1, k => by
    unfold cz_lo
    by_cases h : bg_t b k = true
    · rw [if_pos h]
      exact Or.inr ⟨Nat.le_refl _, by omega, h, fun j h1 h2 => by omega⟩
    · rw [if_neg h]
      rcases cz_lo_s (b := b) m (k + 1) with ⟨h1, h2⟩ | ⟨h1, h2, h3, h4⟩
      · refine Or.inl ⟨by omega, fun j h3 h4 => ?_⟩
        by_cases q : j = k
        · subst q; exact h
        · exact h2 j (by omega) (by omega)
      · refine Or.inr ⟨by omega, by omega, h3, fun j h5 h6 => ?_⟩
        by_cases q : j = k
        · subst q; exact h
        · exact h4 j (by omega) h6
set_option maxRecDepth 100000 in
set_option maxHeartbeats 4000000 in
theorem cl_least {G : am_G} {Fn : Array Value → State → List Frame → State → Prop} (I A : Nat → Nat → Int32) (b : Int32) : ∀ (m : Nat) (k : Nat), k + m = 32 → V G MX7_leastOf (am_R 1 21 0 0) Fn 0 0 22 [(0, .int b), (1, .int (nI (cz_lo b m k)))] [] (hp I A) → V G MX7_leastOf (am_R 1 21 0 0) Fn 0 0 2 [(0, .int b), (1, .int (nI k))] [] (hp I A) := by
  intro m
  induction m with
  | zero =>
    intro k hi0 hk
    refine V.iload_n (j := 1) rfl dX7_leastOf_2 ?_
    refine V.bipush (v := nI 32) (by decide) dX7_leastOf_3 ?_
    refine V.icmp_geN (tgt := 22) dX7_leastOf_5 (by decide) (by omega) (by omega) (fun c1 => ?_) (fun c1 => ?_)
    · obtain rfl : k = 32 := by omega
      exact hk
    · exact absurd c1 (by omega)
  | succ m ih =>
    intro k hi0 hk
    refine V.iload_n (j := 1) rfl dX7_leastOf_2 ?_
    refine V.bipush (v := nI 32) (by decide) dX7_leastOf_3 ?_
    refine V.icmp_geN (tgt := 22) dX7_leastOf_5 (by decide) (by omega) (by omega) (fun c2 => ?_) (fun c2 => ?_)
    · exact absurd c2 (by omega)
    · refine V.iload_n (j := 0) rfl dX7_leastOf_8 ?_
      refine V.iload_n (j := 1) rfl dX7_leastOf_9 ?_
      refine V.cS (As := [.int b, .int (nI k)]) (st := []) dX7_leastOf_10 sX7_202 zX7_has (cd_has I A _ k (by omega)) ⟨by decide, by decide⟩ (Nat.le_of_ble_eq_true rfl) rfl (fun r I' A' hq => ?_)
      obtain ⟨rfl, rfl, rfl⟩ := hq
      by_cases b3 : bg_t (b) (k) = true
      · refine V.st (st' := [.int (nI 1)]) (by rw [bI_t b3]; rfl) ?_
        refine V.if_ne (tgt := 22) dX7_leastOf_13 (by decide) (fun _ => ?_) (fun z => absurd z (by decide))
        unfold cz_lo at hk
        rw [if_pos b3] at hk
        exact hk
      · refine V.st (st' := [.int (nI 0)]) (by rw [bI_f b3]; rfl) ?_
        refine V.if_ne (tgt := 22) dX7_leastOf_13 (by decide) (fun z => absurd z (by decide)) (fun _ => ?_)
        refine V.iincN (ls' := [(0, .int b), (1, .int (nI (k + 1)))]) dX7_leastOf_16 (j := 1) rfl (by decide) rfl ?_
        refine V.goto (tgt := 2) dX7_leastOf_19 (by decide) ?_
        unfold cz_lo at hk
        rw [if_neg b3] at hk
        exact ih (k + 1) (by omega) hk
set_option maxRecDepth 100000 in
set_option maxHeartbeats 4000000 in
theorem cd_least {G : am_G} (I A : Nat → Nat → Int32) (b : Int32) : Cm G MX7_leastOf 1 21 [.int b] I A (fun r I' A' => r = some (.int (nI (cz_lo b 32 0))) ∧ I = I' ∧ A = A') := by
  refine Cm.of (by decide) (Nat.le_of_ble_eq_true rfl) rfl ?_
  show V G MX7_leastOf (am_R 1 21 0 0) _ 0 0 0 [(0, .int b)] [] (hp I A)
  refine V.iconst (v := nI 0) (by decide) dX7_leastOf_0 ?_
  refine V.istore_n (ls' := [(0, .int b), (1, .int (nI 0))]) dX7_leastOf_1 (by decide) rfl ?_
  refine cl_least I A b 32 0 (by omega) ?_
  refine V.iload_n (j := 1) rfl dX7_leastOf_22 ?_
  refine V.ri dX7_leastOf_23 rfl ?_
  exact ⟨rfl, rfl, rfl⟩
def cz_part (o x y z : Nat → Int32) (i : Nat) (w : Int32) : Int32 := if w = nI 0 then o i else if w = nI 1 then x i else if w = nI 2 then y i else if w = nI 3 then z i else -1
def cz_tgt (o x z : Nat → Int32) (i : Nat) : Int32 := if o i = nI 7 then z i else if o i = nI 8 then x i else -1
def cz_on (o : Nat → Int32) (i : Nat) : Prop := ¬ o i = nI 8 ∧ ¬ o i = nI 10
set_option maxRecDepth 100000 in
set_option maxHeartbeats 4000000 in
theorem cd_add4 {G : am_G} (I A : Nat → Nat → Int32) (n : Nat) (hn : I 4 4 = nI n) (hN : n < 60) (op x y z : Int32) : Cm G MX3_add 0 0 [.ref 4, .int op, .int x, .int y, .int z] I A (fun r I' A' => r = none ∧ upI I 4 4 (nI (n + 1)) = I' ∧ upA (upA (upA (upA A 5 (upd (A 5) n (op))) 6 (upd (A 6) n (x))) 7 (upd (A 7) n (y))) 8 (upd (A 8) n (z)) = A') := by
  refine Cm.of (by decide) (Nat.le_of_ble_eq_true rfl) rfl ?_
  show V G MX3_add (am_R 0 0 0 0) _ 0 0 0 [(0, .ref 4), (1, .int op), (2, .int x), (3, .int y), (4, .int z)] [] (hp I A)
  refine V.aload_n (j := 0) rfl dX3_add_0 ?_
  refine V.geti (v := nI n) dX3_add_1 fX3_24 rfl rfl hn ?_
  refine V.aload_n (j := 0) rfl dX3_add_4 ?_
  refine V.getr (q := 5) dX3_add_5 fX3_9 rfl rfl ?_
  refine V.len dX3_add_8 rfl (by decide) ?_
  refine V.icmp_ltN (tgt := 13) dX3_add_9 (by decide) (by omega) (by omega) (fun c1 => ?_) (fun c1 => ?_)
  · refine V.aload_n (j := 0) rfl dX3_add_13 ?_
    refine V.getr (q := 5) dX3_add_14 fX3_9 rfl rfl ?_
    refine V.aload_n (j := 0) rfl dX3_add_17 ?_
    refine V.geti (v := nI n) dX3_add_18 fX3_24 rfl rfl hn ?_
    refine V.iload_n (j := 1) rfl dX3_add_21 ?_
    refine V.sta (g := upd (A 5) n (op)) dX3_add_22 rfl (by omega) (by decide) rfl ?_
    refine V.aload_n (j := 0) rfl dX3_add_23 ?_
    refine V.getr (q := 6) dX3_add_24 fX3_15 rfl rfl ?_
    refine V.aload_n (j := 0) rfl dX3_add_27 ?_
    refine V.geti (v := nI n) dX3_add_28 fX3_24 rfl rfl hn ?_
    refine V.iload_n (j := 2) rfl dX3_add_31 ?_
    refine V.sta (g := upd (A 6) n (x)) dX3_add_32 rfl (by omega) (by decide) rfl ?_
    refine V.aload_n (j := 0) rfl dX3_add_33 ?_
    refine V.getr (q := 7) dX3_add_34 fX3_18 rfl rfl ?_
    refine V.aload_n (j := 0) rfl dX3_add_37 ?_
    refine V.geti (v := nI n) dX3_add_38 fX3_24 rfl rfl hn ?_
    refine V.iload_n (j := 3) rfl dX3_add_41 ?_
    refine V.sta (g := upd (A 7) n (y)) dX3_add_42 rfl (by omega) (by decide) rfl ?_
    refine V.aload_n (j := 0) rfl dX3_add_43 ?_
    refine V.getr (q := 8) dX3_add_44 fX3_21 rfl rfl ?_
    refine V.aload_n (j := 0) rfl dX3_add_47 ?_
    refine V.geti (v := nI n) dX3_add_48 fX3_24 rfl rfl hn ?_
    refine V.iload (j := 4) rfl dX3_add_51 ?_
    refine V.sta (g := upd (A 8) n (z)) dX3_add_53 rfl (by omega) (by decide) rfl ?_
    refine V.aload_n (j := 0) rfl dX3_add_54 ?_
    refine V.dup rfl dX3_add_55 ?_
    refine V.geti (v := nI n) dX3_add_56 fX3_24 rfl rfl hn ?_
    refine V.iconst (v := nI 1) (by decide) dX3_add_59 ?_
    refine V.iaddN dX3_add_60 ?_
    refine V.puti dX3_add_61 pX3_24 rfl rfl ?_
    refine V.rv dX3_add_64 rfl ?_
    exact ⟨rfl, rfl, rfl⟩
  · exact absurd c1 (by omega)
set_option maxRecDepth 100000 in
set_option maxHeartbeats 4000000 in
theorem cd_part4 {G : am_G} (I A : Nat → Nat → Int32) (i : Nat) (hi : i < 60) (w : Int32) : Cm G MX3_part 0 0 [.ref 4, .int (nI i), .int w] I A (fun r I' A' => r = some (.int (cz_part (A 5) (A 6) (A 7) (A 8) i w)) ∧ I = I' ∧ A = A') := by
  refine Cm.of (by decide) (Nat.le_of_ble_eq_true rfl) rfl ?_
  show V G MX3_part (am_R 0 0 0 0) _ 0 0 0 [(0, .ref 4), (1, .int (nI i)), (2, .int w)] [] (hp I A)
  refine V.iload_n (j := 2) rfl dX3_part_0 ?_
  by_cases q1 : w = nI 0
  · refine V.st (st' := [.int (nI 0)]) (by rw [q1]) ?_
    refine V.tableIn (tgt := 32) dX3_part_1 (by decide) (by decide) rfl (by decide) ?_
    refine V.aload_n (j := 0) rfl dX3_part_32 ?_
    refine V.getr (q := 5) dX3_part_33 fX3_9 rfl rfl ?_
    refine V.iload_n (j := 1) rfl dX3_part_36 ?_
    refine V.lda (v := A 5 i) dX3_part_37 rfl (by omega) (by decide) rfl ?_
    refine V.ri dX3_part_38 rfl ?_
    exact ⟨by unfold cz_part; rw [if_pos q1], rfl, rfl⟩
  by_cases q2 : w = nI 1
  · refine V.st (st' := [.int (nI 1)]) (by rw [q2]) ?_
    refine V.tableIn (tgt := 39) dX3_part_1 (by decide) (by decide) rfl (by decide) ?_
    refine V.aload_n (j := 0) rfl dX3_part_39 ?_
    refine V.getr (q := 6) dX3_part_40 fX3_15 rfl rfl ?_
    refine V.iload_n (j := 1) rfl dX3_part_43 ?_
    refine V.lda (v := A 6 i) dX3_part_44 rfl (by omega) (by decide) rfl ?_
    refine V.ri dX3_part_45 rfl ?_
    exact ⟨by unfold cz_part; rw [if_neg q1, if_pos q2], rfl, rfl⟩
  by_cases q3 : w = nI 2
  · refine V.st (st' := [.int (nI 2)]) (by rw [q3]) ?_
    refine V.tableIn (tgt := 46) dX3_part_1 (by decide) (by decide) rfl (by decide) ?_
    refine V.aload_n (j := 0) rfl dX3_part_46 ?_
    refine V.getr (q := 7) dX3_part_47 fX3_18 rfl rfl ?_
    refine V.iload_n (j := 1) rfl dX3_part_50 ?_
    refine V.lda (v := A 7 i) dX3_part_51 rfl (by omega) (by decide) rfl ?_
    refine V.ri dX3_part_52 rfl ?_
    exact ⟨by unfold cz_part; rw [if_neg q1, if_neg q2, if_pos q3], rfl, rfl⟩
  by_cases q4 : w = nI 3
  · refine V.st (st' := [.int (nI 3)]) (by rw [q4]) ?_
    refine V.tableIn (tgt := 53) dX3_part_1 (by decide) (by decide) rfl (by decide) ?_
    refine V.aload_n (j := 0) rfl dX3_part_53 ?_
    refine V.getr (q := 8) dX3_part_54 fX3_21 rfl rfl ?_
    refine V.iload_n (j := 1) rfl dX3_part_57 ?_
    refine V.lda (v := A 8 i) dX3_part_58 rfl (by omega) (by decide) rfl ?_
    refine V.ri dX3_part_59 rfl ?_
    exact ⟨by unfold cz_part; rw [if_neg q1, if_neg q2, if_neg q3, if_pos q4], rfl, rfl⟩
  have tq1 : ¬ (w).toInt = 0 := lv_neT q1 (by decide)
  have tq2 : ¬ (w).toInt = 1 := lv_neT q2 (by decide)
  have tq3 : ¬ (w).toInt = 2 := lv_neT q3 (by decide)
  have tq4 : ¬ (w).toInt = 3 := lv_neT q4 (by decide)
  refine V.tableOut (tgt := 60) dX3_part_1 (by omega) (by decide) ?_
  refine V.iconst (v := (-1)) (by decide) dX3_part_60 ?_
  refine V.ri dX3_part_61 rfl ?_
  exact ⟨by unfold cz_part; rw [if_neg q1, if_neg q2, if_neg q3, if_neg q4], rfl, rfl⟩
set_option maxRecDepth 100000 in
set_option maxHeartbeats 4000000 in
theorem cd_target4 {G : am_G} (I A : Nat → Nat → Int32) (i : Nat) (hi : i < 60) : Cm G MX3_target 0 0 [.ref 4, .int (nI i)] I A (fun r I' A' => r = some (.int (cz_tgt (A 5) (A 6) (A 8) i)) ∧ I = I' ∧ A = A') := by
  refine Cm.of (by decide) (Nat.le_of_ble_eq_true rfl) rfl ?_
  show V G MX3_target (am_R 0 0 0 0) _ 0 0 0 [(0, .ref 4), (1, .int (nI i))] [] (hp I A)
  refine V.aload_n (j := 0) rfl dX3_target_0 ?_
  refine V.getr (q := 5) dX3_target_1 fX3_9 rfl rfl ?_
  refine V.iload_n (j := 1) rfl dX3_target_4 ?_
  refine V.lda (v := A 5 i) dX3_target_5 rfl (by omega) (by decide) rfl ?_
  refine V.bipush (v := nI 7) (by decide) dX3_target_6 ?_
  refine V.icmp_ne (tgt := 18) dX3_target_8 (by decide) (fun c1 => ?_) (fun c1 => ?_)
  · refine V.aload_n (j := 0) rfl dX3_target_18 ?_
    refine V.getr (q := 5) dX3_target_19 fX3_9 rfl rfl ?_
    refine V.iload_n (j := 1) rfl dX3_target_22 ?_
    refine V.lda (v := A 5 i) dX3_target_23 rfl (by omega) (by decide) rfl ?_
    refine V.bipush (v := nI 8) (by decide) dX3_target_24 ?_
    refine V.icmp_ne (tgt := 38) dX3_target_26 (by decide) (fun c2 => ?_) (fun c2 => ?_)
    · refine V.iconst (v := (-1)) (by decide) dX3_target_38 ?_
      refine V.ri dX3_target_39 rfl ?_
      exact ⟨by unfold cz_tgt; rw [if_neg c1, if_neg c2], rfl, rfl⟩
    · refine V.aload_n (j := 0) rfl dX3_target_29 ?_
      refine V.getr (q := 6) dX3_target_30 fX3_15 rfl rfl ?_
      refine V.iload_n (j := 1) rfl dX3_target_33 ?_
      refine V.lda (v := A 6 i) dX3_target_34 rfl (by omega) (by decide) rfl ?_
      refine V.goto (tgt := 39) dX3_target_35 (by decide) ?_
      refine V.ri dX3_target_39 rfl ?_
      exact ⟨by unfold cz_tgt; rw [if_neg c1, if_pos c2], rfl, rfl⟩
  · refine V.aload_n (j := 0) rfl dX3_target_11 ?_
    refine V.getr (q := 8) dX3_target_12 fX3_21 rfl rfl ?_
    refine V.iload_n (j := 1) rfl dX3_target_15 ?_
    refine V.lda (v := A 8 i) dX3_target_16 rfl (by omega) (by decide) rfl ?_
    refine V.ri dX3_target_17 rfl ?_
    exact ⟨by unfold cz_tgt; rw [if_pos c1], rfl, rfl⟩
set_option maxRecDepth 100000 in
set_option maxHeartbeats 4000000 in
theorem cd_on4 {G : am_G} (I A : Nat → Nat → Int32) (i : Nat) (hi : i < 60) : Cm G MX3_goesOn 0 0 [.ref 4, .int (nI i)] I A (fun r I' A' => r = some (.int (bI (cz_on (A 5) i))) ∧ I = I' ∧ A = A') := by
  refine Cm.of (by decide) (Nat.le_of_ble_eq_true rfl) rfl ?_
  show V G MX3_goesOn (am_R 0 0 0 0) _ 0 0 0 [(0, .ref 4), (1, .int (nI i))] [] (hp I A)
  refine V.aload_n (j := 0) rfl dX3_goesOn_0 ?_
  refine V.getr (q := 5) dX3_goesOn_1 fX3_9 rfl rfl ?_
  refine V.iload_n (j := 1) rfl dX3_goesOn_4 ?_
  refine V.lda (v := A 5 i) dX3_goesOn_5 rfl (by omega) (by decide) rfl ?_
  refine V.bipush (v := nI 8) (by decide) dX3_goesOn_6 ?_
  refine V.icmp_eq (tgt := 26) dX3_goesOn_8 (by decide) (fun c1 => ?_) (fun c1 => ?_)
  · refine V.iconst (v := nI 0) (by decide) dX3_goesOn_26 ?_
    refine V.rz dX3_goesOn_27 rfl (by decide) ?_
    exact ⟨am_s0 (fun z => z.1 c1), rfl, rfl⟩
  · refine V.aload_n (j := 0) rfl dX3_goesOn_11 ?_
    refine V.getr (q := 5) dX3_goesOn_12 fX3_9 rfl rfl ?_
    refine V.iload_n (j := 1) rfl dX3_goesOn_15 ?_
    refine V.lda (v := A 5 i) dX3_goesOn_16 rfl (by omega) (by decide) rfl ?_
    refine V.bipush (v := nI 10) (by decide) dX3_goesOn_17 ?_
    refine V.icmp_eq (tgt := 26) dX3_goesOn_19 (by decide) (fun c2 => ?_) (fun c2 => ?_)
    · refine V.iconst (v := nI 0) (by decide) dX3_goesOn_26 ?_
      refine V.rz dX3_goesOn_27 rfl (by decide) ?_
      exact ⟨am_s0 (fun z => z.2 c2), rfl, rfl⟩
    · refine V.iconst (v := nI 1) (by decide) dX3_goesOn_22 ?_
      refine V.goto (tgt := 27) dX3_goesOn_23 (by decide) ?_
      refine V.rz dX3_goesOn_27 rfl (by decide) ?_
      exact ⟨am_s1 ⟨c1, c2⟩, rfl, rfl⟩
set_option maxRecDepth 100000 in
set_option maxHeartbeats 4000000 in
theorem cd_add25 {G : am_G} (I A : Nat → Nat → Int32) (n : Nat) (hn : I 25 4 = nI n) (hN : n < 240) (op x y z : Int32) : Cm G MX3_add 0 0 [.ref 25, .int op, .int x, .int y, .int z] I A (fun r I' A' => r = none ∧ upI I 25 4 (nI (n + 1)) = I' ∧ upA (upA (upA (upA A 26 (upd (A 26) n (op))) 27 (upd (A 27) n (x))) 28 (upd (A 28) n (y))) 29 (upd (A 29) n (z)) = A') := by
  refine Cm.of (by decide) (Nat.le_of_ble_eq_true rfl) rfl ?_
  show V G MX3_add (am_R 0 0 0 0) _ 0 0 0 [(0, .ref 25), (1, .int op), (2, .int x), (3, .int y), (4, .int z)] [] (hp I A)
  refine V.aload_n (j := 0) rfl dX3_add_0 ?_
  refine V.geti (v := nI n) dX3_add_1 fX3_24 rfl rfl hn ?_
  refine V.aload_n (j := 0) rfl dX3_add_4 ?_
  refine V.getr (q := 26) dX3_add_5 fX3_9 rfl rfl ?_
  refine V.len dX3_add_8 rfl (by decide) ?_
  refine V.icmp_ltN (tgt := 13) dX3_add_9 (by decide) (by omega) (by omega) (fun c1 => ?_) (fun c1 => ?_)
  · refine V.aload_n (j := 0) rfl dX3_add_13 ?_
    refine V.getr (q := 26) dX3_add_14 fX3_9 rfl rfl ?_
    refine V.aload_n (j := 0) rfl dX3_add_17 ?_
    refine V.geti (v := nI n) dX3_add_18 fX3_24 rfl rfl hn ?_
    refine V.iload_n (j := 1) rfl dX3_add_21 ?_
    refine V.sta (g := upd (A 26) n (op)) dX3_add_22 rfl (by omega) (by decide) rfl ?_
    refine V.aload_n (j := 0) rfl dX3_add_23 ?_
    refine V.getr (q := 27) dX3_add_24 fX3_15 rfl rfl ?_
    refine V.aload_n (j := 0) rfl dX3_add_27 ?_
    refine V.geti (v := nI n) dX3_add_28 fX3_24 rfl rfl hn ?_
    refine V.iload_n (j := 2) rfl dX3_add_31 ?_
    refine V.sta (g := upd (A 27) n (x)) dX3_add_32 rfl (by omega) (by decide) rfl ?_
    refine V.aload_n (j := 0) rfl dX3_add_33 ?_
    refine V.getr (q := 28) dX3_add_34 fX3_18 rfl rfl ?_
    refine V.aload_n (j := 0) rfl dX3_add_37 ?_
    refine V.geti (v := nI n) dX3_add_38 fX3_24 rfl rfl hn ?_
    refine V.iload_n (j := 3) rfl dX3_add_41 ?_
    refine V.sta (g := upd (A 28) n (y)) dX3_add_42 rfl (by omega) (by decide) rfl ?_
    refine V.aload_n (j := 0) rfl dX3_add_43 ?_
    refine V.getr (q := 29) dX3_add_44 fX3_21 rfl rfl ?_
    refine V.aload_n (j := 0) rfl dX3_add_47 ?_
    refine V.geti (v := nI n) dX3_add_48 fX3_24 rfl rfl hn ?_
    refine V.iload (j := 4) rfl dX3_add_51 ?_
    refine V.sta (g := upd (A 29) n (z)) dX3_add_53 rfl (by omega) (by decide) rfl ?_
    refine V.aload_n (j := 0) rfl dX3_add_54 ?_
    refine V.dup rfl dX3_add_55 ?_
    refine V.geti (v := nI n) dX3_add_56 fX3_24 rfl rfl hn ?_
    refine V.iconst (v := nI 1) (by decide) dX3_add_59 ?_
    refine V.iaddN dX3_add_60 ?_
    refine V.puti dX3_add_61 pX3_24 rfl rfl ?_
    refine V.rv dX3_add_64 rfl ?_
    exact ⟨rfl, rfl, rfl⟩
  · exact absurd c1 (by omega)
set_option maxRecDepth 100000 in
set_option maxHeartbeats 4000000 in
theorem cd_part25 {G : am_G} (I A : Nat → Nat → Int32) (i : Nat) (hi : i < 240) (w : Int32) : Cm G MX3_part 0 0 [.ref 25, .int (nI i), .int w] I A (fun r I' A' => r = some (.int (cz_part (A 26) (A 27) (A 28) (A 29) i w)) ∧ I = I' ∧ A = A') := by
  refine Cm.of (by decide) (Nat.le_of_ble_eq_true rfl) rfl ?_
  show V G MX3_part (am_R 0 0 0 0) _ 0 0 0 [(0, .ref 25), (1, .int (nI i)), (2, .int w)] [] (hp I A)
  refine V.iload_n (j := 2) rfl dX3_part_0 ?_
  by_cases q1 : w = nI 0
  · refine V.st (st' := [.int (nI 0)]) (by rw [q1]) ?_
    refine V.tableIn (tgt := 32) dX3_part_1 (by decide) (by decide) rfl (by decide) ?_
    refine V.aload_n (j := 0) rfl dX3_part_32 ?_
    refine V.getr (q := 26) dX3_part_33 fX3_9 rfl rfl ?_
    refine V.iload_n (j := 1) rfl dX3_part_36 ?_
    refine V.lda (v := A 26 i) dX3_part_37 rfl (by omega) (by decide) rfl ?_
    refine V.ri dX3_part_38 rfl ?_
    exact ⟨by unfold cz_part; rw [if_pos q1], rfl, rfl⟩
  by_cases q2 : w = nI 1
  · refine V.st (st' := [.int (nI 1)]) (by rw [q2]) ?_
    refine V.tableIn (tgt := 39) dX3_part_1 (by decide) (by decide) rfl (by decide) ?_
    refine V.aload_n (j := 0) rfl dX3_part_39 ?_
    refine V.getr (q := 27) dX3_part_40 fX3_15 rfl rfl ?_
    refine V.iload_n (j := 1) rfl dX3_part_43 ?_
    refine V.lda (v := A 27 i) dX3_part_44 rfl (by omega) (by decide) rfl ?_
    refine V.ri dX3_part_45 rfl ?_
    exact ⟨by unfold cz_part; rw [if_neg q1, if_pos q2], rfl, rfl⟩
  by_cases q3 : w = nI 2
  · refine V.st (st' := [.int (nI 2)]) (by rw [q3]) ?_
    refine V.tableIn (tgt := 46) dX3_part_1 (by decide) (by decide) rfl (by decide) ?_
    refine V.aload_n (j := 0) rfl dX3_part_46 ?_
    refine V.getr (q := 28) dX3_part_47 fX3_18 rfl rfl ?_
    refine V.iload_n (j := 1) rfl dX3_part_50 ?_
    refine V.lda (v := A 28 i) dX3_part_51 rfl (by omega) (by decide) rfl ?_
    refine V.ri dX3_part_52 rfl ?_
    exact ⟨by unfold cz_part; rw [if_neg q1, if_neg q2, if_pos q3], rfl, rfl⟩
  by_cases q4 : w = nI 3
  · refine V.st (st' := [.int (nI 3)]) (by rw [q4]) ?_
    refine V.tableIn (tgt := 53) dX3_part_1 (by decide) (by decide) rfl (by decide) ?_
    refine V.aload_n (j := 0) rfl dX3_part_53 ?_
    refine V.getr (q := 29) dX3_part_54 fX3_21 rfl rfl ?_
    refine V.iload_n (j := 1) rfl dX3_part_57 ?_
    refine V.lda (v := A 29 i) dX3_part_58 rfl (by omega) (by decide) rfl ?_
    refine V.ri dX3_part_59 rfl ?_
    exact ⟨by unfold cz_part; rw [if_neg q1, if_neg q2, if_neg q3, if_pos q4], rfl, rfl⟩
  have tq1 : ¬ (w).toInt = 0 := lv_neT q1 (by decide)
  have tq2 : ¬ (w).toInt = 1 := lv_neT q2 (by decide)
  have tq3 : ¬ (w).toInt = 2 := lv_neT q3 (by decide)
  have tq4 : ¬ (w).toInt = 3 := lv_neT q4 (by decide)
  refine V.tableOut (tgt := 60) dX3_part_1 (by omega) (by decide) ?_
  refine V.iconst (v := (-1)) (by decide) dX3_part_60 ?_
  refine V.ri dX3_part_61 rfl ?_
  exact ⟨by unfold cz_part; rw [if_neg q1, if_neg q2, if_neg q3, if_neg q4], rfl, rfl⟩
set_option maxRecDepth 100000 in
set_option maxHeartbeats 4000000 in
theorem cd_target25 {G : am_G} (I A : Nat → Nat → Int32) (i : Nat) (hi : i < 240) : Cm G MX3_target 0 0 [.ref 25, .int (nI i)] I A (fun r I' A' => r = some (.int (cz_tgt (A 26) (A 27) (A 29) i)) ∧ I = I' ∧ A = A') := by
  refine Cm.of (by decide) (Nat.le_of_ble_eq_true rfl) rfl ?_
  show V G MX3_target (am_R 0 0 0 0) _ 0 0 0 [(0, .ref 25), (1, .int (nI i))] [] (hp I A)
  refine V.aload_n (j := 0) rfl dX3_target_0 ?_
  refine V.getr (q := 26) dX3_target_1 fX3_9 rfl rfl ?_
  refine V.iload_n (j := 1) rfl dX3_target_4 ?_
  refine V.lda (v := A 26 i) dX3_target_5 rfl (by omega) (by decide) rfl ?_
  refine V.bipush (v := nI 7) (by decide) dX3_target_6 ?_
  refine V.icmp_ne (tgt := 18) dX3_target_8 (by decide) (fun c1 => ?_) (fun c1 => ?_)
  · refine V.aload_n (j := 0) rfl dX3_target_18 ?_
    refine V.getr (q := 26) dX3_target_19 fX3_9 rfl rfl ?_
    refine V.iload_n (j := 1) rfl dX3_target_22 ?_
    refine V.lda (v := A 26 i) dX3_target_23 rfl (by omega) (by decide) rfl ?_
    refine V.bipush (v := nI 8) (by decide) dX3_target_24 ?_
    refine V.icmp_ne (tgt := 38) dX3_target_26 (by decide) (fun c2 => ?_) (fun c2 => ?_)
    · refine V.iconst (v := (-1)) (by decide) dX3_target_38 ?_
      refine V.ri dX3_target_39 rfl ?_
      exact ⟨by unfold cz_tgt; rw [if_neg c1, if_neg c2], rfl, rfl⟩
    · refine V.aload_n (j := 0) rfl dX3_target_29 ?_
      refine V.getr (q := 27) dX3_target_30 fX3_15 rfl rfl ?_
      refine V.iload_n (j := 1) rfl dX3_target_33 ?_
      refine V.lda (v := A 27 i) dX3_target_34 rfl (by omega) (by decide) rfl ?_
      refine V.goto (tgt := 39) dX3_target_35 (by decide) ?_
      refine V.ri dX3_target_39 rfl ?_
      exact ⟨by unfold cz_tgt; rw [if_neg c1, if_pos c2], rfl, rfl⟩
  · refine V.aload_n (j := 0) rfl dX3_target_11 ?_
    refine V.getr (q := 29) dX3_target_12 fX3_21 rfl rfl ?_
    refine V.iload_n (j := 1) rfl dX3_target_15 ?_
    refine V.lda (v := A 29 i) dX3_target_16 rfl (by omega) (by decide) rfl ?_
    refine V.ri dX3_target_17 rfl ?_
    exact ⟨by unfold cz_tgt; rw [if_pos c1], rfl, rfl⟩
set_option maxRecDepth 100000 in
set_option maxHeartbeats 4000000 in
theorem cd_on25 {G : am_G} (I A : Nat → Nat → Int32) (i : Nat) (hi : i < 240) : Cm G MX3_goesOn 0 0 [.ref 25, .int (nI i)] I A (fun r I' A' => r = some (.int (bI (cz_on (A 26) i))) ∧ I = I' ∧ A = A') := by
  refine Cm.of (by decide) (Nat.le_of_ble_eq_true rfl) rfl ?_
  show V G MX3_goesOn (am_R 0 0 0 0) _ 0 0 0 [(0, .ref 25), (1, .int (nI i))] [] (hp I A)
  refine V.aload_n (j := 0) rfl dX3_goesOn_0 ?_
  refine V.getr (q := 26) dX3_goesOn_1 fX3_9 rfl rfl ?_
  refine V.iload_n (j := 1) rfl dX3_goesOn_4 ?_
  refine V.lda (v := A 26 i) dX3_goesOn_5 rfl (by omega) (by decide) rfl ?_
  refine V.bipush (v := nI 8) (by decide) dX3_goesOn_6 ?_
  refine V.icmp_eq (tgt := 26) dX3_goesOn_8 (by decide) (fun c1 => ?_) (fun c1 => ?_)
  · refine V.iconst (v := nI 0) (by decide) dX3_goesOn_26 ?_
    refine V.rz dX3_goesOn_27 rfl (by decide) ?_
    exact ⟨am_s0 (fun z => z.1 c1), rfl, rfl⟩
  · refine V.aload_n (j := 0) rfl dX3_goesOn_11 ?_
    refine V.getr (q := 26) dX3_goesOn_12 fX3_9 rfl rfl ?_
    refine V.iload_n (j := 1) rfl dX3_goesOn_15 ?_
    refine V.lda (v := A 26 i) dX3_goesOn_16 rfl (by omega) (by decide) rfl ?_
    refine V.bipush (v := nI 10) (by decide) dX3_goesOn_17 ?_
    refine V.icmp_eq (tgt := 26) dX3_goesOn_19 (by decide) (fun c2 => ?_) (fun c2 => ?_)
    · refine V.iconst (v := nI 0) (by decide) dX3_goesOn_26 ?_
      refine V.rz dX3_goesOn_27 rfl (by decide) ?_
      exact ⟨am_s0 (fun z => z.2 c2), rfl, rfl⟩
    · refine V.iconst (v := nI 1) (by decide) dX3_goesOn_22 ?_
      refine V.goto (tgt := 27) dX3_goesOn_23 (by decide) ?_
      refine V.rz dX3_goesOn_27 rfl (by decide) ?_
      exact ⟨am_s1 ⟨c1, c2⟩, rfl, rfl⟩
set_option maxRecDepth 100000 in
set_option maxHeartbeats 4000000 in
theorem cd_aim25 {G : am_G} (I A : Nat → Nat → Int32) (i : Nat) (hi : i < 240) (t : Int32) : Cm G MX3_aim 0 0 [.ref 25, .int (nI i), .int t] I A (fun r I' A' => r = none ∧ I = I' ∧ (if A 26 i = nI 7 then upA A 29 (upd (A 29) i t) else if A 26 i = nI 8 then upA A 27 (upd (A 27) i t) else A) = A') := by
  refine Cm.of (by decide) (Nat.le_of_ble_eq_true rfl) rfl ?_
  show V G MX3_aim (am_R 0 0 0 0) _ 0 0 0 [(0, .ref 25), (1, .int (nI i)), (2, .int t)] [] (hp I A)
  refine V.aload_n (j := 0) rfl dX3_aim_0 ?_
  refine V.getr (q := 26) dX3_aim_1 fX3_9 rfl rfl ?_
  refine V.iload_n (j := 1) rfl dX3_aim_4 ?_
  refine V.lda (v := A 26 i) dX3_aim_5 rfl (by omega) (by decide) rfl ?_
  refine V.bipush (v := nI 7) (by decide) dX3_aim_6 ?_
  refine V.icmp_ne (tgt := 21) dX3_aim_8 (by decide) (fun c1 => ?_) (fun c1 => ?_)
  · refine V.aload_n (j := 0) rfl dX3_aim_21 ?_
    refine V.getr (q := 26) dX3_aim_22 fX3_9 rfl rfl ?_
    refine V.iload_n (j := 1) rfl dX3_aim_25 ?_
    refine V.lda (v := A 26 i) dX3_aim_26 rfl (by omega) (by decide) rfl ?_
    refine V.bipush (v := nI 8) (by decide) dX3_aim_27 ?_
    refine V.icmp_ne (tgt := 39) dX3_aim_29 (by decide) (fun c2 => ?_) (fun c2 => ?_)
    · refine V.rv dX3_aim_39 rfl ?_
      exact ⟨rfl, rfl, by rw [if_neg c1, if_neg c2]⟩
    · refine V.aload_n (j := 0) rfl dX3_aim_32 ?_
      refine V.getr (q := 27) dX3_aim_33 fX3_15 rfl rfl ?_
      refine V.iload_n (j := 1) rfl dX3_aim_36 ?_
      refine V.iload_n (j := 2) rfl dX3_aim_37 ?_
      refine V.sta (g := upd (A 27) i (t)) dX3_aim_38 rfl (by omega) (by decide) rfl ?_
      refine V.rv dX3_aim_39 rfl ?_
      exact ⟨rfl, rfl, by rw [if_neg c1, if_pos c2]⟩
  · refine V.aload_n (j := 0) rfl dX3_aim_11 ?_
    refine V.getr (q := 29) dX3_aim_12 fX3_21 rfl rfl ?_
    refine V.iload_n (j := 1) rfl dX3_aim_15 ?_
    refine V.iload_n (j := 2) rfl dX3_aim_16 ?_
    refine V.sta (g := upd (A 29) i (t)) dX3_aim_17 rfl (by omega) (by decide) rfl ?_
    refine V.goto (tgt := 39) dX3_aim_18 (by decide) ?_
    refine V.rv dX3_aim_39 rfl ?_
    exact ⟨rfl, rfl, by rw [if_pos c1]⟩
set_option maxRecDepth 100000 in
set_option maxHeartbeats 4000000 in
theorem cd_add30 {G : am_G} (I A : Nat → Nat → Int32) (n : Nat) (hn : I 30 4 = nI n) (hN : n < 240) (op x y z : Int32) : Cm G MX3_add 0 0 [.ref 30, .int op, .int x, .int y, .int z] I A (fun r I' A' => r = none ∧ upI I 30 4 (nI (n + 1)) = I' ∧ upA (upA (upA (upA A 31 (upd (A 31) n (op))) 32 (upd (A 32) n (x))) 33 (upd (A 33) n (y))) 34 (upd (A 34) n (z)) = A') := by
  refine Cm.of (by decide) (Nat.le_of_ble_eq_true rfl) rfl ?_
  show V G MX3_add (am_R 0 0 0 0) _ 0 0 0 [(0, .ref 30), (1, .int op), (2, .int x), (3, .int y), (4, .int z)] [] (hp I A)
  refine V.aload_n (j := 0) rfl dX3_add_0 ?_
  refine V.geti (v := nI n) dX3_add_1 fX3_24 rfl rfl hn ?_
  refine V.aload_n (j := 0) rfl dX3_add_4 ?_
  refine V.getr (q := 31) dX3_add_5 fX3_9 rfl rfl ?_
  refine V.len dX3_add_8 rfl (by decide) ?_
  refine V.icmp_ltN (tgt := 13) dX3_add_9 (by decide) (by omega) (by omega) (fun c1 => ?_) (fun c1 => ?_)
  · refine V.aload_n (j := 0) rfl dX3_add_13 ?_
    refine V.getr (q := 31) dX3_add_14 fX3_9 rfl rfl ?_
    refine V.aload_n (j := 0) rfl dX3_add_17 ?_
    refine V.geti (v := nI n) dX3_add_18 fX3_24 rfl rfl hn ?_
    refine V.iload_n (j := 1) rfl dX3_add_21 ?_
    refine V.sta (g := upd (A 31) n (op)) dX3_add_22 rfl (by omega) (by decide) rfl ?_
    refine V.aload_n (j := 0) rfl dX3_add_23 ?_
    refine V.getr (q := 32) dX3_add_24 fX3_15 rfl rfl ?_
    refine V.aload_n (j := 0) rfl dX3_add_27 ?_
    refine V.geti (v := nI n) dX3_add_28 fX3_24 rfl rfl hn ?_
    refine V.iload_n (j := 2) rfl dX3_add_31 ?_
    refine V.sta (g := upd (A 32) n (x)) dX3_add_32 rfl (by omega) (by decide) rfl ?_
    refine V.aload_n (j := 0) rfl dX3_add_33 ?_
    refine V.getr (q := 33) dX3_add_34 fX3_18 rfl rfl ?_
    refine V.aload_n (j := 0) rfl dX3_add_37 ?_
    refine V.geti (v := nI n) dX3_add_38 fX3_24 rfl rfl hn ?_
    refine V.iload_n (j := 3) rfl dX3_add_41 ?_
    refine V.sta (g := upd (A 33) n (y)) dX3_add_42 rfl (by omega) (by decide) rfl ?_
    refine V.aload_n (j := 0) rfl dX3_add_43 ?_
    refine V.getr (q := 34) dX3_add_44 fX3_21 rfl rfl ?_
    refine V.aload_n (j := 0) rfl dX3_add_47 ?_
    refine V.geti (v := nI n) dX3_add_48 fX3_24 rfl rfl hn ?_
    refine V.iload (j := 4) rfl dX3_add_51 ?_
    refine V.sta (g := upd (A 34) n (z)) dX3_add_53 rfl (by omega) (by decide) rfl ?_
    refine V.aload_n (j := 0) rfl dX3_add_54 ?_
    refine V.dup rfl dX3_add_55 ?_
    refine V.geti (v := nI n) dX3_add_56 fX3_24 rfl rfl hn ?_
    refine V.iconst (v := nI 1) (by decide) dX3_add_59 ?_
    refine V.iaddN dX3_add_60 ?_
    refine V.puti dX3_add_61 pX3_24 rfl rfl ?_
    refine V.rv dX3_add_64 rfl ?_
    exact ⟨rfl, rfl, rfl⟩
  · exact absurd c1 (by omega)
set_option maxRecDepth 100000 in
set_option maxHeartbeats 4000000 in
theorem cd_part30 {G : am_G} (I A : Nat → Nat → Int32) (i : Nat) (hi : i < 240) (w : Int32) : Cm G MX3_part 0 0 [.ref 30, .int (nI i), .int w] I A (fun r I' A' => r = some (.int (cz_part (A 31) (A 32) (A 33) (A 34) i w)) ∧ I = I' ∧ A = A') := by
  refine Cm.of (by decide) (Nat.le_of_ble_eq_true rfl) rfl ?_
  show V G MX3_part (am_R 0 0 0 0) _ 0 0 0 [(0, .ref 30), (1, .int (nI i)), (2, .int w)] [] (hp I A)
  refine V.iload_n (j := 2) rfl dX3_part_0 ?_
  by_cases q1 : w = nI 0
  · refine V.st (st' := [.int (nI 0)]) (by rw [q1]) ?_
    refine V.tableIn (tgt := 32) dX3_part_1 (by decide) (by decide) rfl (by decide) ?_
    refine V.aload_n (j := 0) rfl dX3_part_32 ?_
    refine V.getr (q := 31) dX3_part_33 fX3_9 rfl rfl ?_
    refine V.iload_n (j := 1) rfl dX3_part_36 ?_
    refine V.lda (v := A 31 i) dX3_part_37 rfl (by omega) (by decide) rfl ?_
    refine V.ri dX3_part_38 rfl ?_
    exact ⟨by unfold cz_part; rw [if_pos q1], rfl, rfl⟩
  by_cases q2 : w = nI 1
  · refine V.st (st' := [.int (nI 1)]) (by rw [q2]) ?_
    refine V.tableIn (tgt := 39) dX3_part_1 (by decide) (by decide) rfl (by decide) ?_
    refine V.aload_n (j := 0) rfl dX3_part_39 ?_
    refine V.getr (q := 32) dX3_part_40 fX3_15 rfl rfl ?_
    refine V.iload_n (j := 1) rfl dX3_part_43 ?_
    refine V.lda (v := A 32 i) dX3_part_44 rfl (by omega) (by decide) rfl ?_
    refine V.ri dX3_part_45 rfl ?_
    exact ⟨by unfold cz_part; rw [if_neg q1, if_pos q2], rfl, rfl⟩
  by_cases q3 : w = nI 2
  · refine V.st (st' := [.int (nI 2)]) (by rw [q3]) ?_
    refine V.tableIn (tgt := 46) dX3_part_1 (by decide) (by decide) rfl (by decide) ?_
    refine V.aload_n (j := 0) rfl dX3_part_46 ?_
    refine V.getr (q := 33) dX3_part_47 fX3_18 rfl rfl ?_
    refine V.iload_n (j := 1) rfl dX3_part_50 ?_
    refine V.lda (v := A 33 i) dX3_part_51 rfl (by omega) (by decide) rfl ?_
    refine V.ri dX3_part_52 rfl ?_
    exact ⟨by unfold cz_part; rw [if_neg q1, if_neg q2, if_pos q3], rfl, rfl⟩
  by_cases q4 : w = nI 3
  · refine V.st (st' := [.int (nI 3)]) (by rw [q4]) ?_
    refine V.tableIn (tgt := 53) dX3_part_1 (by decide) (by decide) rfl (by decide) ?_
    refine V.aload_n (j := 0) rfl dX3_part_53 ?_
    refine V.getr (q := 34) dX3_part_54 fX3_21 rfl rfl ?_
    refine V.iload_n (j := 1) rfl dX3_part_57 ?_
    refine V.lda (v := A 34 i) dX3_part_58 rfl (by omega) (by decide) rfl ?_
    refine V.ri dX3_part_59 rfl ?_
    exact ⟨by unfold cz_part; rw [if_neg q1, if_neg q2, if_neg q3, if_pos q4], rfl, rfl⟩
  have tq1 : ¬ (w).toInt = 0 := lv_neT q1 (by decide)
  have tq2 : ¬ (w).toInt = 1 := lv_neT q2 (by decide)
  have tq3 : ¬ (w).toInt = 2 := lv_neT q3 (by decide)
  have tq4 : ¬ (w).toInt = 3 := lv_neT q4 (by decide)
  refine V.tableOut (tgt := 60) dX3_part_1 (by omega) (by decide) ?_
  refine V.iconst (v := (-1)) (by decide) dX3_part_60 ?_
  refine V.ri dX3_part_61 rfl ?_
  exact ⟨by unfold cz_part; rw [if_neg q1, if_neg q2, if_neg q3, if_neg q4], rfl, rfl⟩
set_option maxRecDepth 100000 in
set_option maxHeartbeats 4000000 in
theorem cd_target30 {G : am_G} (I A : Nat → Nat → Int32) (i : Nat) (hi : i < 240) : Cm G MX3_target 0 0 [.ref 30, .int (nI i)] I A (fun r I' A' => r = some (.int (cz_tgt (A 31) (A 32) (A 34) i)) ∧ I = I' ∧ A = A') := by
  refine Cm.of (by decide) (Nat.le_of_ble_eq_true rfl) rfl ?_
  show V G MX3_target (am_R 0 0 0 0) _ 0 0 0 [(0, .ref 30), (1, .int (nI i))] [] (hp I A)
  refine V.aload_n (j := 0) rfl dX3_target_0 ?_
  refine V.getr (q := 31) dX3_target_1 fX3_9 rfl rfl ?_
  refine V.iload_n (j := 1) rfl dX3_target_4 ?_
  refine V.lda (v := A 31 i) dX3_target_5 rfl (by omega) (by decide) rfl ?_
  refine V.bipush (v := nI 7) (by decide) dX3_target_6 ?_
  refine V.icmp_ne (tgt := 18) dX3_target_8 (by decide) (fun c1 => ?_) (fun c1 => ?_)
  · refine V.aload_n (j := 0) rfl dX3_target_18 ?_
    refine V.getr (q := 31) dX3_target_19 fX3_9 rfl rfl ?_
    refine V.iload_n (j := 1) rfl dX3_target_22 ?_
    refine V.lda (v := A 31 i) dX3_target_23 rfl (by omega) (by decide) rfl ?_
    refine V.bipush (v := nI 8) (by decide) dX3_target_24 ?_
    refine V.icmp_ne (tgt := 38) dX3_target_26 (by decide) (fun c2 => ?_) (fun c2 => ?_)
    · refine V.iconst (v := (-1)) (by decide) dX3_target_38 ?_
      refine V.ri dX3_target_39 rfl ?_
      exact ⟨by unfold cz_tgt; rw [if_neg c1, if_neg c2], rfl, rfl⟩
    · refine V.aload_n (j := 0) rfl dX3_target_29 ?_
      refine V.getr (q := 32) dX3_target_30 fX3_15 rfl rfl ?_
      refine V.iload_n (j := 1) rfl dX3_target_33 ?_
      refine V.lda (v := A 32 i) dX3_target_34 rfl (by omega) (by decide) rfl ?_
      refine V.goto (tgt := 39) dX3_target_35 (by decide) ?_
      refine V.ri dX3_target_39 rfl ?_
      exact ⟨by unfold cz_tgt; rw [if_neg c1, if_pos c2], rfl, rfl⟩
  · refine V.aload_n (j := 0) rfl dX3_target_11 ?_
    refine V.getr (q := 34) dX3_target_12 fX3_21 rfl rfl ?_
    refine V.iload_n (j := 1) rfl dX3_target_15 ?_
    refine V.lda (v := A 34 i) dX3_target_16 rfl (by omega) (by decide) rfl ?_
    refine V.ri dX3_target_17 rfl ?_
    exact ⟨by unfold cz_tgt; rw [if_pos c1], rfl, rfl⟩
set_option maxRecDepth 100000 in
set_option maxHeartbeats 4000000 in
theorem cd_on30 {G : am_G} (I A : Nat → Nat → Int32) (i : Nat) (hi : i < 240) : Cm G MX3_goesOn 0 0 [.ref 30, .int (nI i)] I A (fun r I' A' => r = some (.int (bI (cz_on (A 31) i))) ∧ I = I' ∧ A = A') := by
  refine Cm.of (by decide) (Nat.le_of_ble_eq_true rfl) rfl ?_
  show V G MX3_goesOn (am_R 0 0 0 0) _ 0 0 0 [(0, .ref 30), (1, .int (nI i))] [] (hp I A)
  refine V.aload_n (j := 0) rfl dX3_goesOn_0 ?_
  refine V.getr (q := 31) dX3_goesOn_1 fX3_9 rfl rfl ?_
  refine V.iload_n (j := 1) rfl dX3_goesOn_4 ?_
  refine V.lda (v := A 31 i) dX3_goesOn_5 rfl (by omega) (by decide) rfl ?_
  refine V.bipush (v := nI 8) (by decide) dX3_goesOn_6 ?_
  refine V.icmp_eq (tgt := 26) dX3_goesOn_8 (by decide) (fun c1 => ?_) (fun c1 => ?_)
  · refine V.iconst (v := nI 0) (by decide) dX3_goesOn_26 ?_
    refine V.rz dX3_goesOn_27 rfl (by decide) ?_
    exact ⟨am_s0 (fun z => z.1 c1), rfl, rfl⟩
  · refine V.aload_n (j := 0) rfl dX3_goesOn_11 ?_
    refine V.getr (q := 31) dX3_goesOn_12 fX3_9 rfl rfl ?_
    refine V.iload_n (j := 1) rfl dX3_goesOn_15 ?_
    refine V.lda (v := A 31 i) dX3_goesOn_16 rfl (by omega) (by decide) rfl ?_
    refine V.bipush (v := nI 10) (by decide) dX3_goesOn_17 ?_
    refine V.icmp_eq (tgt := 26) dX3_goesOn_19 (by decide) (fun c2 => ?_) (fun c2 => ?_)
    · refine V.iconst (v := nI 0) (by decide) dX3_goesOn_26 ?_
      refine V.rz dX3_goesOn_27 rfl (by decide) ?_
      exact ⟨am_s0 (fun z => z.2 c2), rfl, rfl⟩
    · refine V.iconst (v := nI 1) (by decide) dX3_goesOn_22 ?_
      refine V.goto (tgt := 27) dX3_goesOn_23 (by decide) ?_
      refine V.rz dX3_goesOn_27 rfl (by decide) ?_
      exact ⟨am_s1 ⟨c1, c2⟩, rfl, rfl⟩
set_option maxRecDepth 100000 in
set_option maxHeartbeats 4000000 in
theorem cd_aim30 {G : am_G} (I A : Nat → Nat → Int32) (i : Nat) (hi : i < 240) (t : Int32) : Cm G MX3_aim 0 0 [.ref 30, .int (nI i), .int t] I A (fun r I' A' => r = none ∧ I = I' ∧ (if A 31 i = nI 7 then upA A 34 (upd (A 34) i t) else if A 31 i = nI 8 then upA A 32 (upd (A 32) i t) else A) = A') := by
  refine Cm.of (by decide) (Nat.le_of_ble_eq_true rfl) rfl ?_
  show V G MX3_aim (am_R 0 0 0 0) _ 0 0 0 [(0, .ref 30), (1, .int (nI i)), (2, .int t)] [] (hp I A)
  refine V.aload_n (j := 0) rfl dX3_aim_0 ?_
  refine V.getr (q := 31) dX3_aim_1 fX3_9 rfl rfl ?_
  refine V.iload_n (j := 1) rfl dX3_aim_4 ?_
  refine V.lda (v := A 31 i) dX3_aim_5 rfl (by omega) (by decide) rfl ?_
  refine V.bipush (v := nI 7) (by decide) dX3_aim_6 ?_
  refine V.icmp_ne (tgt := 21) dX3_aim_8 (by decide) (fun c1 => ?_) (fun c1 => ?_)
  · refine V.aload_n (j := 0) rfl dX3_aim_21 ?_
    refine V.getr (q := 31) dX3_aim_22 fX3_9 rfl rfl ?_
    refine V.iload_n (j := 1) rfl dX3_aim_25 ?_
    refine V.lda (v := A 31 i) dX3_aim_26 rfl (by omega) (by decide) rfl ?_
    refine V.bipush (v := nI 8) (by decide) dX3_aim_27 ?_
    refine V.icmp_ne (tgt := 39) dX3_aim_29 (by decide) (fun c2 => ?_) (fun c2 => ?_)
    · refine V.rv dX3_aim_39 rfl ?_
      exact ⟨rfl, rfl, by rw [if_neg c1, if_neg c2]⟩
    · refine V.aload_n (j := 0) rfl dX3_aim_32 ?_
      refine V.getr (q := 32) dX3_aim_33 fX3_15 rfl rfl ?_
      refine V.iload_n (j := 1) rfl dX3_aim_36 ?_
      refine V.iload_n (j := 2) rfl dX3_aim_37 ?_
      refine V.sta (g := upd (A 32) i (t)) dX3_aim_38 rfl (by omega) (by decide) rfl ?_
      refine V.rv dX3_aim_39 rfl ?_
      exact ⟨rfl, rfl, by rw [if_neg c1, if_pos c2]⟩
  · refine V.aload_n (j := 0) rfl dX3_aim_11 ?_
    refine V.getr (q := 34) dX3_aim_12 fX3_21 rfl rfl ?_
    refine V.iload_n (j := 1) rfl dX3_aim_15 ?_
    refine V.iload_n (j := 2) rfl dX3_aim_16 ?_
    refine V.sta (g := upd (A 34) i (t)) dX3_aim_17 rfl (by omega) (by decide) rfl ?_
    refine V.goto (tgt := 39) dX3_aim_18 (by decide) ?_
    refine V.rv dX3_aim_39 rfl ?_
    exact ⟨rfl, rfl, by rw [if_pos c1]⟩
