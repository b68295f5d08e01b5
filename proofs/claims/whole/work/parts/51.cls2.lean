def cz_nm : Nat → Int32
  | 0 => nI 1
  | 1 => nI 3
  | 2 => nI 7
  | 3 => nI 7
  | 4 => nI 7
  | 5 => nI 3
  | 6 => nI 3
  | 7 => nI 3
  | 8 => nI 0
  | 9 => nI 1
  | 10 => nI 0
  | _ => nI 0
def cz_tk : Nat → Int32
  | 0 => nI 0
  | 1 => nI 2
  | 2 => nI 6
  | 3 => nI 6
  | 4 => nI 6
  | 5 => nI 2
  | 6 => nI 3
  | 7 => nI 3
  | 8 => nI 0
  | 9 => nI 1
  | 10 => nI 0
  | _ => nI 0
/-- the static rows: NAMED, TAKEN -/
def am_sta (G : am_G) : Prop := (gL G 0).2.1 = 11 ∧ (gL G 1).2.1 = 11 ∧ (∀ j, j < 11 → (gL G 0).2.2 j = cz_nm j) ∧ ∀ j, j < 11 → (gL G 1).2.2 j = cz_tk j
set_option maxRecDepth 100000 in
set_option maxHeartbeats 4000000 in
theorem cd_isV {G : am_G} (I A : Nat → Nat → Int32) (nv : Nat) (hn : I 1 6 = nI nv) (hnv : nv ≤ 24) (v : Int32) : Cm G MX5_isValue 0 0 [.ref 1, .int v] I A (fun r I' A' => r = some (.int (bI (mz_isV (nI nv) v))) ∧ I = I' ∧ A = A') := by
  refine Cm.of (by decide) (Nat.le_of_ble_eq_true rfl) rfl ?_
  show V G MX5_isValue (am_R 0 0 0 0) _ 0 0 0 [(0, .ref 1), (1, .int v)] [] (hp I A)
  refine V.iload_n (j := 1) rfl dX5_isValue_0 ?_
  refine V.if_lt (tgt := 16) dX5_isValue_1 (by decide) (fun c1 => ?_) (fun c1 => ?_)
  · refine V.iconst (v := nI 0) (by decide) dX5_isValue_16 ?_
    refine V.rz dX5_isValue_17 rfl (by decide) ?_
    exact ⟨am_s0 (fun z => z.1 c1), rfl, rfl⟩
  · refine V.iload_n (j := 1) rfl dX5_isValue_4 ?_
    refine V.aload_n (j := 0) rfl dX5_isValue_5 ?_
    refine V.geti (v := nI nv) dX5_isValue_6 fX5_36 rfl rfl hn ?_
    refine V.icmp_ge (tgt := 16) dX5_isValue_9 (by decide) (fun c2 => ?_) (fun c2 => ?_)
    · refine V.iconst (v := nI 0) (by decide) dX5_isValue_16 ?_
      refine V.rz dX5_isValue_17 rfl (by decide) ?_
      exact ⟨am_s0 (fun z => z.2 c2), rfl, rfl⟩
    · refine V.iconst (v := nI 1) (by decide) dX5_isValue_12 ?_
      refine V.goto (tgt := 17) dX5_isValue_13 (by decide) ?_
      refine V.rz dX5_isValue_17 rfl (by decide) ?_
      exact ⟨am_s1 ⟨c1, c2⟩, rfl, rfl⟩
def cz_nx (c : Int32) : Prop := ¬ c < 0 ∧ ¬ nI 60 < c
set_option maxRecDepth 100000 in
set_option maxHeartbeats 4000000 in
theorem cd_next {G : am_G} (I A : Nat → Nat → Int32) (c : Int32) : Cm G MX5_mayComeNext 0 0 [.int c] I A (fun r I' A' => r = some (.int (bI (cz_nx c))) ∧ I = I' ∧ A = A') := by
  refine Cm.of (by decide) (Nat.le_of_ble_eq_true rfl) rfl ?_
  show V G MX5_mayComeNext (am_R 0 0 0 0) _ 0 0 0 [(0, .int c)] [] (hp I A)
  refine V.iload_n (j := 0) rfl dX5_mayComeNext_0 ?_
  refine V.if_lt (tgt := 14) dX5_mayComeNext_1 (by decide) (fun c1 => ?_) (fun c1 => ?_)
  · refine V.iconst (v := nI 0) (by decide) dX5_mayComeNext_14 ?_
    refine V.rz dX5_mayComeNext_15 rfl (by decide) ?_
    exact ⟨am_s0 (fun z => z.1 c1), rfl, rfl⟩
  · refine V.iload_n (j := 0) rfl dX5_mayComeNext_4 ?_
    refine V.bipush (v := nI 60) (by decide) dX5_mayComeNext_5 ?_
    refine V.icmp_gt (tgt := 14) dX5_mayComeNext_7 (by decide) (fun c2 => ?_) (fun c2 => ?_)
    · refine V.iconst (v := nI 0) (by decide) dX5_mayComeNext_14 ?_
      refine V.rz dX5_mayComeNext_15 rfl (by decide) ?_
      exact ⟨am_s0 (fun z => z.2 c2), rfl, rfl⟩
    · refine V.iconst (v := nI 1) (by decide) dX5_mayComeNext_10 ?_
      refine V.goto (tgt := 15) dX5_mayComeNext_11 (by decide) ?_
      refine V.rz dX5_mayComeNext_15 rfl (by decide) ?_
      exact ⟨am_s1 ⟨c1, c2⟩, rfl, rfl⟩
set_option maxRecDepth 100000 in
set_option maxHeartbeats 4000000 in
theorem cd_names0 {G : am_G} (I A : Nat → Nat → Int32) (nv : Nat) (hn : I 1 6 = nI nv) (hnv : nv ≤ 24) (a b c : Int32) : Cm G MX5_namesValues 1 21 [.ref 1, .int (nI 0), .int a, .int b, .int c] I A (fun r I' A' => r = some (.int (bI (True))) ∧ I = I' ∧ A = A') := by
  refine Cm.of (by decide) (Nat.le_of_ble_eq_true rfl) rfl ?_
  show V G MX5_namesValues (am_R 1 21 0 0) _ 0 0 0 [(0, .ref 1), (1, .int (nI 0)), (2, .int a), (3, .int b), (4, .int c)] [] (hp I A)
  refine V.iload_n (j := 1) rfl dX5_namesValues_0 ?_
  refine V.iconst (v := nI 0) (by decide) dX5_namesValues_1 ?_
  refine V.cSN (As := [.int (nI 0), .int (nI 0)]) (st := []) dX5_namesValues_2 sX5_58 zX7_has (cd_has I A _ 0 (by omega)) ⟨by decide, by decide⟩ (Nat.le_of_ble_eq_true rfl) rfl (fun r I' A' hq => ?_)
  obtain ⟨rfl, rfl, rfl⟩ := hq
  refine V.st (st' := [.int (nI 0)]) (by rw [bI_f (by decide)]; rfl) ?_
  refine V.if_eq (tgt := 16) dX5_namesValues_5 (by decide) (fun _ => ?_) (fun z => absurd z (by decide))
  refine V.iload_n (j := 1) rfl dX5_namesValues_16 ?_
  refine V.iconst (v := nI 1) (by decide) dX5_namesValues_17 ?_
  refine V.cSN (As := [.int (nI 0), .int (nI 1)]) (st := []) dX5_namesValues_18 sX5_58 zX7_has (cd_has I A _ 1 (by omega)) ⟨by decide, by decide⟩ (Nat.le_of_ble_eq_true rfl) rfl (fun r I' A' hq => ?_)
  obtain ⟨rfl, rfl, rfl⟩ := hq
  refine V.st (st' := [.int (nI 0)]) (by rw [bI_f (by decide)]; rfl) ?_
  refine V.if_eq (tgt := 32) dX5_namesValues_21 (by decide) (fun _ => ?_) (fun z => absurd z (by decide))
  refine V.iload_n (j := 1) rfl dX5_namesValues_32 ?_
  refine V.iconst (v := nI 2) (by decide) dX5_namesValues_33 ?_
  refine V.cSN (As := [.int (nI 0), .int (nI 2)]) (st := []) dX5_namesValues_34 sX5_58 zX7_has (cd_has I A _ 2 (by omega)) ⟨by decide, by decide⟩ (Nat.le_of_ble_eq_true rfl) rfl (fun r I' A' hq => ?_)
  obtain ⟨rfl, rfl, rfl⟩ := hq
  refine V.st (st' := [.int (nI 0)]) (by rw [bI_f (by decide)]; rfl) ?_
  refine V.if_eq (tgt := 49) dX5_namesValues_37 (by decide) (fun _ => ?_) (fun z => absurd z (by decide))
  refine V.iconst (v := nI 1) (by decide) dX5_namesValues_49 ?_
  refine V.goto (tgt := 54) dX5_namesValues_50 (by decide) ?_
  refine V.rz dX5_namesValues_54 rfl (by decide) ?_
  exact ⟨am_s1 trivial, rfl, rfl⟩
set_option maxRecDepth 100000 in
set_option maxHeartbeats 4000000 in
theorem cd_names1 {G : am_G} (I A : Nat → Nat → Int32) (nv : Nat) (hn : I 1 6 = nI nv) (hnv : nv ≤ 24) (a b c : Int32) : Cm G MX5_namesValues 1 21 [.ref 1, .int (nI 1), .int a, .int b, .int c] I A (fun r I' A' => r = some (.int (bI (mz_isV (nI nv) a))) ∧ I = I' ∧ A = A') := by
  refine Cm.of (by decide) (Nat.le_of_ble_eq_true rfl) rfl ?_
  show V G MX5_namesValues (am_R 1 21 0 0) _ 0 0 0 [(0, .ref 1), (1, .int (nI 1)), (2, .int a), (3, .int b), (4, .int c)] [] (hp I A)
  refine V.iload_n (j := 1) rfl dX5_namesValues_0 ?_
  refine V.iconst (v := nI 0) (by decide) dX5_namesValues_1 ?_
  refine V.cSN (As := [.int (nI 1), .int (nI 0)]) (st := []) dX5_namesValues_2 sX5_58 zX7_has (cd_has I A _ 0 (by omega)) ⟨by decide, by decide⟩ (Nat.le_of_ble_eq_true rfl) rfl (fun r I' A' hq => ?_)
  obtain ⟨rfl, rfl, rfl⟩ := hq
  refine V.st (st' := [.int (nI 1)]) (by rw [bI_t (by decide)]; rfl) ?_
  refine V.if_eq (tgt := 16) dX5_namesValues_5 (by decide) (fun z => absurd z (by decide)) (fun _ => ?_)
  refine V.aload_n (j := 0) rfl dX5_namesValues_8 ?_
  refine V.iload_n (j := 2) rfl dX5_namesValues_9 ?_
  refine V.cV (As := [.int a]) (st := []) dX5_namesValues_10 sX5_62 iX5_isValue lX5_isValue rfl rfl (cd_isV I A nv hn hnv _) ⟨by decide, by decide⟩ (Nat.le_of_ble_eq_true rfl) rfl (fun r I' A' hq => ?_)
  obtain ⟨rfl, rfl, rfl⟩ := hq
  by_cases b2 : mz_isV (nI nv) a
  · refine V.st (st' := [.int (nI 1)]) (by rw [bI_t b2]; rfl) ?_
    refine V.if_eq (tgt := 53) dX5_namesValues_13 (by decide) (fun z => absurd z (by decide)) (fun _ => ?_)
    refine V.iload_n (j := 1) rfl dX5_namesValues_16 ?_
    refine V.iconst (v := nI 1) (by decide) dX5_namesValues_17 ?_
    refine V.cSN (As := [.int (nI 1), .int (nI 1)]) (st := []) dX5_namesValues_18 sX5_58 zX7_has (cd_has I A _ 1 (by omega)) ⟨by decide, by decide⟩ (Nat.le_of_ble_eq_true rfl) rfl (fun r I' A' hq => ?_)
    obtain ⟨rfl, rfl, rfl⟩ := hq
    refine V.st (st' := [.int (nI 0)]) (by rw [bI_f (by decide)]; rfl) ?_
    refine V.if_eq (tgt := 32) dX5_namesValues_21 (by decide) (fun _ => ?_) (fun z => absurd z (by decide))
    refine V.iload_n (j := 1) rfl dX5_namesValues_32 ?_
    refine V.iconst (v := nI 2) (by decide) dX5_namesValues_33 ?_
    refine V.cSN (As := [.int (nI 1), .int (nI 2)]) (st := []) dX5_namesValues_34 sX5_58 zX7_has (cd_has I A _ 2 (by omega)) ⟨by decide, by decide⟩ (Nat.le_of_ble_eq_true rfl) rfl (fun r I' A' hq => ?_)
    obtain ⟨rfl, rfl, rfl⟩ := hq
    refine V.st (st' := [.int (nI 0)]) (by rw [bI_f (by decide)]; rfl) ?_
    refine V.if_eq (tgt := 49) dX5_namesValues_37 (by decide) (fun _ => ?_) (fun z => absurd z (by decide))
    refine V.iconst (v := nI 1) (by decide) dX5_namesValues_49 ?_
    refine V.goto (tgt := 54) dX5_namesValues_50 (by decide) ?_
    refine V.rz dX5_namesValues_54 rfl (by decide) ?_
    exact ⟨am_s1 b2, rfl, rfl⟩
  · refine V.st (st' := [.int (nI 0)]) (by rw [bI_f b2]; rfl) ?_
    refine V.if_eq (tgt := 53) dX5_namesValues_13 (by decide) (fun _ => ?_) (fun z => absurd z (by decide))
    refine V.iconst (v := nI 0) (by decide) dX5_namesValues_53 ?_
    refine V.rz dX5_namesValues_54 rfl (by decide) ?_
    exact ⟨am_s0 (fun z => b2 z), rfl, rfl⟩
set_option maxRecDepth 100000 in
set_option maxHeartbeats 4000000 in
theorem cd_names3 {G : am_G} (I A : Nat → Nat → Int32) (nv : Nat) (hn : I 1 6 = nI nv) (hnv : nv ≤ 24) (a b c : Int32) : Cm G MX5_namesValues 1 21 [.ref 1, .int (nI 3), .int a, .int b, .int c] I A (fun r I' A' => r = some (.int (bI (mz_isV (nI nv) a ∧ mz_isV (nI nv) b))) ∧ I = I' ∧ A = A') := by
  refine Cm.of (by decide) (Nat.le_of_ble_eq_true rfl) rfl ?_
  show V G MX5_namesValues (am_R 1 21 0 0) _ 0 0 0 [(0, .ref 1), (1, .int (nI 3)), (2, .int a), (3, .int b), (4, .int c)] [] (hp I A)
  refine V.iload_n (j := 1) rfl dX5_namesValues_0 ?_
  refine V.iconst (v := nI 0) (by decide) dX5_namesValues_1 ?_
  refine V.cSN (As := [.int (nI 3), .int (nI 0)]) (st := []) dX5_namesValues_2 sX5_58 zX7_has (cd_has I A _ 0 (by omega)) ⟨by decide, by decide⟩ (Nat.le_of_ble_eq_true rfl) rfl (fun r I' A' hq => ?_)
  obtain ⟨rfl, rfl, rfl⟩ := hq
  refine V.st (st' := [.int (nI 1)]) (by rw [bI_t (by decide)]; rfl) ?_
  refine V.if_eq (tgt := 16) dX5_namesValues_5 (by decide) (fun z => absurd z (by decide)) (fun _ => ?_)
  refine V.aload_n (j := 0) rfl dX5_namesValues_8 ?_
  refine V.iload_n (j := 2) rfl dX5_namesValues_9 ?_
  refine V.cV (As := [.int a]) (st := []) dX5_namesValues_10 sX5_62 iX5_isValue lX5_isValue rfl rfl (cd_isV I A nv hn hnv _) ⟨by decide, by decide⟩ (Nat.le_of_ble_eq_true rfl) rfl (fun r I' A' hq => ?_)
  obtain ⟨rfl, rfl, rfl⟩ := hq
  by_cases b2 : mz_isV (nI nv) a
  · refine V.st (st' := [.int (nI 1)]) (by rw [bI_t b2]; rfl) ?_
    refine V.if_eq (tgt := 53) dX5_namesValues_13 (by decide) (fun z => absurd z (by decide)) (fun _ => ?_)
    refine V.iload_n (j := 1) rfl dX5_namesValues_16 ?_
    refine V.iconst (v := nI 1) (by decide) dX5_namesValues_17 ?_
    refine V.cSN (As := [.int (nI 3), .int (nI 1)]) (st := []) dX5_namesValues_18 sX5_58 zX7_has (cd_has I A _ 1 (by omega)) ⟨by decide, by decide⟩ (Nat.le_of_ble_eq_true rfl) rfl (fun r I' A' hq => ?_)
    obtain ⟨rfl, rfl, rfl⟩ := hq
    refine V.st (st' := [.int (nI 1)]) (by rw [bI_t (by decide)]; rfl) ?_
    refine V.if_eq (tgt := 32) dX5_namesValues_21 (by decide) (fun z => absurd z (by decide)) (fun _ => ?_)
    refine V.aload_n (j := 0) rfl dX5_namesValues_24 ?_
    refine V.iload_n (j := 3) rfl dX5_namesValues_25 ?_
    refine V.cV (As := [.int b]) (st := []) dX5_namesValues_26 sX5_62 iX5_isValue lX5_isValue rfl rfl (cd_isV I A nv hn hnv _) ⟨by decide, by decide⟩ (Nat.le_of_ble_eq_true rfl) rfl (fun r I' A' hq => ?_)
    obtain ⟨rfl, rfl, rfl⟩ := hq
    by_cases b5 : mz_isV (nI nv) b
    · refine V.st (st' := [.int (nI 1)]) (by rw [bI_t b5]; rfl) ?_
      refine V.if_eq (tgt := 53) dX5_namesValues_29 (by decide) (fun z => absurd z (by decide)) (fun _ => ?_)
      refine V.iload_n (j := 1) rfl dX5_namesValues_32 ?_
      refine V.iconst (v := nI 2) (by decide) dX5_namesValues_33 ?_
      refine V.cSN (As := [.int (nI 3), .int (nI 2)]) (st := []) dX5_namesValues_34 sX5_58 zX7_has (cd_has I A _ 2 (by omega)) ⟨by decide, by decide⟩ (Nat.le_of_ble_eq_true rfl) rfl (fun r I' A' hq => ?_)
      obtain ⟨rfl, rfl, rfl⟩ := hq
      refine V.st (st' := [.int (nI 0)]) (by rw [bI_f (by decide)]; rfl) ?_
      refine V.if_eq (tgt := 49) dX5_namesValues_37 (by decide) (fun _ => ?_) (fun z => absurd z (by decide))
      refine V.iconst (v := nI 1) (by decide) dX5_namesValues_49 ?_
      refine V.goto (tgt := 54) dX5_namesValues_50 (by decide) ?_
      refine V.rz dX5_namesValues_54 rfl (by decide) ?_
      exact ⟨am_s1 ⟨b2, b5⟩, rfl, rfl⟩
    · refine V.st (st' := [.int (nI 0)]) (by rw [bI_f b5]; rfl) ?_
      refine V.if_eq (tgt := 53) dX5_namesValues_29 (by decide) (fun _ => ?_) (fun z => absurd z (by decide))
      refine V.iconst (v := nI 0) (by decide) dX5_namesValues_53 ?_
      refine V.rz dX5_namesValues_54 rfl (by decide) ?_
      exact ⟨am_s0 (fun z => b5 z.2), rfl, rfl⟩
  · refine V.st (st' := [.int (nI 0)]) (by rw [bI_f b2]; rfl) ?_
    refine V.if_eq (tgt := 53) dX5_namesValues_13 (by decide) (fun _ => ?_) (fun z => absurd z (by decide))
    refine V.iconst (v := nI 0) (by decide) dX5_namesValues_53 ?_
    refine V.rz dX5_namesValues_54 rfl (by decide) ?_
    exact ⟨am_s0 (fun z => b2 z.1), rfl, rfl⟩
set_option maxRecDepth 100000 in
set_option maxHeartbeats 4000000 in
theorem cd_names7 {G : am_G} (I A : Nat → Nat → Int32) (nv : Nat) (hn : I 1 6 = nI nv) (hnv : nv ≤ 24) (a b c : Int32) : Cm G MX5_namesValues 1 21 [.ref 1, .int (nI 7), .int a, .int b, .int c] I A (fun r I' A' => r = some (.int (bI (mz_isV (nI nv) a ∧ mz_isV (nI nv) b ∧ mz_isV (nI nv) c))) ∧ I = I' ∧ A = A') := by
  refine Cm.of (by decide) (Nat.le_of_ble_eq_true rfl) rfl ?_
  show V G MX5_namesValues (am_R 1 21 0 0) _ 0 0 0 [(0, .ref 1), (1, .int (nI 7)), (2, .int a), (3, .int b), (4, .int c)] [] (hp I A)
  refine V.iload_n (j := 1) rfl dX5_namesValues_0 ?_
  refine V.iconst (v := nI 0) (by decide) dX5_namesValues_1 ?_
  refine V.cSN (As := [.int (nI 7), .int (nI 0)]) (st := []) dX5_namesValues_2 sX5_58 zX7_has (cd_has I A _ 0 (by omega)) ⟨by decide, by decide⟩ (Nat.le_of_ble_eq_true rfl) rfl (fun r I' A' hq => ?_)
  obtain ⟨rfl, rfl, rfl⟩ := hq
  refine V.st (st' := [.int (nI 1)]) (by rw [bI_t (by decide)]; rfl) ?_
  refine V.if_eq (tgt := 16) dX5_namesValues_5 (by decide) (fun z => absurd z (by decide)) (fun _ => ?_)
  refine V.aload_n (j := 0) rfl dX5_namesValues_8 ?_
  refine V.iload_n (j := 2) rfl dX5_namesValues_9 ?_
  refine V.cV (As := [.int a]) (st := []) dX5_namesValues_10 sX5_62 iX5_isValue lX5_isValue rfl rfl (cd_isV I A nv hn hnv _) ⟨by decide, by decide⟩ (Nat.le_of_ble_eq_true rfl) rfl (fun r I' A' hq => ?_)
  obtain ⟨rfl, rfl, rfl⟩ := hq
  by_cases b2 : mz_isV (nI nv) a
  · refine V.st (st' := [.int (nI 1)]) (by rw [bI_t b2]; rfl) ?_
    refine V.if_eq (tgt := 53) dX5_namesValues_13 (by decide) (fun z => absurd z (by decide)) (fun _ => ?_)
    refine V.iload_n (j := 1) rfl dX5_namesValues_16 ?_
    refine V.iconst (v := nI 1) (by decide) dX5_namesValues_17 ?_
    refine V.cSN (As := [.int (nI 7), .int (nI 1)]) (st := []) dX5_namesValues_18 sX5_58 zX7_has (cd_has I A _ 1 (by omega)) ⟨by decide, by decide⟩ (Nat.le_of_ble_eq_true rfl) rfl (fun r I' A' hq => ?_)
    obtain ⟨rfl, rfl, rfl⟩ := hq
    refine V.st (st' := [.int (nI 1)]) (by rw [bI_t (by decide)]; rfl) ?_
    refine V.if_eq (tgt := 32) dX5_namesValues_21 (by decide) (fun z => absurd z (by decide)) (fun _ => ?_)
    refine V.aload_n (j := 0) rfl dX5_namesValues_24 ?_
    refine V.iload_n (j := 3) rfl dX5_namesValues_25 ?_
    refine V.cV (As := [.int b]) (st := []) dX5_namesValues_26 sX5_62 iX5_isValue lX5_isValue rfl rfl (cd_isV I A nv hn hnv _) ⟨by decide, by decide⟩ (Nat.le_of_ble_eq_true rfl) rfl (fun r I' A' hq => ?_)
    obtain ⟨rfl, rfl, rfl⟩ := hq
    by_cases b5 : mz_isV (nI nv) b
    · refine V.st (st' := [.int (nI 1)]) (by rw [bI_t b5]; rfl) ?_
      refine V.if_eq (tgt := 53) dX5_namesValues_29 (by decide) (fun z => absurd z (by decide)) (fun _ => ?_)
      refine V.iload_n (j := 1) rfl dX5_namesValues_32 ?_
      refine V.iconst (v := nI 2) (by decide) dX5_namesValues_33 ?_
      refine V.cSN (As := [.int (nI 7), .int (nI 2)]) (st := []) dX5_namesValues_34 sX5_58 zX7_has (cd_has I A _ 2 (by omega)) ⟨by decide, by decide⟩ (Nat.le_of_ble_eq_true rfl) rfl (fun r I' A' hq => ?_)
      obtain ⟨rfl, rfl, rfl⟩ := hq
      refine V.st (st' := [.int (nI 1)]) (by rw [bI_t (by decide)]; rfl) ?_
      refine V.if_eq (tgt := 49) dX5_namesValues_37 (by decide) (fun z => absurd z (by decide)) (fun _ => ?_)
      refine V.aload_n (j := 0) rfl dX5_namesValues_40 ?_
      refine V.iload (j := 4) rfl dX5_namesValues_41 ?_
      refine V.cV (As := [.int c]) (st := []) dX5_namesValues_43 sX5_62 iX5_isValue lX5_isValue rfl rfl (cd_isV I A nv hn hnv _) ⟨by decide, by decide⟩ (Nat.le_of_ble_eq_true rfl) rfl (fun r I' A' hq => ?_)
      obtain ⟨rfl, rfl, rfl⟩ := hq
      by_cases b8 : mz_isV (nI nv) c
      · refine V.st (st' := [.int (nI 1)]) (by rw [bI_t b8]; rfl) ?_
        refine V.if_eq (tgt := 53) dX5_namesValues_46 (by decide) (fun z => absurd z (by decide)) (fun _ => ?_)
        refine V.iconst (v := nI 1) (by decide) dX5_namesValues_49 ?_
        refine V.goto (tgt := 54) dX5_namesValues_50 (by decide) ?_
        refine V.rz dX5_namesValues_54 rfl (by decide) ?_
        exact ⟨am_s1 ⟨b2, b5, b8⟩, rfl, rfl⟩
      · refine V.st (st' := [.int (nI 0)]) (by rw [bI_f b8]; rfl) ?_
        refine V.if_eq (tgt := 53) dX5_namesValues_46 (by decide) (fun _ => ?_) (fun z => absurd z (by decide))
        refine V.iconst (v := nI 0) (by decide) dX5_namesValues_53 ?_
        refine V.rz dX5_namesValues_54 rfl (by decide) ?_
        exact ⟨am_s0 (fun z => b8 z.2.2), rfl, rfl⟩
    · refine V.st (st' := [.int (nI 0)]) (by rw [bI_f b5]; rfl) ?_
      refine V.if_eq (tgt := 53) dX5_namesValues_29 (by decide) (fun _ => ?_) (fun z => absurd z (by decide))
      refine V.iconst (v := nI 0) (by decide) dX5_namesValues_53 ?_
      refine V.rz dX5_namesValues_54 rfl (by decide) ?_
      exact ⟨am_s0 (fun z => b5 z.2.1), rfl, rfl⟩
  · refine V.st (st' := [.int (nI 0)]) (by rw [bI_f b2]; rfl) ?_
    refine V.if_eq (tgt := 53) dX5_namesValues_13 (by decide) (fun _ => ?_) (fun z => absurd z (by decide))
    refine V.iconst (v := nI 0) (by decide) dX5_namesValues_53 ?_
    refine V.rz dX5_namesValues_54 rfl (by decide) ?_
    exact ⟨am_s0 (fun z => b2 z.1), rfl, rfl⟩
theorem mz_may0 {nv : Nat} {cl : Nat → Int32} {a b c : Int32} : mz_may nv cl (nI 0) a b c ↔ (mz_isV (nI nv) a) := by
  unfold mz_may
  simp only [eq_false (show ¬ nI 0 = nI 1 by decide), eq_false (show ¬ nI 0 = nI 2 by decide), eq_false (show ¬ nI 0 = nI 3 by decide), eq_false (show ¬ nI 0 = nI 4 by decide), eq_false (show ¬ nI 0 = nI 5 by decide), eq_false (show ¬ nI 0 = nI 6 by decide), eq_false (show ¬ nI 0 = nI 7 by decide), eq_false (show ¬ nI 0 = nI 8 by decide), eq_false (show ¬ nI 0 = nI 9 by decide), eq_false (show ¬ nI 0 = nI 10 by decide), false_and, false_or, or_false, true_and, eq_self, or_true, true_or]
theorem mz_may1 {nv : Nat} {cl : Nat → Int32} {a b c : Int32} : mz_may nv cl (nI 1) a b c ↔ (mz_isV (nI nv) a ∧ mz_isV (nI nv) b) := by
  unfold mz_may
  simp only [eq_false (show ¬ nI 1 = nI 0 by decide), eq_false (show ¬ nI 1 = nI 2 by decide), eq_false (show ¬ nI 1 = nI 3 by decide), eq_false (show ¬ nI 1 = nI 4 by decide), eq_false (show ¬ nI 1 = nI 5 by decide), eq_false (show ¬ nI 1 = nI 6 by decide), eq_false (show ¬ nI 1 = nI 7 by decide), eq_false (show ¬ nI 1 = nI 8 by decide), eq_false (show ¬ nI 1 = nI 9 by decide), eq_false (show ¬ nI 1 = nI 10 by decide), false_and, false_or, or_false, true_and, eq_self, or_true, true_or]
theorem mz_may2 {nv : Nat} {cl : Nat → Int32} {a b c : Int32} : mz_may nv cl (nI 2) a b c ↔ (mz_isV (nI nv) a ∧ mz_isV (nI nv) b ∧ mz_isV (nI nv) c) := by
  unfold mz_may
  simp only [eq_false (show ¬ nI 2 = nI 0 by decide), eq_false (show ¬ nI 2 = nI 1 by decide), eq_false (show ¬ nI 2 = nI 3 by decide), eq_false (show ¬ nI 2 = nI 4 by decide), eq_false (show ¬ nI 2 = nI 5 by decide), eq_false (show ¬ nI 2 = nI 6 by decide), eq_false (show ¬ nI 2 = nI 7 by decide), eq_false (show ¬ nI 2 = nI 8 by decide), eq_false (show ¬ nI 2 = nI 9 by decide), eq_false (show ¬ nI 2 = nI 10 by decide), false_and, false_or, or_false, true_and, eq_self, or_true, true_or]
theorem mz_may3 {nv : Nat} {cl : Nat → Int32} {a b c : Int32} : mz_may nv cl (nI 3) a b c ↔ (mz_isV (nI nv) a ∧ mz_isV (nI nv) b ∧ mz_isV (nI nv) c) := by
  unfold mz_may
  simp only [eq_false (show ¬ nI 3 = nI 0 by decide), eq_false (show ¬ nI 3 = nI 1 by decide), eq_false (show ¬ nI 3 = nI 2 by decide), eq_false (show ¬ nI 3 = nI 4 by decide), eq_false (show ¬ nI 3 = nI 5 by decide), eq_false (show ¬ nI 3 = nI 6 by decide), eq_false (show ¬ nI 3 = nI 7 by decide), eq_false (show ¬ nI 3 = nI 8 by decide), eq_false (show ¬ nI 3 = nI 9 by decide), eq_false (show ¬ nI 3 = nI 10 by decide), false_and, false_or, or_false, true_and, eq_self, or_true, true_or]
theorem mz_may4 {nv : Nat} {cl : Nat → Int32} {a b c : Int32} : mz_may nv cl (nI 4) a b c ↔ (mz_isO nv cl a (nI 0) ∧ mz_isO nv cl b (nI 0) ∧ mz_isO nv cl c (nI 0)) := by
  unfold mz_may
  simp only [eq_false (show ¬ nI 4 = nI 0 by decide), eq_false (show ¬ nI 4 = nI 1 by decide), eq_false (show ¬ nI 4 = nI 2 by decide), eq_false (show ¬ nI 4 = nI 3 by decide), eq_false (show ¬ nI 4 = nI 5 by decide), eq_false (show ¬ nI 4 = nI 6 by decide), eq_false (show ¬ nI 4 = nI 7 by decide), eq_false (show ¬ nI 4 = nI 8 by decide), eq_false (show ¬ nI 4 = nI 9 by decide), eq_false (show ¬ nI 4 = nI 10 by decide), false_and, false_or, or_false, true_and, eq_self, or_true, true_or]
theorem mz_may5 {nv : Nat} {cl : Nat → Int32} {a b c : Int32} : mz_may nv cl (nI 5) a b c ↔ (mz_isV (nI nv) a ∧ mz_isO nv cl b (nI 1) ∧ ¬ c < 0 ∧ ¬ nI 64 ≤ c) := by
  unfold mz_may
  simp only [eq_false (show ¬ nI 5 = nI 0 by decide), eq_false (show ¬ nI 5 = nI 1 by decide), eq_false (show ¬ nI 5 = nI 2 by decide), eq_false (show ¬ nI 5 = nI 3 by decide), eq_false (show ¬ nI 5 = nI 4 by decide), eq_false (show ¬ nI 5 = nI 6 by decide), eq_false (show ¬ nI 5 = nI 7 by decide), eq_false (show ¬ nI 5 = nI 8 by decide), eq_false (show ¬ nI 5 = nI 9 by decide), eq_false (show ¬ nI 5 = nI 10 by decide), false_and, false_or, or_false, true_and, eq_self, or_true, true_or]
theorem mz_may6 {nv : Nat} {cl : Nat → Int32} {a b c : Int32} : mz_may nv cl (nI 6) a b c ↔ (mz_isV (nI nv) a ∧ mz_isO nv cl b (nI 1) ∧ ¬ c < 0 ∧ ¬ nI 64 ≤ c) := by
  unfold mz_may
  simp only [eq_false (show ¬ nI 6 = nI 0 by decide), eq_false (show ¬ nI 6 = nI 1 by decide), eq_false (show ¬ nI 6 = nI 2 by decide), eq_false (show ¬ nI 6 = nI 3 by decide), eq_false (show ¬ nI 6 = nI 4 by decide), eq_false (show ¬ nI 6 = nI 5 by decide), eq_false (show ¬ nI 6 = nI 7 by decide), eq_false (show ¬ nI 6 = nI 8 by decide), eq_false (show ¬ nI 6 = nI 9 by decide), eq_false (show ¬ nI 6 = nI 10 by decide), false_and, false_or, or_false, true_and, eq_self, or_true, true_or]
theorem mz_may7 {nv : Nat} {cl : Nat → Int32} {a b c : Int32} : mz_may nv cl (nI 7) a b c ↔ (mz_isV (nI nv) a ∧ mz_isV (nI nv) b ∧ ¬ c < 0 ∧ ¬ nI 60 < c) := by
  unfold mz_may
  simp only [eq_false (show ¬ nI 7 = nI 0 by decide), eq_false (show ¬ nI 7 = nI 1 by decide), eq_false (show ¬ nI 7 = nI 2 by decide), eq_false (show ¬ nI 7 = nI 3 by decide), eq_false (show ¬ nI 7 = nI 4 by decide), eq_false (show ¬ nI 7 = nI 5 by decide), eq_false (show ¬ nI 7 = nI 6 by decide), eq_false (show ¬ nI 7 = nI 8 by decide), eq_false (show ¬ nI 7 = nI 9 by decide), eq_false (show ¬ nI 7 = nI 10 by decide), false_and, false_or, or_false, true_and, eq_self, or_true, true_or]
theorem mz_may8 {nv : Nat} {cl : Nat → Int32} {a b c : Int32} : mz_may nv cl (nI 8) a b c ↔ (¬ a < 0 ∧ ¬ nI 60 < a) := by
  unfold mz_may
  simp only [eq_false (show ¬ nI 8 = nI 0 by decide), eq_false (show ¬ nI 8 = nI 1 by decide), eq_false (show ¬ nI 8 = nI 2 by decide), eq_false (show ¬ nI 8 = nI 3 by decide), eq_false (show ¬ nI 8 = nI 4 by decide), eq_false (show ¬ nI 8 = nI 5 by decide), eq_false (show ¬ nI 8 = nI 6 by decide), eq_false (show ¬ nI 8 = nI 7 by decide), eq_false (show ¬ nI 8 = nI 9 by decide), eq_false (show ¬ nI 8 = nI 10 by decide), false_and, false_or, or_false, true_and, eq_self, or_true, true_or]
theorem mz_may9 {nv : Nat} {cl : Nat → Int32} {a b c : Int32} : mz_may nv cl (nI 9) a b c ↔ (mz_isV (nI nv) a) := by
  unfold mz_may
  simp only [eq_false (show ¬ nI 9 = nI 0 by decide), eq_false (show ¬ nI 9 = nI 1 by decide), eq_false (show ¬ nI 9 = nI 2 by decide), eq_false (show ¬ nI 9 = nI 3 by decide), eq_false (show ¬ nI 9 = nI 4 by decide), eq_false (show ¬ nI 9 = nI 5 by decide), eq_false (show ¬ nI 9 = nI 6 by decide), eq_false (show ¬ nI 9 = nI 7 by decide), eq_false (show ¬ nI 9 = nI 8 by decide), eq_false (show ¬ nI 9 = nI 10 by decide), false_and, false_or, or_false, true_and, eq_self, or_true, true_or]
theorem mz_may10 {nv : Nat} {cl : Nat → Int32} {a b c : Int32} : mz_may nv cl (nI 10) a b c ↔ (True) := by
  unfold mz_may
  simp only [eq_false (show ¬ nI 10 = nI 0 by decide), eq_false (show ¬ nI 10 = nI 1 by decide), eq_false (show ¬ nI 10 = nI 2 by decide), eq_false (show ¬ nI 10 = nI 3 by decide), eq_false (show ¬ nI 10 = nI 4 by decide), eq_false (show ¬ nI 10 = nI 5 by decide), eq_false (show ¬ nI 10 = nI 6 by decide), eq_false (show ¬ nI 10 = nI 7 by decide), eq_false (show ¬ nI 10 = nI 8 by decide), eq_false (show ¬ nI 10 = nI 9 by decide), false_and, false_or, or_false, true_and, eq_self, or_true, true_or]
set_option maxRecDepth 100000 in
set_option maxHeartbeats 4000000 in
theorem cd_allows0 {G : am_G} (I A : Nat → Nat → Int32) (hst : am_sta G) (nv : Nat) (hn : I 1 6 = nI nv) (hnv : nv ≤ 24) (a b c : Int32) : Cm G MX5_allows 2 45 [.ref 1, .int (nI 0), .int a, .int b, .int c] I A (fun r I' A' => r = some (.int (bI (mz_may nv (A 2) (nI 0) a b c))) ∧ I = I' ∧ A = A') := by
  refine Cm.of (by decide) (Nat.le_of_ble_eq_true rfl) rfl ?_
  show V G MX5_allows (am_R 2 45 0 0) _ 0 0 0 [(0, .ref 1), (1, .int (nI 0)), (2, .int a), (3, .int b), (4, .int c)] [] (hp I A)
  refine V.iload_n (j := 1) rfl dX5_allows_0 ?_
  refine V.if_lt (tgt := 26) dX5_allows_1 (by decide) (fun z => absurd z (by decide)) (fun _ => ?_)
  refine V.iload_n (j := 1) rfl dX5_allows_4 ?_
  refine V.bipush (v := nI 10) (by decide) dX5_allows_5 ?_
  refine V.icmp_gt (tgt := 26) dX5_allows_7 (by decide) (fun z => absurd z (by decide)) (fun _ => ?_)
  refine V.aload_n (j := 0) rfl dX5_allows_10 ?_
  refine V.getsN (a := 0) dX5_allows_11 (by decide) gX5_44 ?_
  refine V.iload_n (j := 1) rfl dX5_allows_14 ?_
  refine V.ildL (v := nI 1) dX5_allows_15 (by decide) (by rw [hst.1]; exact vp_in_nI (by decide) (by decide)) (hst.2.2.1 _ (by decide)) ?_
  refine V.iload_n (j := 2) rfl dX5_allows_16 ?_
  refine V.iload_n (j := 3) rfl dX5_allows_17 ?_
  refine V.iload (j := 4) rfl dX5_allows_18 ?_
  refine V.cV (As := [.int (nI 1), .int a, .int b, .int c]) (st := []) dX5_allows_20 sX5_47 iX5_namesValues lX5_namesValues rfl rfl (cd_names1 I A nv hn hnv _ _ _) ⟨by decide, by decide⟩ (Nat.le_of_ble_eq_true rfl) rfl (fun r I' A' hq => ?_)
  obtain ⟨rfl, rfl, rfl⟩ := hq
  by_cases b3 : mz_isV (nI nv) a
  · refine V.st (st' := [.int (nI 1)]) (by rw [bI_t b3]; rfl) ?_
    refine V.if_ne (tgt := 28) dX5_allows_23 (by decide) (fun _ => ?_) (fun z => absurd z (by decide))
    refine V.iload_n (j := 1) rfl dX5_allows_28 ?_
    refine V.tableOut (tgt := 133) dX5_allows_29 (by decide) (by decide) ?_
    refine V.iconst (v := nI 1) (by decide) dX5_allows_133 ?_
    refine V.rz dX5_allows_134 rfl (by decide) ?_
    exact ⟨am_s1 (mz_may0.mpr b3), rfl, rfl⟩
  · refine V.st (st' := [.int (nI 0)]) (by rw [bI_f b3]; rfl) ?_
    refine V.if_ne (tgt := 28) dX5_allows_23 (by decide) (fun z => absurd z (by decide)) (fun _ => ?_)
    refine V.iconst (v := nI 0) (by decide) dX5_allows_26 ?_
    refine V.rz dX5_allows_27 rfl (by decide) ?_
    exact ⟨am_s0 (fun z => b3 (by have z := mz_may0.mp z; exact z)), rfl, rfl⟩
set_option maxRecDepth 100000 in
set_option maxHeartbeats 4000000 in
theorem cd_allows1 {G : am_G} (I A : Nat → Nat → Int32) (hst : am_sta G) (nv : Nat) (hn : I 1 6 = nI nv) (hnv : nv ≤ 24) (a b c : Int32) : Cm G MX5_allows 2 45 [.ref 1, .int (nI 1), .int a, .int b, .int c] I A (fun r I' A' => r = some (.int (bI (mz_may nv (A 2) (nI 1) a b c))) ∧ I = I' ∧ A = A') := by
  refine Cm.of (by decide) (Nat.le_of_ble_eq_true rfl) rfl ?_
  show V G MX5_allows (am_R 2 45 0 0) _ 0 0 0 [(0, .ref 1), (1, .int (nI 1)), (2, .int a), (3, .int b), (4, .int c)] [] (hp I A)
  refine V.iload_n (j := 1) rfl dX5_allows_0 ?_
  refine V.if_lt (tgt := 26) dX5_allows_1 (by decide) (fun z => absurd z (by decide)) (fun _ => ?_)
  refine V.iload_n (j := 1) rfl dX5_allows_4 ?_
  refine V.bipush (v := nI 10) (by decide) dX5_allows_5 ?_
  refine V.icmp_gt (tgt := 26) dX5_allows_7 (by decide) (fun z => absurd z (by decide)) (fun _ => ?_)
  refine V.aload_n (j := 0) rfl dX5_allows_10 ?_
  refine V.getsN (a := 0) dX5_allows_11 (by decide) gX5_44 ?_
  refine V.iload_n (j := 1) rfl dX5_allows_14 ?_
  refine V.ildL (v := nI 3) dX5_allows_15 (by decide) (by rw [hst.1]; exact vp_in_nI (by decide) (by decide)) (hst.2.2.1 _ (by decide)) ?_
  refine V.iload_n (j := 2) rfl dX5_allows_16 ?_
  refine V.iload_n (j := 3) rfl dX5_allows_17 ?_
  refine V.iload (j := 4) rfl dX5_allows_18 ?_
  refine V.cV (As := [.int (nI 3), .int a, .int b, .int c]) (st := []) dX5_allows_20 sX5_47 iX5_namesValues lX5_namesValues rfl rfl (cd_names3 I A nv hn hnv _ _ _) ⟨by decide, by decide⟩ (Nat.le_of_ble_eq_true rfl) rfl (fun r I' A' hq => ?_)
  obtain ⟨rfl, rfl, rfl⟩ := hq
  by_cases b3 : mz_isV (nI nv) a ∧ mz_isV (nI nv) b
  · refine V.st (st' := [.int (nI 1)]) (by rw [bI_t b3]; rfl) ?_
    refine V.if_ne (tgt := 28) dX5_allows_23 (by decide) (fun _ => ?_) (fun z => absurd z (by decide))
    refine V.iload_n (j := 1) rfl dX5_allows_28 ?_
    refine V.tableOut (tgt := 133) dX5_allows_29 (by decide) (by decide) ?_
    refine V.iconst (v := nI 1) (by decide) dX5_allows_133 ?_
    refine V.rz dX5_allows_134 rfl (by decide) ?_
    exact ⟨am_s1 (mz_may1.mpr b3), rfl, rfl⟩
  · refine V.st (st' := [.int (nI 0)]) (by rw [bI_f b3]; rfl) ?_
    refine V.if_ne (tgt := 28) dX5_allows_23 (by decide) (fun z => absurd z (by decide)) (fun _ => ?_)
    refine V.iconst (v := nI 0) (by decide) dX5_allows_26 ?_
    refine V.rz dX5_allows_27 rfl (by decide) ?_
    exact ⟨am_s0 (fun z => b3 (by have z := mz_may1.mp z; exact z)), rfl, rfl⟩
set_option maxRecDepth 100000 in
set_option maxHeartbeats 4000000 in
theorem cd_allows2 {G : am_G} (I A : Nat → Nat → Int32) (hst : am_sta G) (nv : Nat) (hn : I 1 6 = nI nv) (hnv : nv ≤ 24) (a b c : Int32) : Cm G MX5_allows 2 45 [.ref 1, .int (nI 2), .int a, .int b, .int c] I A (fun r I' A' => r = some (.int (bI (mz_may nv (A 2) (nI 2) a b c))) ∧ I = I' ∧ A = A') := by
  refine Cm.of (by decide) (Nat.le_of_ble_eq_true rfl) rfl ?_
  show V G MX5_allows (am_R 2 45 0 0) _ 0 0 0 [(0, .ref 1), (1, .int (nI 2)), (2, .int a), (3, .int b), (4, .int c)] [] (hp I A)
  refine V.iload_n (j := 1) rfl dX5_allows_0 ?_
  refine V.if_lt (tgt := 26) dX5_allows_1 (by decide) (fun z => absurd z (by decide)) (fun _ => ?_)
  refine V.iload_n (j := 1) rfl dX5_allows_4 ?_
  refine V.bipush (v := nI 10) (by decide) dX5_allows_5 ?_
  refine V.icmp_gt (tgt := 26) dX5_allows_7 (by decide) (fun z => absurd z (by decide)) (fun _ => ?_)
  refine V.aload_n (j := 0) rfl dX5_allows_10 ?_
  refine V.getsN (a := 0) dX5_allows_11 (by decide) gX5_44 ?_
  refine V.iload_n (j := 1) rfl dX5_allows_14 ?_
  refine V.ildL (v := nI 7) dX5_allows_15 (by decide) (by rw [hst.1]; exact vp_in_nI (by decide) (by decide)) (hst.2.2.1 _ (by decide)) ?_
  refine V.iload_n (j := 2) rfl dX5_allows_16 ?_
  refine V.iload_n (j := 3) rfl dX5_allows_17 ?_
  refine V.iload (j := 4) rfl dX5_allows_18 ?_
  refine V.cV (As := [.int (nI 7), .int a, .int b, .int c]) (st := []) dX5_allows_20 sX5_47 iX5_namesValues lX5_namesValues rfl rfl (cd_names7 I A nv hn hnv _ _ _) ⟨by decide, by decide⟩ (Nat.le_of_ble_eq_true rfl) rfl (fun r I' A' hq => ?_)
  obtain ⟨rfl, rfl, rfl⟩ := hq
  by_cases b3 : mz_isV (nI nv) a ∧ mz_isV (nI nv) b ∧ mz_isV (nI nv) c
  · refine V.st (st' := [.int (nI 1)]) (by rw [bI_t b3]; rfl) ?_
    refine V.if_ne (tgt := 28) dX5_allows_23 (by decide) (fun _ => ?_) (fun z => absurd z (by decide))
    refine V.iload_n (j := 1) rfl dX5_allows_28 ?_
    refine V.tableOut (tgt := 133) dX5_allows_29 (by decide) (by decide) ?_
    refine V.iconst (v := nI 1) (by decide) dX5_allows_133 ?_
    refine V.rz dX5_allows_134 rfl (by decide) ?_
    exact ⟨am_s1 (mz_may2.mpr b3), rfl, rfl⟩
  · refine V.st (st' := [.int (nI 0)]) (by rw [bI_f b3]; rfl) ?_
    refine V.if_ne (tgt := 28) dX5_allows_23 (by decide) (fun z => absurd z (by decide)) (fun _ => ?_)
    refine V.iconst (v := nI 0) (by decide) dX5_allows_26 ?_
    refine V.rz dX5_allows_27 rfl (by decide) ?_
    exact ⟨am_s0 (fun z => b3 (by have z := mz_may2.mp z; exact z)), rfl, rfl⟩
set_option maxRecDepth 100000 in
set_option maxHeartbeats 4000000 in
theorem cd_allows3 {G : am_G} (I A : Nat → Nat → Int32) (hst : am_sta G) (nv : Nat) (hn : I 1 6 = nI nv) (hnv : nv ≤ 24) (a b c : Int32) : Cm G MX5_allows 2 45 [.ref 1, .int (nI 3), .int a, .int b, .int c] I A (fun r I' A' => r = some (.int (bI (mz_may nv (A 2) (nI 3) a b c))) ∧ I = I' ∧ A = A') := by
  refine Cm.of (by decide) (Nat.le_of_ble_eq_true rfl) rfl ?_
  show V G MX5_allows (am_R 2 45 0 0) _ 0 0 0 [(0, .ref 1), (1, .int (nI 3)), (2, .int a), (3, .int b), (4, .int c)] [] (hp I A)
  refine V.iload_n (j := 1) rfl dX5_allows_0 ?_
  refine V.if_lt (tgt := 26) dX5_allows_1 (by decide) (fun z => absurd z (by decide)) (fun _ => ?_)
  refine V.iload_n (j := 1) rfl dX5_allows_4 ?_
  refine V.bipush (v := nI 10) (by decide) dX5_allows_5 ?_
  refine V.icmp_gt (tgt := 26) dX5_allows_7 (by decide) (fun z => absurd z (by decide)) (fun _ => ?_)
  refine V.aload_n (j := 0) rfl dX5_allows_10 ?_
  refine V.getsN (a := 0) dX5_allows_11 (by decide) gX5_44 ?_
  refine V.iload_n (j := 1) rfl dX5_allows_14 ?_
  refine V.ildL (v := nI 7) dX5_allows_15 (by decide) (by rw [hst.1]; exact vp_in_nI (by decide) (by decide)) (hst.2.2.1 _ (by decide)) ?_
  refine V.iload_n (j := 2) rfl dX5_allows_16 ?_
  refine V.iload_n (j := 3) rfl dX5_allows_17 ?_
  refine V.iload (j := 4) rfl dX5_allows_18 ?_
  refine V.cV (As := [.int (nI 7), .int a, .int b, .int c]) (st := []) dX5_allows_20 sX5_47 iX5_namesValues lX5_namesValues rfl rfl (cd_names7 I A nv hn hnv _ _ _) ⟨by decide, by decide⟩ (Nat.le_of_ble_eq_true rfl) rfl (fun r I' A' hq => ?_)
  obtain ⟨rfl, rfl, rfl⟩ := hq
  by_cases b3 : mz_isV (nI nv) a ∧ mz_isV (nI nv) b ∧ mz_isV (nI nv) c
  · refine V.st (st' := [.int (nI 1)]) (by rw [bI_t b3]; rfl) ?_
    refine V.if_ne (tgt := 28) dX5_allows_23 (by decide) (fun _ => ?_) (fun z => absurd z (by decide))
    refine V.iload_n (j := 1) rfl dX5_allows_28 ?_
    refine V.tableOut (tgt := 133) dX5_allows_29 (by decide) (by decide) ?_
    refine V.iconst (v := nI 1) (by decide) dX5_allows_133 ?_
    refine V.rz dX5_allows_134 rfl (by decide) ?_
    exact ⟨am_s1 (mz_may3.mpr b3), rfl, rfl⟩
  · refine V.st (st' := [.int (nI 0)]) (by rw [bI_f b3]; rfl) ?_
    refine V.if_ne (tgt := 28) dX5_allows_23 (by decide) (fun z => absurd z (by decide)) (fun _ => ?_)
    refine V.iconst (v := nI 0) (by decide) dX5_allows_26 ?_
    refine V.rz dX5_allows_27 rfl (by decide) ?_
    exact ⟨am_s0 (fun z => b3 (by have z := mz_may3.mp z; exact z)), rfl, rfl⟩
set_option maxRecDepth 100000 in
set_option maxHeartbeats 4000000 in
theorem cd_allows4 {G : am_G} (I A : Nat → Nat → Int32) (hst : am_sta G) (nv : Nat) (hn : I 1 6 = nI nv) (hnv : nv ≤ 24) (a b c : Int32) : Cm G MX5_allows 2 45 [.ref 1, .int (nI 4), .int a, .int b, .int c] I A (fun r I' A' => r = some (.int (bI (mz_may nv (A 2) (nI 4) a b c))) ∧ I = I' ∧ A = A') := by
  refine Cm.of (by decide) (Nat.le_of_ble_eq_true rfl) rfl ?_
  show V G MX5_allows (am_R 2 45 0 0) _ 0 0 0 [(0, .ref 1), (1, .int (nI 4)), (2, .int a), (3, .int b), (4, .int c)] [] (hp I A)
  refine V.iload_n (j := 1) rfl dX5_allows_0 ?_
  refine V.if_lt (tgt := 26) dX5_allows_1 (by decide) (fun z => absurd z (by decide)) (fun _ => ?_)
  refine V.iload_n (j := 1) rfl dX5_allows_4 ?_
  refine V.bipush (v := nI 10) (by decide) dX5_allows_5 ?_
  refine V.icmp_gt (tgt := 26) dX5_allows_7 (by decide) (fun z => absurd z (by decide)) (fun _ => ?_)
  refine V.aload_n (j := 0) rfl dX5_allows_10 ?_
  refine V.getsN (a := 0) dX5_allows_11 (by decide) gX5_44 ?_
  refine V.iload_n (j := 1) rfl dX5_allows_14 ?_
  refine V.ildL (v := nI 7) dX5_allows_15 (by decide) (by rw [hst.1]; exact vp_in_nI (by decide) (by decide)) (hst.2.2.1 _ (by decide)) ?_
  refine V.iload_n (j := 2) rfl dX5_allows_16 ?_
  refine V.iload_n (j := 3) rfl dX5_allows_17 ?_
  refine V.iload (j := 4) rfl dX5_allows_18 ?_
  refine V.cV (As := [.int (nI 7), .int a, .int b, .int c]) (st := []) dX5_allows_20 sX5_47 iX5_namesValues lX5_namesValues rfl rfl (cd_names7 I A nv hn hnv _ _ _) ⟨by decide, by decide⟩ (Nat.le_of_ble_eq_true rfl) rfl (fun r I' A' hq => ?_)
  obtain ⟨rfl, rfl, rfl⟩ := hq
  by_cases b3 : mz_isV (nI nv) a ∧ mz_isV (nI nv) b ∧ mz_isV (nI nv) c
  · refine V.st (st' := [.int (nI 1)]) (by rw [bI_t b3]; rfl) ?_
    refine V.if_ne (tgt := 28) dX5_allows_23 (by decide) (fun _ => ?_) (fun z => absurd z (by decide))
    obtain ⟨ja, hja, rfl⟩ := mz_nat (show nv < 2 ^ 31 by omega) b3.1
    obtain ⟨jb, hjb, rfl⟩ := mz_nat (show nv < 2 ^ 31 by omega) b3.2.1
    obtain ⟨jc, hjc, rfl⟩ := mz_nat (show nv < 2 ^ 31 by omega) b3.2.2
    refine V.iload_n (j := 1) rfl dX5_allows_28 ?_
    refine V.tableIn (tgt := 64) dX5_allows_29 (by decide) (by decide) rfl (by decide) ?_
    refine V.aload_n (j := 0) rfl dX5_allows_64 ?_
    refine V.getr (q := 2) dX5_allows_65 fX5_9 rfl rfl ?_
    refine V.iload_n (j := 2) rfl dX5_allows_68 ?_
    refine V.lda (v := A 2 ja) dX5_allows_69 rfl (by omega) (by decide) rfl ?_
    refine V.if_ne (tgt := 96) dX5_allows_70 (by decide) (fun c5 => ?_) (fun c5 => ?_)
    · refine V.iconst (v := nI 0) (by decide) dX5_allows_96 ?_
      refine V.rz dX5_allows_97 rfl (by decide) ?_
      exact ⟨am_s0 (fun z => c5 (by have z := (mz_may4.mp z); have z2 := z.1.2; rw [nI_clamp (show ja < 2 ^ 31 by omega)] at z2; exact z2)), rfl, rfl⟩
    · refine V.aload_n (j := 0) rfl dX5_allows_73 ?_
      refine V.getr (q := 2) dX5_allows_74 fX5_9 rfl rfl ?_
      refine V.iload_n (j := 3) rfl dX5_allows_77 ?_
      refine V.lda (v := A 2 jb) dX5_allows_78 rfl (by omega) (by decide) rfl ?_
      refine V.if_ne (tgt := 96) dX5_allows_79 (by decide) (fun c6 => ?_) (fun c6 => ?_)
      · refine V.iconst (v := nI 0) (by decide) dX5_allows_96 ?_
        refine V.rz dX5_allows_97 rfl (by decide) ?_
        exact ⟨am_s0 (fun z => c6 (by have z := (mz_may4.mp z); have z2 := z.2.1.2; rw [nI_clamp (show jb < 2 ^ 31 by omega)] at z2; exact z2)), rfl, rfl⟩
      · refine V.aload_n (j := 0) rfl dX5_allows_82 ?_
        refine V.getr (q := 2) dX5_allows_83 fX5_9 rfl rfl ?_
        refine V.iload (j := 4) rfl dX5_allows_86 ?_
        refine V.lda (v := A 2 jc) dX5_allows_88 rfl (by omega) (by decide) rfl ?_
        refine V.if_ne (tgt := 96) dX5_allows_89 (by decide) (fun c7 => ?_) (fun c7 => ?_)
        · refine V.iconst (v := nI 0) (by decide) dX5_allows_96 ?_
          refine V.rz dX5_allows_97 rfl (by decide) ?_
          exact ⟨am_s0 (fun z => c7 (by have z := (mz_may4.mp z); have z2 := z.2.2.2; rw [nI_clamp (show jc < 2 ^ 31 by omega)] at z2; exact z2)), rfl, rfl⟩
        · refine V.iconst (v := nI 1) (by decide) dX5_allows_92 ?_
          refine V.goto (tgt := 97) dX5_allows_93 (by decide) ?_
          refine V.rz dX5_allows_97 rfl (by decide) ?_
          exact ⟨am_s1 (mz_may4.mpr ⟨⟨b3.1, by rw [nI_clamp (show ja < 2 ^ 31 by omega)]; exact c5⟩, ⟨b3.2.1, by rw [nI_clamp (show jb < 2 ^ 31 by omega)]; exact c6⟩, ⟨b3.2.2, by rw [nI_clamp (show jc < 2 ^ 31 by omega)]; exact c7⟩⟩), rfl, rfl⟩
  · refine V.st (st' := [.int (nI 0)]) (by rw [bI_f b3]; rfl) ?_
    refine V.if_ne (tgt := 28) dX5_allows_23 (by decide) (fun z => absurd z (by decide)) (fun _ => ?_)
    refine V.iconst (v := nI 0) (by decide) dX5_allows_26 ?_
    refine V.rz dX5_allows_27 rfl (by decide) ?_
    exact ⟨am_s0 (fun z => b3 (by have z := mz_may4.mp z; exact ⟨z.1.1, z.2.1.1, z.2.2.1⟩)), rfl, rfl⟩
set_option maxRecDepth 100000 in
set_option maxHeartbeats 4000000 in
theorem cd_allows5 {G : am_G} (I A : Nat → Nat → Int32) (hst : am_sta G) (nv : Nat) (hn : I 1 6 = nI nv) (hnv : nv ≤ 24) (a b c : Int32) : Cm G MX5_allows 2 45 [.ref 1, .int (nI 5), .int a, .int b, .int c] I A (fun r I' A' => r = some (.int (bI (mz_may nv (A 2) (nI 5) a b c))) ∧ I = I' ∧ A = A') := by
  refine Cm.of (by decide) (Nat.le_of_ble_eq_true rfl) rfl ?_
  show V G MX5_allows (am_R 2 45 0 0) _ 0 0 0 [(0, .ref 1), (1, .int (nI 5)), (2, .int a), (3, .int b), (4, .int c)] [] (hp I A)
  refine V.iload_n (j := 1) rfl dX5_allows_0 ?_
  refine V.if_lt (tgt := 26) dX5_allows_1 (by decide) (fun z => absurd z (by decide)) (fun _ => ?_)
  refine V.iload_n (j := 1) rfl dX5_allows_4 ?_
  refine V.bipush (v := nI 10) (by decide) dX5_allows_5 ?_
  refine V.icmp_gt (tgt := 26) dX5_allows_7 (by decide) (fun z => absurd z (by decide)) (fun _ => ?_)
  refine V.aload_n (j := 0) rfl dX5_allows_10 ?_
  refine V.getsN (a := 0) dX5_allows_11 (by decide) gX5_44 ?_
  refine V.iload_n (j := 1) rfl dX5_allows_14 ?_
  refine V.ildL (v := nI 3) dX5_allows_15 (by decide) (by rw [hst.1]; exact vp_in_nI (by decide) (by decide)) (hst.2.2.1 _ (by decide)) ?_
  refine V.iload_n (j := 2) rfl dX5_allows_16 ?_
  refine V.iload_n (j := 3) rfl dX5_allows_17 ?_
  refine V.iload (j := 4) rfl dX5_allows_18 ?_
  refine V.cV (As := [.int (nI 3), .int a, .int b, .int c]) (st := []) dX5_allows_20 sX5_47 iX5_namesValues lX5_namesValues rfl rfl (cd_names3 I A nv hn hnv _ _ _) ⟨by decide, by decide⟩ (Nat.le_of_ble_eq_true rfl) rfl (fun r I' A' hq => ?_)
  obtain ⟨rfl, rfl, rfl⟩ := hq
  by_cases b3 : mz_isV (nI nv) a ∧ mz_isV (nI nv) b
  · refine V.st (st' := [.int (nI 1)]) (by rw [bI_t b3]; rfl) ?_
    refine V.if_ne (tgt := 28) dX5_allows_23 (by decide) (fun _ => ?_) (fun z => absurd z (by decide))
    obtain ⟨jb, hjb, rfl⟩ := mz_nat (show nv < 2 ^ 31 by omega) b3.2
    refine V.iload_n (j := 1) rfl dX5_allows_28 ?_
    refine V.tableIn (tgt := 98) dX5_allows_29 (by decide) (by decide) rfl (by decide) ?_
    refine V.aload_n (j := 0) rfl dX5_allows_98 ?_
    refine V.getr (q := 2) dX5_allows_99 fX5_9 rfl rfl ?_
    refine V.iload_n (j := 3) rfl dX5_allows_102 ?_
    refine V.lda (v := A 2 jb) dX5_allows_103 rfl (by omega) (by decide) rfl ?_
    refine V.iconst (v := nI 1) (by decide) dX5_allows_104 ?_
    refine V.icmp_ne (tgt := 120) dX5_allows_105 (by decide) (fun c5 => ?_) (fun c5 => ?_)
    · refine V.iconst (v := nI 0) (by decide) dX5_allows_120 ?_
      refine V.rz dX5_allows_121 rfl (by decide) ?_
      exact ⟨am_s0 (fun z => c5 (by have z := (mz_may5.mp z); have z2 := z.2.1.2; rw [nI_clamp (show jb < 2 ^ 31 by omega)] at z2; exact z2)), rfl, rfl⟩
    · refine V.iload (j := 4) rfl dX5_allows_108 ?_
      refine V.cSN (As := [.int c]) (st := []) dX5_allows_110 sX5_51 zX7_isCell (cd_isCell I A _) ⟨by decide, by decide⟩ (Nat.le_of_ble_eq_true rfl) rfl (fun r I' A' hq => ?_)
      obtain ⟨rfl, rfl, rfl⟩ := hq
      by_cases b6 : cz_in 64 c
      · refine V.st (st' := [.int (nI 1)]) (by rw [bI_t b6]; rfl) ?_
        refine V.if_eq (tgt := 120) dX5_allows_113 (by decide) (fun z => absurd z (by decide)) (fun _ => ?_)
        refine V.iconst (v := nI 1) (by decide) dX5_allows_116 ?_
        refine V.goto (tgt := 121) dX5_allows_117 (by decide) ?_
        refine V.rz dX5_allows_121 rfl (by decide) ?_
        exact ⟨am_s1 (mz_may5.mpr ⟨b3.1, ⟨b3.2, by rw [nI_clamp (show jb < 2 ^ 31 by omega)]; exact c5⟩, b6.1, b6.2⟩), rfl, rfl⟩
      · refine V.st (st' := [.int (nI 0)]) (by rw [bI_f b6]; rfl) ?_
        refine V.if_eq (tgt := 120) dX5_allows_113 (by decide) (fun _ => ?_) (fun z => absurd z (by decide))
        refine V.iconst (v := nI 0) (by decide) dX5_allows_120 ?_
        refine V.rz dX5_allows_121 rfl (by decide) ?_
        exact ⟨am_s0 (fun z => b6 (by have z := (mz_may5.mp z); exact ⟨z.2.2.1, z.2.2.2⟩)), rfl, rfl⟩
  · refine V.st (st' := [.int (nI 0)]) (by rw [bI_f b3]; rfl) ?_
    refine V.if_ne (tgt := 28) dX5_allows_23 (by decide) (fun z => absurd z (by decide)) (fun _ => ?_)
    refine V.iconst (v := nI 0) (by decide) dX5_allows_26 ?_
    refine V.rz dX5_allows_27 rfl (by decide) ?_
    exact ⟨am_s0 (fun z => b3 (by have z := mz_may5.mp z; exact ⟨z.1, z.2.1.1⟩)), rfl, rfl⟩
set_option maxRecDepth 100000 in
set_option maxHeartbeats 4000000 in
theorem cd_allows6 {G : am_G} (I A : Nat → Nat → Int32) (hst : am_sta G) (nv : Nat) (hn : I 1 6 = nI nv) (hnv : nv ≤ 24) (a b c : Int32) : Cm G MX5_allows 2 45 [.ref 1, .int (nI 6), .int a, .int b, .int c] I A (fun r I' A' => r = some (.int (bI (mz_may nv (A 2) (nI 6) a b c))) ∧ I = I' ∧ A = A') := by
  refine Cm.of (by decide) (Nat.le_of_ble_eq_true rfl) rfl ?_
  show V G MX5_allows (am_R 2 45 0 0) _ 0 0 0 [(0, .ref 1), (1, .int (nI 6)), (2, .int a), (3, .int b), (4, .int c)] [] (hp I A)
  refine V.iload_n (j := 1) rfl dX5_allows_0 ?_
  refine V.if_lt (tgt := 26) dX5_allows_1 (by decide) (fun z => absurd z (by decide)) (fun _ => ?_)
  refine V.iload_n (j := 1) rfl dX5_allows_4 ?_
  refine V.bipush (v := nI 10) (by decide) dX5_allows_5 ?_
  refine V.icmp_gt (tgt := 26) dX5_allows_7 (by decide) (fun z => absurd z (by decide)) (fun _ => ?_)
  refine V.aload_n (j := 0) rfl dX5_allows_10 ?_
  refine V.getsN (a := 0) dX5_allows_11 (by decide) gX5_44 ?_
  refine V.iload_n (j := 1) rfl dX5_allows_14 ?_
  refine V.ildL (v := nI 3) dX5_allows_15 (by decide) (by rw [hst.1]; exact vp_in_nI (by decide) (by decide)) (hst.2.2.1 _ (by decide)) ?_
  refine V.iload_n (j := 2) rfl dX5_allows_16 ?_
  refine V.iload_n (j := 3) rfl dX5_allows_17 ?_
  refine V.iload (j := 4) rfl dX5_allows_18 ?_
  refine V.cV (As := [.int (nI 3), .int a, .int b, .int c]) (st := []) dX5_allows_20 sX5_47 iX5_namesValues lX5_namesValues rfl rfl (cd_names3 I A nv hn hnv _ _ _) ⟨by decide, by decide⟩ (Nat.le_of_ble_eq_true rfl) rfl (fun r I' A' hq => ?_)
  obtain ⟨rfl, rfl, rfl⟩ := hq
  by_cases b3 : mz_isV (nI nv) a ∧ mz_isV (nI nv) b
  · refine V.st (st' := [.int (nI 1)]) (by rw [bI_t b3]; rfl) ?_
    refine V.if_ne (tgt := 28) dX5_allows_23 (by decide) (fun _ => ?_) (fun z => absurd z (by decide))
    obtain ⟨jb, hjb, rfl⟩ := mz_nat (show nv < 2 ^ 31 by omega) b3.2
    refine V.iload_n (j := 1) rfl dX5_allows_28 ?_
    refine V.tableIn (tgt := 98) dX5_allows_29 (by decide) (by decide) rfl (by decide) ?_
    refine V.aload_n (j := 0) rfl dX5_allows_98 ?_
    refine V.getr (q := 2) dX5_allows_99 fX5_9 rfl rfl ?_
    refine V.iload_n (j := 3) rfl dX5_allows_102 ?_
    refine V.lda (v := A 2 jb) dX5_allows_103 rfl (by omega) (by decide) rfl ?_
    refine V.iconst (v := nI 1) (by decide) dX5_allows_104 ?_
    refine V.icmp_ne (tgt := 120) dX5_allows_105 (by decide) (fun c5 => ?_) (fun c5 => ?_)
    · refine V.iconst (v := nI 0) (by decide) dX5_allows_120 ?_
      refine V.rz dX5_allows_121 rfl (by decide) ?_
      exact ⟨am_s0 (fun z => c5 (by have z := (mz_may6.mp z); have z2 := z.2.1.2; rw [nI_clamp (show jb < 2 ^ 31 by omega)] at z2; exact z2)), rfl, rfl⟩
    · refine V.iload (j := 4) rfl dX5_allows_108 ?_
      refine V.cSN (As := [.int c]) (st := []) dX5_allows_110 sX5_51 zX7_isCell (cd_isCell I A _) ⟨by decide, by decide⟩ (Nat.le_of_ble_eq_true rfl) rfl (fun r I' A' hq => ?_)
      obtain ⟨rfl, rfl, rfl⟩ := hq
      by_cases b6 : cz_in 64 c
      · refine V.st (st' := [.int (nI 1)]) (by rw [bI_t b6]; rfl) ?_
        refine V.if_eq (tgt := 120) dX5_allows_113 (by decide) (fun z => absurd z (by decide)) (fun _ => ?_)
        refine V.iconst (v := nI 1) (by decide) dX5_allows_116 ?_
        refine V.goto (tgt := 121) dX5_allows_117 (by decide) ?_
        refine V.rz dX5_allows_121 rfl (by decide) ?_
        exact ⟨am_s1 (mz_may6.mpr ⟨b3.1, ⟨b3.2, by rw [nI_clamp (show jb < 2 ^ 31 by omega)]; exact c5⟩, b6.1, b6.2⟩), rfl, rfl⟩
      · refine V.st (st' := [.int (nI 0)]) (by rw [bI_f b6]; rfl) ?_
        refine V.if_eq (tgt := 120) dX5_allows_113 (by decide) (fun _ => ?_) (fun z => absurd z (by decide))
        refine V.iconst (v := nI 0) (by decide) dX5_allows_120 ?_
        refine V.rz dX5_allows_121 rfl (by decide) ?_
        exact ⟨am_s0 (fun z => b6 (by have z := (mz_may6.mp z); exact ⟨z.2.2.1, z.2.2.2⟩)), rfl, rfl⟩
  · refine V.st (st' := [.int (nI 0)]) (by rw [bI_f b3]; rfl) ?_
    refine V.if_ne (tgt := 28) dX5_allows_23 (by decide) (fun z => absurd z (by decide)) (fun _ => ?_)
    refine V.iconst (v := nI 0) (by decide) dX5_allows_26 ?_
    refine V.rz dX5_allows_27 rfl (by decide) ?_
    exact ⟨am_s0 (fun z => b3 (by have z := mz_may6.mp z; exact ⟨z.1, z.2.1.1⟩)), rfl, rfl⟩
set_option maxRecDepth 100000 in
set_option maxHeartbeats 4000000 in
theorem cd_allows7 {G : am_G} (I A : Nat → Nat → Int32) (hst : am_sta G) (nv : Nat) (hn : I 1 6 = nI nv) (hnv : nv ≤ 24) (a b c : Int32) : Cm G MX5_allows 2 45 [.ref 1, .int (nI 7), .int a, .int b, .int c] I A (fun r I' A' => r = some (.int (bI (mz_may nv (A 2) (nI 7) a b c))) ∧ I = I' ∧ A = A') := by
  refine Cm.of (by decide) (Nat.le_of_ble_eq_true rfl) rfl ?_
  show V G MX5_allows (am_R 2 45 0 0) _ 0 0 0 [(0, .ref 1), (1, .int (nI 7)), (2, .int a), (3, .int b), (4, .int c)] [] (hp I A)
  refine V.iload_n (j := 1) rfl dX5_allows_0 ?_
  refine V.if_lt (tgt := 26) dX5_allows_1 (by decide) (fun z => absurd z (by decide)) (fun _ => ?_)
  refine V.iload_n (j := 1) rfl dX5_allows_4 ?_
  refine V.bipush (v := nI 10) (by decide) dX5_allows_5 ?_
  refine V.icmp_gt (tgt := 26) dX5_allows_7 (by decide) (fun z => absurd z (by decide)) (fun _ => ?_)
  refine V.aload_n (j := 0) rfl dX5_allows_10 ?_
  refine V.getsN (a := 0) dX5_allows_11 (by decide) gX5_44 ?_
  refine V.iload_n (j := 1) rfl dX5_allows_14 ?_
  refine V.ildL (v := nI 3) dX5_allows_15 (by decide) (by rw [hst.1]; exact vp_in_nI (by decide) (by decide)) (hst.2.2.1 _ (by decide)) ?_
  refine V.iload_n (j := 2) rfl dX5_allows_16 ?_
  refine V.iload_n (j := 3) rfl dX5_allows_17 ?_
  refine V.iload (j := 4) rfl dX5_allows_18 ?_
  refine V.cV (As := [.int (nI 3), .int a, .int b, .int c]) (st := []) dX5_allows_20 sX5_47 iX5_namesValues lX5_namesValues rfl rfl (cd_names3 I A nv hn hnv _ _ _) ⟨by decide, by decide⟩ (Nat.le_of_ble_eq_true rfl) rfl (fun r I' A' hq => ?_)
  obtain ⟨rfl, rfl, rfl⟩ := hq
  by_cases b3 : mz_isV (nI nv) a ∧ mz_isV (nI nv) b
  · refine V.st (st' := [.int (nI 1)]) (by rw [bI_t b3]; rfl) ?_
    refine V.if_ne (tgt := 28) dX5_allows_23 (by decide) (fun _ => ?_) (fun z => absurd z (by decide))
    refine V.iload_n (j := 1) rfl dX5_allows_28 ?_
    refine V.tableIn (tgt := 122) dX5_allows_29 (by decide) (by decide) rfl (by decide) ?_
    refine V.iload (j := 4) rfl dX5_allows_122 ?_
    refine V.cS (As := [.int c]) (st := []) dX5_allows_124 sX5_55 zX5_mayComeNext (cd_next I A _) ⟨by decide, by decide⟩ (Nat.le_of_ble_eq_true rfl) rfl (fun r I' A' hq => ?_)
    obtain ⟨rfl, rfl, rfl⟩ := hq
    by_cases b5 : cz_nx c
    · refine V.st (st' := [.int (nI 1)]) (by rw [bI_t b5]; rfl) ?_
      refine V.rz dX5_allows_127 rfl (by decide) ?_
      exact ⟨am_s1 (mz_may7.mpr ⟨b3.1, b3.2, b5.1, b5.2⟩), rfl, rfl⟩
    · refine V.st (st' := [.int (nI 0)]) (by rw [bI_f b5]; rfl) ?_
      refine V.rz dX5_allows_127 rfl (by decide) ?_
      exact ⟨am_s0 (fun z => b5 (by have z := (mz_may7.mp z); exact ⟨z.2.2.1, z.2.2.2⟩)), rfl, rfl⟩
  · refine V.st (st' := [.int (nI 0)]) (by rw [bI_f b3]; rfl) ?_
    refine V.if_ne (tgt := 28) dX5_allows_23 (by decide) (fun z => absurd z (by decide)) (fun _ => ?_)
    refine V.iconst (v := nI 0) (by decide) dX5_allows_26 ?_
    refine V.rz dX5_allows_27 rfl (by decide) ?_
    exact ⟨am_s0 (fun z => b3 (by have z := mz_may7.mp z; exact ⟨z.1, z.2.1⟩)), rfl, rfl⟩
set_option maxRecDepth 100000 in
set_option maxHeartbeats 4000000 in
theorem cd_allows8 {G : am_G} (I A : Nat → Nat → Int32) (hst : am_sta G) (nv : Nat) (hn : I 1 6 = nI nv) (hnv : nv ≤ 24) (a b c : Int32) : Cm G MX5_allows 2 45 [.ref 1, .int (nI 8), .int a, .int b, .int c] I A (fun r I' A' => r = some (.int (bI (mz_may nv (A 2) (nI 8) a b c))) ∧ I = I' ∧ A = A') := by
  refine Cm.of (by decide) (Nat.le_of_ble_eq_true rfl) rfl ?_
  show V G MX5_allows (am_R 2 45 0 0) _ 0 0 0 [(0, .ref 1), (1, .int (nI 8)), (2, .int a), (3, .int b), (4, .int c)] [] (hp I A)
  refine V.iload_n (j := 1) rfl dX5_allows_0 ?_
  refine V.if_lt (tgt := 26) dX5_allows_1 (by decide) (fun z => absurd z (by decide)) (fun _ => ?_)
  refine V.iload_n (j := 1) rfl dX5_allows_4 ?_
  refine V.bipush (v := nI 10) (by decide) dX5_allows_5 ?_
  refine V.icmp_gt (tgt := 26) dX5_allows_7 (by decide) (fun z => absurd z (by decide)) (fun _ => ?_)
  refine V.aload_n (j := 0) rfl dX5_allows_10 ?_
  refine V.getsN (a := 0) dX5_allows_11 (by decide) gX5_44 ?_
  refine V.iload_n (j := 1) rfl dX5_allows_14 ?_
  refine V.ildL (v := nI 0) dX5_allows_15 (by decide) (by rw [hst.1]; exact vp_in_nI (by decide) (by decide)) (hst.2.2.1 _ (by decide)) ?_
  refine V.iload_n (j := 2) rfl dX5_allows_16 ?_
  refine V.iload_n (j := 3) rfl dX5_allows_17 ?_
  refine V.iload (j := 4) rfl dX5_allows_18 ?_
  refine V.cV (As := [.int (nI 0), .int a, .int b, .int c]) (st := []) dX5_allows_20 sX5_47 iX5_namesValues lX5_namesValues rfl rfl (cd_names0 I A nv hn hnv _ _ _) ⟨by decide, by decide⟩ (Nat.le_of_ble_eq_true rfl) rfl (fun r I' A' hq => ?_)
  obtain ⟨rfl, rfl, rfl⟩ := hq
  by_cases b3 : True
  · refine V.st (st' := [.int (nI 1)]) (by rw [bI_t b3]; rfl) ?_
    refine V.if_ne (tgt := 28) dX5_allows_23 (by decide) (fun _ => ?_) (fun z => absurd z (by decide))
    refine V.iload_n (j := 1) rfl dX5_allows_28 ?_
    refine V.tableIn (tgt := 128) dX5_allows_29 (by decide) (by decide) rfl (by decide) ?_
    refine V.iload_n (j := 2) rfl dX5_allows_128 ?_
    refine V.cS (As := [.int a]) (st := []) dX5_allows_129 sX5_55 zX5_mayComeNext (cd_next I A _) ⟨by decide, by decide⟩ (Nat.le_of_ble_eq_true rfl) rfl (fun r I' A' hq => ?_)
    obtain ⟨rfl, rfl, rfl⟩ := hq
    by_cases b5 : cz_nx a
    · refine V.st (st' := [.int (nI 1)]) (by rw [bI_t b5]; rfl) ?_
      refine V.rz dX5_allows_132 rfl (by decide) ?_
      exact ⟨am_s1 (mz_may8.mpr b5), rfl, rfl⟩
    · refine V.st (st' := [.int (nI 0)]) (by rw [bI_f b5]; rfl) ?_
      refine V.rz dX5_allows_132 rfl (by decide) ?_
      exact ⟨am_s0 (fun z => b5 (by have z := (mz_may8.mp z); exact z)), rfl, rfl⟩
  · refine V.st (st' := [.int (nI 0)]) (by rw [bI_f b3]; rfl) ?_
    refine V.if_ne (tgt := 28) dX5_allows_23 (by decide) (fun z => absurd z (by decide)) (fun _ => ?_)
    refine V.iconst (v := nI 0) (by decide) dX5_allows_26 ?_
    refine V.rz dX5_allows_27 rfl (by decide) ?_
    exact ⟨am_s0 (fun z => b3 (by have z := mz_may8.mp z; exact trivial)), rfl, rfl⟩
set_option maxRecDepth 100000 in
set_option maxHeartbeats 4000000 in
theorem cd_allows9 {G : am_G} (I A : Nat → Nat → Int32) (hst : am_sta G) (nv : Nat) (hn : I 1 6 = nI nv) (hnv : nv ≤ 24) (a b c : Int32) : Cm G MX5_allows 2 45 [.ref 1, .int (nI 9), .int a, .int b, .int c] I A (fun r I' A' => r = some (.int (bI (mz_may nv (A 2) (nI 9) a b c))) ∧ I = I' ∧ A = A') := by
  refine Cm.of (by decide) (Nat.le_of_ble_eq_true rfl) rfl ?_
  show V G MX5_allows (am_R 2 45 0 0) _ 0 0 0 [(0, .ref 1), (1, .int (nI 9)), (2, .int a), (3, .int b), (4, .int c)] [] (hp I A)
  refine V.iload_n (j := 1) rfl dX5_allows_0 ?_
  refine V.if_lt (tgt := 26) dX5_allows_1 (by decide) (fun z => absurd z (by decide)) (fun _ => ?_)
  refine V.iload_n (j := 1) rfl dX5_allows_4 ?_
  refine V.bipush (v := nI 10) (by decide) dX5_allows_5 ?_
  refine V.icmp_gt (tgt := 26) dX5_allows_7 (by decide) (fun z => absurd z (by decide)) (fun _ => ?_)
  refine V.aload_n (j := 0) rfl dX5_allows_10 ?_
  refine V.getsN (a := 0) dX5_allows_11 (by decide) gX5_44 ?_
  refine V.iload_n (j := 1) rfl dX5_allows_14 ?_
  refine V.ildL (v := nI 1) dX5_allows_15 (by decide) (by rw [hst.1]; exact vp_in_nI (by decide) (by decide)) (hst.2.2.1 _ (by decide)) ?_
  refine V.iload_n (j := 2) rfl dX5_allows_16 ?_
  refine V.iload_n (j := 3) rfl dX5_allows_17 ?_
  refine V.iload (j := 4) rfl dX5_allows_18 ?_
  refine V.cV (As := [.int (nI 1), .int a, .int b, .int c]) (st := []) dX5_allows_20 sX5_47 iX5_namesValues lX5_namesValues rfl rfl (cd_names1 I A nv hn hnv _ _ _) ⟨by decide, by decide⟩ (Nat.le_of_ble_eq_true rfl) rfl (fun r I' A' hq => ?_)
  obtain ⟨rfl, rfl, rfl⟩ := hq
  by_cases b3 : mz_isV (nI nv) a
  · refine V.st (st' := [.int (nI 1)]) (by rw [bI_t b3]; rfl) ?_
    refine V.if_ne (tgt := 28) dX5_allows_23 (by decide) (fun _ => ?_) (fun z => absurd z (by decide))
    refine V.iload_n (j := 1) rfl dX5_allows_28 ?_
    refine V.tableOut (tgt := 133) dX5_allows_29 (by decide) (by decide) ?_
    refine V.iconst (v := nI 1) (by decide) dX5_allows_133 ?_
    refine V.rz dX5_allows_134 rfl (by decide) ?_
    exact ⟨am_s1 (mz_may9.mpr b3), rfl, rfl⟩
  · refine V.st (st' := [.int (nI 0)]) (by rw [bI_f b3]; rfl) ?_
    refine V.if_ne (tgt := 28) dX5_allows_23 (by decide) (fun z => absurd z (by decide)) (fun _ => ?_)
    refine V.iconst (v := nI 0) (by decide) dX5_allows_26 ?_
    refine V.rz dX5_allows_27 rfl (by decide) ?_
    exact ⟨am_s0 (fun z => b3 (by have z := mz_may9.mp z; exact z)), rfl, rfl⟩
set_option maxRecDepth 100000 in
set_option maxHeartbeats 4000000 in
theorem cd_allows10 {G : am_G} (I A : Nat → Nat → Int32) (hst : am_sta G) (nv : Nat) (hn : I 1 6 = nI nv) (hnv : nv ≤ 24) (a b c : Int32) : Cm G MX5_allows 2 45 [.ref 1, .int (nI 10), .int a, .int b, .int c] I A (fun r I' A' => r = some (.int (bI (mz_may nv (A 2) (nI 10) a b c))) ∧ I = I' ∧ A = A') := by
  refine Cm.of (by decide) (Nat.le_of_ble_eq_true rfl) rfl ?_
  show V G MX5_allows (am_R 2 45 0 0) _ 0 0 0 [(0, .ref 1), (1, .int (nI 10)), (2, .int a), (3, .int b), (4, .int c)] [] (hp I A)
  refine V.iload_n (j := 1) rfl dX5_allows_0 ?_
  refine V.if_lt (tgt := 26) dX5_allows_1 (by decide) (fun z => absurd z (by decide)) (fun _ => ?_)
  refine V.iload_n (j := 1) rfl dX5_allows_4 ?_
  refine V.bipush (v := nI 10) (by decide) dX5_allows_5 ?_
  refine V.icmp_gt (tgt := 26) dX5_allows_7 (by decide) (fun z => absurd z (by decide)) (fun _ => ?_)
  refine V.aload_n (j := 0) rfl dX5_allows_10 ?_
  refine V.getsN (a := 0) dX5_allows_11 (by decide) gX5_44 ?_
  refine V.iload_n (j := 1) rfl dX5_allows_14 ?_
  refine V.ildL (v := nI 0) dX5_allows_15 (by decide) (by rw [hst.1]; exact vp_in_nI (by decide) (by decide)) (hst.2.2.1 _ (by decide)) ?_
  refine V.iload_n (j := 2) rfl dX5_allows_16 ?_
  refine V.iload_n (j := 3) rfl dX5_allows_17 ?_
  refine V.iload (j := 4) rfl dX5_allows_18 ?_
  refine V.cV (As := [.int (nI 0), .int a, .int b, .int c]) (st := []) dX5_allows_20 sX5_47 iX5_namesValues lX5_namesValues rfl rfl (cd_names0 I A nv hn hnv _ _ _) ⟨by decide, by decide⟩ (Nat.le_of_ble_eq_true rfl) rfl (fun r I' A' hq => ?_)
  obtain ⟨rfl, rfl, rfl⟩ := hq
  by_cases b3 : True
  · refine V.st (st' := [.int (nI 1)]) (by rw [bI_t b3]; rfl) ?_
    refine V.if_ne (tgt := 28) dX5_allows_23 (by decide) (fun _ => ?_) (fun z => absurd z (by decide))
    refine V.iload_n (j := 1) rfl dX5_allows_28 ?_
    refine V.tableOut (tgt := 133) dX5_allows_29 (by decide) (by decide) ?_
    refine V.iconst (v := nI 1) (by decide) dX5_allows_133 ?_
    refine V.rz dX5_allows_134 rfl (by decide) ?_
    exact ⟨am_s1 (mz_may10.mpr b3), rfl, rfl⟩
  · refine V.st (st' := [.int (nI 0)]) (by rw [bI_f b3]; rfl) ?_
    refine V.if_ne (tgt := 28) dX5_allows_23 (by decide) (fun z => absurd z (by decide)) (fun _ => ?_)
    refine V.iconst (v := nI 0) (by decide) dX5_allows_26 ?_
    refine V.rz dX5_allows_27 rfl (by decide) ?_
    exact ⟨am_s0 (fun z => b3 (by have z := mz_may10.mp z; exact z)), rfl, rfl⟩
theorem mz_may_le {nv : Nat} {cl : Nat → Int32} {o a b c : Int32} (h : mz_may nv cl o a b c) : ∃ k, k ≤ 10 ∧ o = nI k := by
  rcases h with h | h | ⟨h | h, -⟩ | h | ⟨h | h, -⟩ | h | h | h | h
  · exact ⟨0, by omega, h.1⟩
  · exact ⟨1, by omega, h.1⟩
  · exact ⟨2, by omega, h⟩
  · exact ⟨3, by omega, h⟩
  · exact ⟨4, by omega, h.1⟩
  · exact ⟨5, by omega, h⟩
  · exact ⟨6, by omega, h⟩
  · exact ⟨7, by omega, h.1⟩
  · exact ⟨8, by omega, h.1⟩
  · exact ⟨9, by omega, h.1⟩
  · exact ⟨10, by omega, h⟩
set_option maxRecDepth 100000 in
theorem cd_allows {G : am_G} (I A : Nat → Nat → Int32) (hst : am_sta G) (nv : Nat) (hn : I 1 6 = nI nv) (hnv : nv ≤ 24) (o a b c : Int32) : Cm G MX5_allows 2 45 [.ref 1, .int o, .int a, .int b, .int c] I A (fun r I' A' => r = some (.int (bI (mz_may nv (A 2) o a b c))) ∧ I = I' ∧ A = A') := by
  by_cases h1 : o < 0
  · have hn0 : ¬ mz_may nv (A 2) o a b c := fun z => by obtain ⟨k, hk, rfl⟩ := mz_may_le z; exact nI_pos (by omega) h1
    refine Cm.of (by decide) (Nat.le_of_ble_eq_true rfl) rfl ?_
    show V G MX5_allows (am_R 2 45 0 0) _ 0 0 0 [(0, .ref 1), (1, .int o), (2, .int a), (3, .int b), (4, .int c)] [] (hp I A)
    refine V.iload_n (j := 1) rfl dX5_allows_0 ?_
    refine V.if_lt (tgt := 26) dX5_allows_1 (by decide) (fun _ => ?_) (fun c1 => absurd h1 c1)
    refine V.iconst (v := nI 0) (by decide) dX5_allows_26 ?_
    refine V.rz dX5_allows_27 rfl (by decide) ?_
    exact ⟨am_s0 hn0, rfl, rfl⟩
  · by_cases h2 : nI 10 < o
    · have hn0 : ¬ mz_may nv (A 2) o a b c := fun z => by obtain ⟨k, hk, rfl⟩ := mz_may_le z; rw [nI_ltI (by omega) (by omega)] at h2; omega
      refine Cm.of (by decide) (Nat.le_of_ble_eq_true rfl) rfl ?_
      show V G MX5_allows (am_R 2 45 0 0) _ 0 0 0 [(0, .ref 1), (1, .int o), (2, .int a), (3, .int b), (4, .int c)] [] (hp I A)
      refine V.iload_n (j := 1) rfl dX5_allows_0 ?_
      refine V.if_lt (tgt := 26) dX5_allows_1 (by decide) (fun c1 => absurd c1 h1) (fun _ => ?_)
      refine V.iload_n (j := 1) rfl dX5_allows_4 ?_
      refine V.bipush (v := nI 10) (by decide) dX5_allows_5 ?_
      refine V.icmp_gt (tgt := 26) dX5_allows_7 (by decide) (fun _ => ?_) (fun c1 => absurd h2 c1)
      refine V.iconst (v := nI 0) (by decide) dX5_allows_26 ?_
      refine V.rz dX5_allows_27 rfl (by decide) ?_
      exact ⟨am_s0 hn0, rfl, rfl⟩
    · obtain ⟨k, hk, rfl⟩ := mz_ngt (nv := 10) (by decide) h1 h2
      rcases (show k = 0 ∨ k = 1 ∨ k = 2 ∨ k = 3 ∨ k = 4 ∨ k = 5 ∨ k = 6 ∨ k = 7 ∨ k = 8 ∨ k = 9 ∨ k = 10 by omega) with rfl | rfl | rfl | rfl | rfl | rfl | rfl | rfl | rfl | rfl | rfl
      · exact cd_allows0 I A hst nv hn hnv a b c
      · exact cd_allows1 I A hst nv hn hnv a b c
      · exact cd_allows2 I A hst nv hn hnv a b c
      · exact cd_allows3 I A hst nv hn hnv a b c
      · exact cd_allows4 I A hst nv hn hnv a b c
      · exact cd_allows5 I A hst nv hn hnv a b c
      · exact cd_allows6 I A hst nv hn hnv a b c
      · exact cd_allows7 I A hst nv hn hnv a b c
      · exact cd_allows8 I A hst nv hn hnv a b c
      · exact cd_allows9 I A hst nv hn hnv a b c
      · exact cd_allows10 I A hst nv hn hnv a b c
set_option maxRecDepth 100000 in
set_option maxHeartbeats 4000000 in
theorem cd_taken0_0 {G : am_G} (I A : Nat → Nat → Int32) (hst : am_sta G) (s : Nat) (hs : s < 60) (k : Nat) (hk10 : k ≤ 10) (hk : A 5 s = nI k) (hm : cz_tk k = nI 0) : Cm G MX5_takenOf 1 22 [.ref 1, .int (nI s), .int (nI 0)] I A (fun r I' A' => r = some (.int (-1)) ∧ I = I' ∧ A = A') := by
  refine Cm.of (by decide) (Nat.le_of_ble_eq_true rfl) rfl ?_
  show V G MX5_takenOf (am_R 1 22 0 0) _ 0 0 0 [(0, .ref 1), (1, .int (nI s)), (2, .int (nI 0))] [] (hp I A)
  refine V.getsN (a := 1) dX5_takenOf_0 (by decide) gX5_76 ?_
  refine V.aload_n (j := 0) rfl dX5_takenOf_3 ?_
  refine V.getr (q := 4) dX5_takenOf_4 fX5_23 rfl rfl ?_
  refine V.getr (q := 5) dX5_takenOf_7 fX5_79 rfl rfl ?_
  refine V.iload_n (j := 1) rfl dX5_takenOf_10 ?_
  refine V.lda (v := nI k) dX5_takenOf_11 rfl (by omega) (by decide) hk ?_
  refine V.ildL (v := nI 0) dX5_takenOf_12 (by decide) (by rw [hst.2.1]; exact vp_in_nI (by omega) (by decide)) (by rw [nI_clamp (by omega), hst.2.2.2 k (by omega)]; exact hm) ?_
  refine V.istore_n (ls' := [(0, .ref 1), (1, .int (nI s)), (2, .int (nI 0)), (3, .int (nI 0))]) dX5_takenOf_13 (by decide) rfl ?_
  refine V.iconst (v := nI 0) (by decide) dX5_takenOf_14 ?_
  refine V.istore (ls' := [(0, .ref 1), (1, .int (nI s)), (2, .int (nI 0)), (3, .int (nI 0)), (4, .int (nI 0))]) dX5_takenOf_15 (by decide) rfl ?_
  refine V.iconst (v := nI 0) (by decide) dX5_takenOf_17 ?_
  refine V.istore (ls' := [(0, .ref 1), (1, .int (nI s)), (2, .int (nI 0)), (3, .int (nI 0)), (4, .int (nI 0)), (5, .int (nI 0))]) dX5_takenOf_18 (by decide) rfl ?_
  refine V.iload (j := 5) rfl dX5_takenOf_20 ?_
  refine V.iconst (v := nI 3) (by decide) dX5_takenOf_22 ?_
  refine V.icmp_ge (tgt := 63) dX5_takenOf_23 (by decide) (fun z => absurd z (by decide)) (fun _ => ?_)
  refine V.iload_n (j := 3) rfl dX5_takenOf_26 ?_
  refine V.iload (j := 5) rfl dX5_takenOf_27 ?_
  refine V.cSN (As := [.int (nI 0), .int (nI 0)]) (st := []) dX5_takenOf_29 sX5_58 zX7_has (cd_has I A _ 0 (by omega)) ⟨by decide, by decide⟩ (Nat.le_of_ble_eq_true rfl) rfl (fun r I' A' hq => ?_)
  obtain ⟨rfl, rfl, rfl⟩ := hq
  refine V.st (st' := [.int (nI 0)]) (by rw [bI_f (by decide)]; rfl) ?_
  refine V.if_eq (tgt := 57) dX5_takenOf_32 (by decide) (fun _ => ?_) (fun z => absurd z (by decide))
  refine V.iincN (ls' := [(0, .ref 1), (1, .int (nI s)), (2, .int (nI 0)), (3, .int (nI 0)), (4, .int (nI 0)), (5, .int (nI 1))]) dX5_takenOf_57 (j := 5) rfl (by decide) rfl ?_
  refine V.goto (tgt := 20) dX5_takenOf_60 (by decide) ?_
  refine V.iload (j := 5) rfl dX5_takenOf_20 ?_
  refine V.iconst (v := nI 3) (by decide) dX5_takenOf_22 ?_
  refine V.icmp_ge (tgt := 63) dX5_takenOf_23 (by decide) (fun z => absurd z (by decide)) (fun _ => ?_)
  refine V.iload_n (j := 3) rfl dX5_takenOf_26 ?_
  refine V.iload (j := 5) rfl dX5_takenOf_27 ?_
  refine V.cSN (As := [.int (nI 0), .int (nI 1)]) (st := []) dX5_takenOf_29 sX5_58 zX7_has (cd_has I A _ 1 (by omega)) ⟨by decide, by decide⟩ (Nat.le_of_ble_eq_true rfl) rfl (fun r I' A' hq => ?_)
  obtain ⟨rfl, rfl, rfl⟩ := hq
  refine V.st (st' := [.int (nI 0)]) (by rw [bI_f (by decide)]; rfl) ?_
  refine V.if_eq (tgt := 57) dX5_takenOf_32 (by decide) (fun _ => ?_) (fun z => absurd z (by decide))
  refine V.iincN (ls' := [(0, .ref 1), (1, .int (nI s)), (2, .int (nI 0)), (3, .int (nI 0)), (4, .int (nI 0)), (5, .int (nI 2))]) dX5_takenOf_57 (j := 5) rfl (by decide) rfl ?_
  refine V.goto (tgt := 20) dX5_takenOf_60 (by decide) ?_
  refine V.iload (j := 5) rfl dX5_takenOf_20 ?_
  refine V.iconst (v := nI 3) (by decide) dX5_takenOf_22 ?_
  refine V.icmp_ge (tgt := 63) dX5_takenOf_23 (by decide) (fun z => absurd z (by decide)) (fun _ => ?_)
  refine V.iload_n (j := 3) rfl dX5_takenOf_26 ?_
  refine V.iload (j := 5) rfl dX5_takenOf_27 ?_
  refine V.cSN (As := [.int (nI 0), .int (nI 2)]) (st := []) dX5_takenOf_29 sX5_58 zX7_has (cd_has I A _ 2 (by omega)) ⟨by decide, by decide⟩ (Nat.le_of_ble_eq_true rfl) rfl (fun r I' A' hq => ?_)
  obtain ⟨rfl, rfl, rfl⟩ := hq
  refine V.st (st' := [.int (nI 0)]) (by rw [bI_f (by decide)]; rfl) ?_
  refine V.if_eq (tgt := 57) dX5_takenOf_32 (by decide) (fun _ => ?_) (fun z => absurd z (by decide))
  refine V.iincN (ls' := [(0, .ref 1), (1, .int (nI s)), (2, .int (nI 0)), (3, .int (nI 0)), (4, .int (nI 0)), (5, .int (nI 3))]) dX5_takenOf_57 (j := 5) rfl (by decide) rfl ?_
  refine V.goto (tgt := 20) dX5_takenOf_60 (by decide) ?_
  refine V.iload (j := 5) rfl dX5_takenOf_20 ?_
  refine V.iconst (v := nI 3) (by decide) dX5_takenOf_22 ?_
  refine V.icmp_ge (tgt := 63) dX5_takenOf_23 (by decide) (fun _ => ?_) (fun z => absurd z (by decide))
  refine V.iconst (v := (-1)) (by decide) dX5_takenOf_63 ?_
  refine V.ri dX5_takenOf_64 rfl ?_
  exact ⟨rfl, rfl, rfl⟩
set_option maxRecDepth 100000 in
set_option maxHeartbeats 4000000 in
theorem cd_taken0_1 {G : am_G} (I A : Nat → Nat → Int32) (hst : am_sta G) (s : Nat) (hs : s < 60) (k : Nat) (hk10 : k ≤ 10) (hk : A 5 s = nI k) (hm : cz_tk k = nI 0) : Cm G MX5_takenOf 1 22 [.ref 1, .int (nI s), .int (nI 1)] I A (fun r I' A' => r = some (.int (-1)) ∧ I = I' ∧ A = A') := by
  refine Cm.of (by decide) (Nat.le_of_ble_eq_true rfl) rfl ?_
  show V G MX5_takenOf (am_R 1 22 0 0) _ 0 0 0 [(0, .ref 1), (1, .int (nI s)), (2, .int (nI 1))] [] (hp I A)
  refine V.getsN (a := 1) dX5_takenOf_0 (by decide) gX5_76 ?_
  refine V.aload_n (j := 0) rfl dX5_takenOf_3 ?_
  refine V.getr (q := 4) dX5_takenOf_4 fX5_23 rfl rfl ?_
  refine V.getr (q := 5) dX5_takenOf_7 fX5_79 rfl rfl ?_
  refine V.iload_n (j := 1) rfl dX5_takenOf_10 ?_
  refine V.lda (v := nI k) dX5_takenOf_11 rfl (by omega) (by decide) hk ?_
  refine V.ildL (v := nI 0) dX5_takenOf_12 (by decide) (by rw [hst.2.1]; exact vp_in_nI (by omega) (by decide)) (by rw [nI_clamp (by omega), hst.2.2.2 k (by omega)]; exact hm) ?_
  refine V.istore_n (ls' := [(0, .ref 1), (1, .int (nI s)), (2, .int (nI 1)), (3, .int (nI 0))]) dX5_takenOf_13 (by decide) rfl ?_
  refine V.iconst (v := nI 0) (by decide) dX5_takenOf_14 ?_
  refine V.istore (ls' := [(0, .ref 1), (1, .int (nI s)), (2, .int (nI 1)), (3, .int (nI 0)), (4, .int (nI 0))]) dX5_takenOf_15 (by decide) rfl ?_
  refine V.iconst (v := nI 0) (by decide) dX5_takenOf_17 ?_
  refine V.istore (ls' := [(0, .ref 1), (1, .int (nI s)), (2, .int (nI 1)), (3, .int (nI 0)), (4, .int (nI 0)), (5, .int (nI 0))]) dX5_takenOf_18 (by decide) rfl ?_
  refine V.iload (j := 5) rfl dX5_takenOf_20 ?_
  refine V.iconst (v := nI 3) (by decide) dX5_takenOf_22 ?_
  refine V.icmp_ge (tgt := 63) dX5_takenOf_23 (by decide) (fun z => absurd z (by decide)) (fun _ => ?_)
  refine V.iload_n (j := 3) rfl dX5_takenOf_26 ?_
  refine V.iload (j := 5) rfl dX5_takenOf_27 ?_
  refine V.cSN (As := [.int (nI 0), .int (nI 0)]) (st := []) dX5_takenOf_29 sX5_58 zX7_has (cd_has I A _ 0 (by omega)) ⟨by decide, by decide⟩ (Nat.le_of_ble_eq_true rfl) rfl (fun r I' A' hq => ?_)
  obtain ⟨rfl, rfl, rfl⟩ := hq
  refine V.st (st' := [.int (nI 0)]) (by rw [bI_f (by decide)]; rfl) ?_
  refine V.if_eq (tgt := 57) dX5_takenOf_32 (by decide) (fun _ => ?_) (fun z => absurd z (by decide))
  refine V.iincN (ls' := [(0, .ref 1), (1, .int (nI s)), (2, .int (nI 1)), (3, .int (nI 0)), (4, .int (nI 0)), (5, .int (nI 1))]) dX5_takenOf_57 (j := 5) rfl (by decide) rfl ?_
  refine V.goto (tgt := 20) dX5_takenOf_60 (by decide) ?_
  refine V.iload (j := 5) rfl dX5_takenOf_20 ?_
  refine V.iconst (v := nI 3) (by decide) dX5_takenOf_22 ?_
  refine V.icmp_ge (tgt := 63) dX5_takenOf_23 (by decide) (fun z => absurd z (by decide)) (fun _ => ?_)
  refine V.iload_n (j := 3) rfl dX5_takenOf_26 ?_
  refine V.iload (j := 5) rfl dX5_takenOf_27 ?_
  refine V.cSN (As := [.int (nI 0), .int (nI 1)]) (st := []) dX5_takenOf_29 sX5_58 zX7_has (cd_has I A _ 1 (by omega)) ⟨by decide, by decide⟩ (Nat.le_of_ble_eq_true rfl) rfl (fun r I' A' hq => ?_)
  obtain ⟨rfl, rfl, rfl⟩ := hq
  refine V.st (st' := [.int (nI 0)]) (by rw [bI_f (by decide)]; rfl) ?_
  refine V.if_eq (tgt := 57) dX5_takenOf_32 (by decide) (fun _ => ?_) (fun z => absurd z (by decide))
  refine V.iincN (ls' := [(0, .ref 1), (1, .int (nI s)), (2, .int (nI 1)), (3, .int (nI 0)), (4, .int (nI 0)), (5, .int (nI 2))]) dX5_takenOf_57 (j := 5) rfl (by decide) rfl ?_
  refine V.goto (tgt := 20) dX5_takenOf_60 (by decide) ?_
  refine V.iload (j := 5) rfl dX5_takenOf_20 ?_
  refine V.iconst (v := nI 3) (by decide) dX5_takenOf_22 ?_
  refine V.icmp_ge (tgt := 63) dX5_takenOf_23 (by decide) (fun z => absurd z (by decide)) (fun _ => ?_)
  refine V.iload_n (j := 3) rfl dX5_takenOf_26 ?_
  refine V.iload (j := 5) rfl dX5_takenOf_27 ?_
  refine V.cSN (As := [.int (nI 0), .int (nI 2)]) (st := []) dX5_takenOf_29 sX5_58 zX7_has (cd_has I A _ 2 (by omega)) ⟨by decide, by decide⟩ (Nat.le_of_ble_eq_true rfl) rfl (fun r I' A' hq => ?_)
  obtain ⟨rfl, rfl, rfl⟩ := hq
  refine V.st (st' := [.int (nI 0)]) (by rw [bI_f (by decide)]; rfl) ?_
  refine V.if_eq (tgt := 57) dX5_takenOf_32 (by decide) (fun _ => ?_) (fun z => absurd z (by decide))
  refine V.iincN (ls' := [(0, .ref 1), (1, .int (nI s)), (2, .int (nI 1)), (3, .int (nI 0)), (4, .int (nI 0)), (5, .int (nI 3))]) dX5_takenOf_57 (j := 5) rfl (by decide) rfl ?_
  refine V.goto (tgt := 20) dX5_takenOf_60 (by decide) ?_
  refine V.iload (j := 5) rfl dX5_takenOf_20 ?_
  refine V.iconst (v := nI 3) (by decide) dX5_takenOf_22 ?_
  refine V.icmp_ge (tgt := 63) dX5_takenOf_23 (by decide) (fun _ => ?_) (fun z => absurd z (by decide))
  refine V.iconst (v := (-1)) (by decide) dX5_takenOf_63 ?_
  refine V.ri dX5_takenOf_64 rfl ?_
  exact ⟨rfl, rfl, rfl⟩
set_option maxRecDepth 100000 in
set_option maxHeartbeats 4000000 in
theorem cd_taken1_0 {G : am_G} (I A : Nat → Nat → Int32) (hst : am_sta G) (s : Nat) (hs : s < 60) (k : Nat) (hk10 : k ≤ 10) (hk : A 5 s = nI k) (hm : cz_tk k = nI 1) : Cm G MX5_takenOf 1 22 [.ref 1, .int (nI s), .int (nI 0)] I A (fun r I' A' => r = some (.int (A 6 s)) ∧ I = I' ∧ A = A') := by
  refine Cm.of (by decide) (Nat.le_of_ble_eq_true rfl) rfl ?_
  show V G MX5_takenOf (am_R 1 22 0 0) _ 0 0 0 [(0, .ref 1), (1, .int (nI s)), (2, .int (nI 0))] [] (hp I A)
  refine V.getsN (a := 1) dX5_takenOf_0 (by decide) gX5_76 ?_
  refine V.aload_n (j := 0) rfl dX5_takenOf_3 ?_
  refine V.getr (q := 4) dX5_takenOf_4 fX5_23 rfl rfl ?_
  refine V.getr (q := 5) dX5_takenOf_7 fX5_79 rfl rfl ?_
  refine V.iload_n (j := 1) rfl dX5_takenOf_10 ?_
  refine V.lda (v := nI k) dX5_takenOf_11 rfl (by omega) (by decide) hk ?_
  refine V.ildL (v := nI 1) dX5_takenOf_12 (by decide) (by rw [hst.2.1]; exact vp_in_nI (by omega) (by decide)) (by rw [nI_clamp (by omega), hst.2.2.2 k (by omega)]; exact hm) ?_
  refine V.istore_n (ls' := [(0, .ref 1), (1, .int (nI s)), (2, .int (nI 0)), (3, .int (nI 1))]) dX5_takenOf_13 (by decide) rfl ?_
  refine V.iconst (v := nI 0) (by decide) dX5_takenOf_14 ?_
  refine V.istore (ls' := [(0, .ref 1), (1, .int (nI s)), (2, .int (nI 0)), (3, .int (nI 1)), (4, .int (nI 0))]) dX5_takenOf_15 (by decide) rfl ?_
  refine V.iconst (v := nI 0) (by decide) dX5_takenOf_17 ?_
  refine V.istore (ls' := [(0, .ref 1), (1, .int (nI s)), (2, .int (nI 0)), (3, .int (nI 1)), (4, .int (nI 0)), (5, .int (nI 0))]) dX5_takenOf_18 (by decide) rfl ?_
  refine V.iload (j := 5) rfl dX5_takenOf_20 ?_
  refine V.iconst (v := nI 3) (by decide) dX5_takenOf_22 ?_
  refine V.icmp_ge (tgt := 63) dX5_takenOf_23 (by decide) (fun z => absurd z (by decide)) (fun _ => ?_)
  refine V.iload_n (j := 3) rfl dX5_takenOf_26 ?_
  refine V.iload (j := 5) rfl dX5_takenOf_27 ?_
  refine V.cSN (As := [.int (nI 1), .int (nI 0)]) (st := []) dX5_takenOf_29 sX5_58 zX7_has (cd_has I A _ 0 (by omega)) ⟨by decide, by decide⟩ (Nat.le_of_ble_eq_true rfl) rfl (fun r I' A' hq => ?_)
  obtain ⟨rfl, rfl, rfl⟩ := hq
  refine V.st (st' := [.int (nI 1)]) (by rw [bI_t (by decide)]; rfl) ?_
  refine V.if_eq (tgt := 57) dX5_takenOf_32 (by decide) (fun z => absurd z (by decide)) (fun _ => ?_)
  refine V.iload (j := 4) rfl dX5_takenOf_35 ?_
  refine V.iload_n (j := 2) rfl dX5_takenOf_37 ?_
  refine V.icmp_ne (tgt := 54) dX5_takenOf_38 (by decide) (fun z => absurd z (by decide)) (fun _ => ?_)
  refine V.aload_n (j := 0) rfl dX5_takenOf_41 ?_
  refine V.getr (q := 4) dX5_takenOf_42 fX5_23 rfl rfl ?_
  refine V.iload_n (j := 1) rfl dX5_takenOf_45 ?_
  refine V.iload (j := 5) rfl dX5_takenOf_46 ?_
  refine V.iconst (v := nI 1) (by decide) dX5_takenOf_48 ?_
  refine V.iaddN dX5_takenOf_49 ?_
  refine V.st (st' := [.int (nI 1), .int (nI s), .ref 4]) rfl ?_
  refine V.cV (As := [.int (nI s), .int (nI 1)]) (st := []) dX5_takenOf_50 sX5_82 iX3_part lX3_part rfl rfl (cd_part4 I A s hs _) ⟨by decide, by decide⟩ (Nat.le_of_ble_eq_true rfl) rfl (fun r I' A' hq => ?_)
  obtain ⟨rfl, rfl, rfl⟩ := hq
  refine V.st (st' := [.int (A 6 s)]) rfl ?_
  refine V.ri dX5_takenOf_53 rfl ?_
  exact ⟨rfl, rfl, rfl⟩
set_option maxRecDepth 100000 in
set_option maxHeartbeats 4000000 in
theorem cd_taken1_1 {G : am_G} (I A : Nat → Nat → Int32) (hst : am_sta G) (s : Nat) (hs : s < 60) (k : Nat) (hk10 : k ≤ 10) (hk : A 5 s = nI k) (hm : cz_tk k = nI 1) : Cm G MX5_takenOf 1 22 [.ref 1, .int (nI s), .int (nI 1)] I A (fun r I' A' => r = some (.int (-1)) ∧ I = I' ∧ A = A') := by
  refine Cm.of (by decide) (Nat.le_of_ble_eq_true rfl) rfl ?_
  show V G MX5_takenOf (am_R 1 22 0 0) _ 0 0 0 [(0, .ref 1), (1, .int (nI s)), (2, .int (nI 1))] [] (hp I A)
  refine V.getsN (a := 1) dX5_takenOf_0 (by decide) gX5_76 ?_
  refine V.aload_n (j := 0) rfl dX5_takenOf_3 ?_
  refine V.getr (q := 4) dX5_takenOf_4 fX5_23 rfl rfl ?_
  refine V.getr (q := 5) dX5_takenOf_7 fX5_79 rfl rfl ?_
  refine V.iload_n (j := 1) rfl dX5_takenOf_10 ?_
  refine V.lda (v := nI k) dX5_takenOf_11 rfl (by omega) (by decide) hk ?_
  refine V.ildL (v := nI 1) dX5_takenOf_12 (by decide) (by rw [hst.2.1]; exact vp_in_nI (by omega) (by decide)) (by rw [nI_clamp (by omega), hst.2.2.2 k (by omega)]; exact hm) ?_
  refine V.istore_n (ls' := [(0, .ref 1), (1, .int (nI s)), (2, .int (nI 1)), (3, .int (nI 1))]) dX5_takenOf_13 (by decide) rfl ?_
  refine V.iconst (v := nI 0) (by decide) dX5_takenOf_14 ?_
  refine V.istore (ls' := [(0, .ref 1), (1, .int (nI s)), (2, .int (nI 1)), (3, .int (nI 1)), (4, .int (nI 0))]) dX5_takenOf_15 (by decide) rfl ?_
  refine V.iconst (v := nI 0) (by decide) dX5_takenOf_17 ?_
  refine V.istore (ls' := [(0, .ref 1), (1, .int (nI s)), (2, .int (nI 1)), (3, .int (nI 1)), (4, .int (nI 0)), (5, .int (nI 0))]) dX5_takenOf_18 (by decide) rfl ?_
  refine V.iload (j := 5) rfl dX5_takenOf_20 ?_
  refine V.iconst (v := nI 3) (by decide) dX5_takenOf_22 ?_
  refine V.icmp_ge (tgt := 63) dX5_takenOf_23 (by decide) (fun z => absurd z (by decide)) (fun _ => ?_)
  refine V.iload_n (j := 3) rfl dX5_takenOf_26 ?_
  refine V.iload (j := 5) rfl dX5_takenOf_27 ?_
  refine V.cSN (As := [.int (nI 1), .int (nI 0)]) (st := []) dX5_takenOf_29 sX5_58 zX7_has (cd_has I A _ 0 (by omega)) ⟨by decide, by decide⟩ (Nat.le_of_ble_eq_true rfl) rfl (fun r I' A' hq => ?_)
  obtain ⟨rfl, rfl, rfl⟩ := hq
  refine V.st (st' := [.int (nI 1)]) (by rw [bI_t (by decide)]; rfl) ?_
  refine V.if_eq (tgt := 57) dX5_takenOf_32 (by decide) (fun z => absurd z (by decide)) (fun _ => ?_)
  refine V.iload (j := 4) rfl dX5_takenOf_35 ?_
  refine V.iload_n (j := 2) rfl dX5_takenOf_37 ?_
  refine V.icmp_ne (tgt := 54) dX5_takenOf_38 (by decide) (fun _ => ?_) (fun z => absurd z (by decide))
  refine V.iincN (ls' := [(0, .ref 1), (1, .int (nI s)), (2, .int (nI 1)), (3, .int (nI 1)), (4, .int (nI 1)), (5, .int (nI 0))]) dX5_takenOf_54 (j := 4) rfl (by decide) rfl ?_
  refine V.iincN (ls' := [(0, .ref 1), (1, .int (nI s)), (2, .int (nI 1)), (3, .int (nI 1)), (4, .int (nI 1)), (5, .int (nI 1))]) dX5_takenOf_57 (j := 5) rfl (by decide) rfl ?_
  refine V.goto (tgt := 20) dX5_takenOf_60 (by decide) ?_
  refine V.iload (j := 5) rfl dX5_takenOf_20 ?_
  refine V.iconst (v := nI 3) (by decide) dX5_takenOf_22 ?_
  refine V.icmp_ge (tgt := 63) dX5_takenOf_23 (by decide) (fun z => absurd z (by decide)) (fun _ => ?_)
  refine V.iload_n (j := 3) rfl dX5_takenOf_26 ?_
  refine V.iload (j := 5) rfl dX5_takenOf_27 ?_
  refine V.cSN (As := [.int (nI 1), .int (nI 1)]) (st := []) dX5_takenOf_29 sX5_58 zX7_has (cd_has I A _ 1 (by omega)) ⟨by decide, by decide⟩ (Nat.le_of_ble_eq_true rfl) rfl (fun r I' A' hq => ?_)
  obtain ⟨rfl, rfl, rfl⟩ := hq
  refine V.st (st' := [.int (nI 0)]) (by rw [bI_f (by decide)]; rfl) ?_
  refine V.if_eq (tgt := 57) dX5_takenOf_32 (by decide) (fun _ => ?_) (fun z => absurd z (by decide))
  refine V.iincN (ls' := [(0, .ref 1), (1, .int (nI s)), (2, .int (nI 1)), (3, .int (nI 1)), (4, .int (nI 1)), (5, .int (nI 2))]) dX5_takenOf_57 (j := 5) rfl (by decide) rfl ?_
  refine V.goto (tgt := 20) dX5_takenOf_60 (by decide) ?_
  refine V.iload (j := 5) rfl dX5_takenOf_20 ?_
  refine V.iconst (v := nI 3) (by decide) dX5_takenOf_22 ?_
  refine V.icmp_ge (tgt := 63) dX5_takenOf_23 (by decide) (fun z => absurd z (by decide)) (fun _ => ?_)
  refine V.iload_n (j := 3) rfl dX5_takenOf_26 ?_
  refine V.iload (j := 5) rfl dX5_takenOf_27 ?_
  refine V.cSN (As := [.int (nI 1), .int (nI 2)]) (st := []) dX5_takenOf_29 sX5_58 zX7_has (cd_has I A _ 2 (by omega)) ⟨by decide, by decide⟩ (Nat.le_of_ble_eq_true rfl) rfl (fun r I' A' hq => ?_)
  obtain ⟨rfl, rfl, rfl⟩ := hq
  refine V.st (st' := [.int (nI 0)]) (by rw [bI_f (by decide)]; rfl) ?_
  refine V.if_eq (tgt := 57) dX5_takenOf_32 (by decide) (fun _ => ?_) (fun z => absurd z (by decide))
  refine V.iincN (ls' := [(0, .ref 1), (1, .int (nI s)), (2, .int (nI 1)), (3, .int (nI 1)), (4, .int (nI 1)), (5, .int (nI 3))]) dX5_takenOf_57 (j := 5) rfl (by decide) rfl ?_
  refine V.goto (tgt := 20) dX5_takenOf_60 (by decide) ?_
  refine V.iload (j := 5) rfl dX5_takenOf_20 ?_
  refine V.iconst (v := nI 3) (by decide) dX5_takenOf_22 ?_
  refine V.icmp_ge (tgt := 63) dX5_takenOf_23 (by decide) (fun _ => ?_) (fun z => absurd z (by decide))
  refine V.iconst (v := (-1)) (by decide) dX5_takenOf_63 ?_
  refine V.ri dX5_takenOf_64 rfl ?_
  exact ⟨rfl, rfl, rfl⟩
set_option maxRecDepth 100000 in
set_option maxHeartbeats 4000000 in
theorem cd_taken2_0 {G : am_G} (I A : Nat → Nat → Int32) (hst : am_sta G) (s : Nat) (hs : s < 60) (k : Nat) (hk10 : k ≤ 10) (hk : A 5 s = nI k) (hm : cz_tk k = nI 2) : Cm G MX5_takenOf 1 22 [.ref 1, .int (nI s), .int (nI 0)] I A (fun r I' A' => r = some (.int (A 7 s)) ∧ I = I' ∧ A = A') := by
  refine Cm.of (by decide) (Nat.le_of_ble_eq_true rfl) rfl ?_
  show V G MX5_takenOf (am_R 1 22 0 0) _ 0 0 0 [(0, .ref 1), (1, .int (nI s)), (2, .int (nI 0))] [] (hp I A)
  refine V.getsN (a := 1) dX5_takenOf_0 (by decide) gX5_76 ?_
  refine V.aload_n (j := 0) rfl dX5_takenOf_3 ?_
  refine V.getr (q := 4) dX5_takenOf_4 fX5_23 rfl rfl ?_
  refine V.getr (q := 5) dX5_takenOf_7 fX5_79 rfl rfl ?_
  refine V.iload_n (j := 1) rfl dX5_takenOf_10 ?_
  refine V.lda (v := nI k) dX5_takenOf_11 rfl (by omega) (by decide) hk ?_
  refine V.ildL (v := nI 2) dX5_takenOf_12 (by decide) (by rw [hst.2.1]; exact vp_in_nI (by omega) (by decide)) (by rw [nI_clamp (by omega), hst.2.2.2 k (by omega)]; exact hm) ?_
  refine V.istore_n (ls' := [(0, .ref 1), (1, .int (nI s)), (2, .int (nI 0)), (3, .int (nI 2))]) dX5_takenOf_13 (by decide) rfl ?_
  refine V.iconst (v := nI 0) (by decide) dX5_takenOf_14 ?_
  refine V.istore (ls' := [(0, .ref 1), (1, .int (nI s)), (2, .int (nI 0)), (3, .int (nI 2)), (4, .int (nI 0))]) dX5_takenOf_15 (by decide) rfl ?_
  refine V.iconst (v := nI 0) (by decide) dX5_takenOf_17 ?_
  refine V.istore (ls' := [(0, .ref 1), (1, .int (nI s)), (2, .int (nI 0)), (3, .int (nI 2)), (4, .int (nI 0)), (5, .int (nI 0))]) dX5_takenOf_18 (by decide) rfl ?_
  refine V.iload (j := 5) rfl dX5_takenOf_20 ?_
  refine V.iconst (v := nI 3) (by decide) dX5_takenOf_22 ?_
  refine V.icmp_ge (tgt := 63) dX5_takenOf_23 (by decide) (fun z => absurd z (by decide)) (fun _ => ?_)
  refine V.iload_n (j := 3) rfl dX5_takenOf_26 ?_
  refine V.iload (j := 5) rfl dX5_takenOf_27 ?_
  refine V.cSN (As := [.int (nI 2), .int (nI 0)]) (st := []) dX5_takenOf_29 sX5_58 zX7_has (cd_has I A _ 0 (by omega)) ⟨by decide, by decide⟩ (Nat.le_of_ble_eq_true rfl) rfl (fun r I' A' hq => ?_)
  obtain ⟨rfl, rfl, rfl⟩ := hq
  refine V.st (st' := [.int (nI 0)]) (by rw [bI_f (by decide)]; rfl) ?_
  refine V.if_eq (tgt := 57) dX5_takenOf_32 (by decide) (fun _ => ?_) (fun z => absurd z (by decide))
  refine V.iincN (ls' := [(0, .ref 1), (1, .int (nI s)), (2, .int (nI 0)), (3, .int (nI 2)), (4, .int (nI 0)), (5, .int (nI 1))]) dX5_takenOf_57 (j := 5) rfl (by decide) rfl ?_
  refine V.goto (tgt := 20) dX5_takenOf_60 (by decide) ?_
  refine V.iload (j := 5) rfl dX5_takenOf_20 ?_
  refine V.iconst (v := nI 3) (by decide) dX5_takenOf_22 ?_
  refine V.icmp_ge (tgt := 63) dX5_takenOf_23 (by decide) (fun z => absurd z (by decide)) (fun _ => ?_)
  refine V.iload_n (j := 3) rfl dX5_takenOf_26 ?_
  refine V.iload (j := 5) rfl dX5_takenOf_27 ?_
  refine V.cSN (As := [.int (nI 2), .int (nI 1)]) (st := []) dX5_takenOf_29 sX5_58 zX7_has (cd_has I A _ 1 (by omega)) ⟨by decide, by decide⟩ (Nat.le_of_ble_eq_true rfl) rfl (fun r I' A' hq => ?_)
  obtain ⟨rfl, rfl, rfl⟩ := hq
  refine V.st (st' := [.int (nI 1)]) (by rw [bI_t (by decide)]; rfl) ?_
  refine V.if_eq (tgt := 57) dX5_takenOf_32 (by decide) (fun z => absurd z (by decide)) (fun _ => ?_)
  refine V.iload (j := 4) rfl dX5_takenOf_35 ?_
  refine V.iload_n (j := 2) rfl dX5_takenOf_37 ?_
  refine V.icmp_ne (tgt := 54) dX5_takenOf_38 (by decide) (fun z => absurd z (by decide)) (fun _ => ?_)
  refine V.aload_n (j := 0) rfl dX5_takenOf_41 ?_
  refine V.getr (q := 4) dX5_takenOf_42 fX5_23 rfl rfl ?_
  refine V.iload_n (j := 1) rfl dX5_takenOf_45 ?_
  refine V.iload (j := 5) rfl dX5_takenOf_46 ?_
  refine V.iconst (v := nI 1) (by decide) dX5_takenOf_48 ?_
  refine V.iaddN dX5_takenOf_49 ?_
  refine V.st (st' := [.int (nI 2), .int (nI s), .ref 4]) rfl ?_
  refine V.cV (As := [.int (nI s), .int (nI 2)]) (st := []) dX5_takenOf_50 sX5_82 iX3_part lX3_part rfl rfl (cd_part4 I A s hs _) ⟨by decide, by decide⟩ (Nat.le_of_ble_eq_true rfl) rfl (fun r I' A' hq => ?_)
  obtain ⟨rfl, rfl, rfl⟩ := hq
  refine V.st (st' := [.int (A 7 s)]) rfl ?_
  refine V.ri dX5_takenOf_53 rfl ?_
  exact ⟨rfl, rfl, rfl⟩
set_option maxRecDepth 100000 in
set_option maxHeartbeats 4000000 in
theorem cd_taken2_1 {G : am_G} (I A : Nat → Nat → Int32) (hst : am_sta G) (s : Nat) (hs : s < 60) (k : Nat) (hk10 : k ≤ 10) (hk : A 5 s = nI k) (hm : cz_tk k = nI 2) : Cm G MX5_takenOf 1 22 [.ref 1, .int (nI s), .int (nI 1)] I A (fun r I' A' => r = some (.int (-1)) ∧ I = I' ∧ A = A') := by
  refine Cm.of (by decide) (Nat.le_of_ble_eq_true rfl) rfl ?_
  show V G MX5_takenOf (am_R 1 22 0 0) _ 0 0 0 [(0, .ref 1), (1, .int (nI s)), (2, .int (nI 1))] [] (hp I A)
  refine V.getsN (a := 1) dX5_takenOf_0 (by decide) gX5_76 ?_
  refine V.aload_n (j := 0) rfl dX5_takenOf_3 ?_
  refine V.getr (q := 4) dX5_takenOf_4 fX5_23 rfl rfl ?_
  refine V.getr (q := 5) dX5_takenOf_7 fX5_79 rfl rfl ?_
  refine V.iload_n (j := 1) rfl dX5_takenOf_10 ?_
  refine V.lda (v := nI k) dX5_takenOf_11 rfl (by omega) (by decide) hk ?_
  refine V.ildL (v := nI 2) dX5_takenOf_12 (by decide) (by rw [hst.2.1]; exact vp_in_nI (by omega) (by decide)) (by rw [nI_clamp (by omega), hst.2.2.2 k (by omega)]; exact hm) ?_
  refine V.istore_n (ls' := [(0, .ref 1), (1, .int (nI s)), (2, .int (nI 1)), (3, .int (nI 2))]) dX5_takenOf_13 (by decide) rfl ?_
  refine V.iconst (v := nI 0) (by decide) dX5_takenOf_14 ?_
  refine V.istore (ls' := [(0, .ref 1), (1, .int (nI s)), (2, .int (nI 1)), (3, .int (nI 2)), (4, .int (nI 0))]) dX5_takenOf_15 (by decide) rfl ?_
  refine V.iconst (v := nI 0) (by decide) dX5_takenOf_17 ?_
  refine V.istore (ls' := [(0, .ref 1), (1, .int (nI s)), (2, .int (nI 1)), (3, .int (nI 2)), (4, .int (nI 0)), (5, .int (nI 0))]) dX5_takenOf_18 (by decide) rfl ?_
  refine V.iload (j := 5) rfl dX5_takenOf_20 ?_
  refine V.iconst (v := nI 3) (by decide) dX5_takenOf_22 ?_
  refine V.icmp_ge (tgt := 63) dX5_takenOf_23 (by decide) (fun z => absurd z (by decide)) (fun _ => ?_)
  refine V.iload_n (j := 3) rfl dX5_takenOf_26 ?_
  refine V.iload (j := 5) rfl dX5_takenOf_27 ?_
  refine V.cSN (As := [.int (nI 2), .int (nI 0)]) (st := []) dX5_takenOf_29 sX5_58 zX7_has (cd_has I A _ 0 (by omega)) ⟨by decide, by decide⟩ (Nat.le_of_ble_eq_true rfl) rfl (fun r I' A' hq => ?_)
  obtain ⟨rfl, rfl, rfl⟩ := hq
  refine V.st (st' := [.int (nI 0)]) (by rw [bI_f (by decide)]; rfl) ?_
  refine V.if_eq (tgt := 57) dX5_takenOf_32 (by decide) (fun _ => ?_) (fun z => absurd z (by decide))
  refine V.iincN (ls' := [(0, .ref 1), (1, .int (nI s)), (2, .int (nI 1)), (3, .int (nI 2)), (4, .int (nI 0)), (5, .int (nI 1))]) dX5_takenOf_57 (j := 5) rfl (by decide) rfl ?_
  refine V.goto (tgt := 20) dX5_takenOf_60 (by decide) ?_
  refine V.iload (j := 5) rfl dX5_takenOf_20 ?_
  refine V.iconst (v := nI 3) (by decide) dX5_takenOf_22 ?_
  refine V.icmp_ge (tgt := 63) dX5_takenOf_23 (by decide) (fun z => absurd z (by decide)) (fun _ => ?_)
  refine V.iload_n (j := 3) rfl dX5_takenOf_26 ?_
  refine V.iload (j := 5) rfl dX5_takenOf_27 ?_
  refine V.cSN (As := [.int (nI 2), .int (nI 1)]) (st := []) dX5_takenOf_29 sX5_58 zX7_has (cd_has I A _ 1 (by omega)) ⟨by decide, by decide⟩ (Nat.le_of_ble_eq_true rfl) rfl (fun r I' A' hq => ?_)
  obtain ⟨rfl, rfl, rfl⟩ := hq
  refine V.st (st' := [.int (nI 1)]) (by rw [bI_t (by decide)]; rfl) ?_
  refine V.if_eq (tgt := 57) dX5_takenOf_32 (by decide) (fun z => absurd z (by decide)) (fun _ => ?_)
  refine V.iload (j := 4) rfl dX5_takenOf_35 ?_
  refine V.iload_n (j := 2) rfl dX5_takenOf_37 ?_
  refine V.icmp_ne (tgt := 54) dX5_takenOf_38 (by decide) (fun _ => ?_) (fun z => absurd z (by decide))
  refine V.iincN (ls' := [(0, .ref 1), (1, .int (nI s)), (2, .int (nI 1)), (3, .int (nI 2)), (4, .int (nI 1)), (5, .int (nI 1))]) dX5_takenOf_54 (j := 4) rfl (by decide) rfl ?_
  refine V.iincN (ls' := [(0, .ref 1), (1, .int (nI s)), (2, .int (nI 1)), (3, .int (nI 2)), (4, .int (nI 1)), (5, .int (nI 2))]) dX5_takenOf_57 (j := 5) rfl (by decide) rfl ?_
  refine V.goto (tgt := 20) dX5_takenOf_60 (by decide) ?_
  refine V.iload (j := 5) rfl dX5_takenOf_20 ?_
  refine V.iconst (v := nI 3) (by decide) dX5_takenOf_22 ?_
  refine V.icmp_ge (tgt := 63) dX5_takenOf_23 (by decide) (fun z => absurd z (by decide)) (fun _ => ?_)
  refine V.iload_n (j := 3) rfl dX5_takenOf_26 ?_
  refine V.iload (j := 5) rfl dX5_takenOf_27 ?_
  refine V.cSN (As := [.int (nI 2), .int (nI 2)]) (st := []) dX5_takenOf_29 sX5_58 zX7_has (cd_has I A _ 2 (by omega)) ⟨by decide, by decide⟩ (Nat.le_of_ble_eq_true rfl) rfl (fun r I' A' hq => ?_)
  obtain ⟨rfl, rfl, rfl⟩ := hq
  refine V.st (st' := [.int (nI 0)]) (by rw [bI_f (by decide)]; rfl) ?_
  refine V.if_eq (tgt := 57) dX5_takenOf_32 (by decide) (fun _ => ?_) (fun z => absurd z (by decide))
  refine V.iincN (ls' := [(0, .ref 1), (1, .int (nI s)), (2, .int (nI 1)), (3, .int (nI 2)), (4, .int (nI 1)), (5, .int (nI 3))]) dX5_takenOf_57 (j := 5) rfl (by decide) rfl ?_
  refine V.goto (tgt := 20) dX5_takenOf_60 (by decide) ?_
  refine V.iload (j := 5) rfl dX5_takenOf_20 ?_
  refine V.iconst (v := nI 3) (by decide) dX5_takenOf_22 ?_
  refine V.icmp_ge (tgt := 63) dX5_takenOf_23 (by decide) (fun _ => ?_) (fun z => absurd z (by decide))
  refine V.iconst (v := (-1)) (by decide) dX5_takenOf_63 ?_
  refine V.ri dX5_takenOf_64 rfl ?_
  exact ⟨rfl, rfl, rfl⟩
set_option maxRecDepth 100000 in
set_option maxHeartbeats 4000000 in
theorem cd_taken3_0 {G : am_G} (I A : Nat → Nat → Int32) (hst : am_sta G) (s : Nat) (hs : s < 60) (k : Nat) (hk10 : k ≤ 10) (hk : A 5 s = nI k) (hm : cz_tk k = nI 3) : Cm G MX5_takenOf 1 22 [.ref 1, .int (nI s), .int (nI 0)] I A (fun r I' A' => r = some (.int (A 6 s)) ∧ I = I' ∧ A = A') := by
  refine Cm.of (by decide) (Nat.le_of_ble_eq_true rfl) rfl ?_
  show V G MX5_takenOf (am_R 1 22 0 0) _ 0 0 0 [(0, .ref 1), (1, .int (nI s)), (2, .int (nI 0))] [] (hp I A)
  refine V.getsN (a := 1) dX5_takenOf_0 (by decide) gX5_76 ?_
  refine V.aload_n (j := 0) rfl dX5_takenOf_3 ?_
  refine V.getr (q := 4) dX5_takenOf_4 fX5_23 rfl rfl ?_
  refine V.getr (q := 5) dX5_takenOf_7 fX5_79 rfl rfl ?_
  refine V.iload_n (j := 1) rfl dX5_takenOf_10 ?_
  refine V.lda (v := nI k) dX5_takenOf_11 rfl (by omega) (by decide) hk ?_
  refine V.ildL (v := nI 3) dX5_takenOf_12 (by decide) (by rw [hst.2.1]; exact vp_in_nI (by omega) (by decide)) (by rw [nI_clamp (by omega), hst.2.2.2 k (by omega)]; exact hm) ?_
  refine V.istore_n (ls' := [(0, .ref 1), (1, .int (nI s)), (2, .int (nI 0)), (3, .int (nI 3))]) dX5_takenOf_13 (by decide) rfl ?_
  refine V.iconst (v := nI 0) (by decide) dX5_takenOf_14 ?_
  refine V.istore (ls' := [(0, .ref 1), (1, .int (nI s)), (2, .int (nI 0)), (3, .int (nI 3)), (4, .int (nI 0))]) dX5_takenOf_15 (by decide) rfl ?_
  refine V.iconst (v := nI 0) (by decide) dX5_takenOf_17 ?_
  refine V.istore (ls' := [(0, .ref 1), (1, .int (nI s)), (2, .int (nI 0)), (3, .int (nI 3)), (4, .int (nI 0)), (5, .int (nI 0))]) dX5_takenOf_18 (by decide) rfl ?_
  refine V.iload (j := 5) rfl dX5_takenOf_20 ?_
  refine V.iconst (v := nI 3) (by decide) dX5_takenOf_22 ?_
  refine V.icmp_ge (tgt := 63) dX5_takenOf_23 (by decide) (fun z => absurd z (by decide)) (fun _ => ?_)
  refine V.iload_n (j := 3) rfl dX5_takenOf_26 ?_
  refine V.iload (j := 5) rfl dX5_takenOf_27 ?_
  refine V.cSN (As := [.int (nI 3), .int (nI 0)]) (st := []) dX5_takenOf_29 sX5_58 zX7_has (cd_has I A _ 0 (by omega)) ⟨by decide, by decide⟩ (Nat.le_of_ble_eq_true rfl) rfl (fun r I' A' hq => ?_)
  obtain ⟨rfl, rfl, rfl⟩ := hq
  refine V.st (st' := [.int (nI 1)]) (by rw [bI_t (by decide)]; rfl) ?_
  refine V.if_eq (tgt := 57) dX5_takenOf_32 (by decide) (fun z => absurd z (by decide)) (fun _ => ?_)
  refine V.iload (j := 4) rfl dX5_takenOf_35 ?_
  refine V.iload_n (j := 2) rfl dX5_takenOf_37 ?_
  refine V.icmp_ne (tgt := 54) dX5_takenOf_38 (by decide) (fun z => absurd z (by decide)) (fun _ => ?_)
  refine V.aload_n (j := 0) rfl dX5_takenOf_41 ?_
  refine V.getr (q := 4) dX5_takenOf_42 fX5_23 rfl rfl ?_
  refine V.iload_n (j := 1) rfl dX5_takenOf_45 ?_
  refine V.iload (j := 5) rfl dX5_takenOf_46 ?_
  refine V.iconst (v := nI 1) (by decide) dX5_takenOf_48 ?_
  refine V.iaddN dX5_takenOf_49 ?_
  refine V.st (st' := [.int (nI 1), .int (nI s), .ref 4]) rfl ?_
  refine V.cV (As := [.int (nI s), .int (nI 1)]) (st := []) dX5_takenOf_50 sX5_82 iX3_part lX3_part rfl rfl (cd_part4 I A s hs _) ⟨by decide, by decide⟩ (Nat.le_of_ble_eq_true rfl) rfl (fun r I' A' hq => ?_)
  obtain ⟨rfl, rfl, rfl⟩ := hq
  refine V.st (st' := [.int (A 6 s)]) rfl ?_
  refine V.ri dX5_takenOf_53 rfl ?_
  exact ⟨rfl, rfl, rfl⟩
set_option maxRecDepth 100000 in
set_option maxHeartbeats 4000000 in
theorem cd_taken3_1 {G : am_G} (I A : Nat → Nat → Int32) (hst : am_sta G) (s : Nat) (hs : s < 60) (k : Nat) (hk10 : k ≤ 10) (hk : A 5 s = nI k) (hm : cz_tk k = nI 3) : Cm G MX5_takenOf 1 22 [.ref 1, .int (nI s), .int (nI 1)] I A (fun r I' A' => r = some (.int (A 7 s)) ∧ I = I' ∧ A = A') := by
  refine Cm.of (by decide) (Nat.le_of_ble_eq_true rfl) rfl ?_
  show V G MX5_takenOf (am_R 1 22 0 0) _ 0 0 0 [(0, .ref 1), (1, .int (nI s)), (2, .int (nI 1))] [] (hp I A)
  refine V.getsN (a := 1) dX5_takenOf_0 (by decide) gX5_76 ?_
  refine V.aload_n (j := 0) rfl dX5_takenOf_3 ?_
  refine V.getr (q := 4) dX5_takenOf_4 fX5_23 rfl rfl ?_
  refine V.getr (q := 5) dX5_takenOf_7 fX5_79 rfl rfl ?_
  refine V.iload_n (j := 1) rfl dX5_takenOf_10 ?_
  refine V.lda (v := nI k) dX5_takenOf_11 rfl (by omega) (by decide) hk ?_
  refine V.ildL (v := nI 3) dX5_takenOf_12 (by decide) (by rw [hst.2.1]; exact vp_in_nI (by omega) (by decide)) (by rw [nI_clamp (by omega), hst.2.2.2 k (by omega)]; exact hm) ?_
  refine V.istore_n (ls' := [(0, .ref 1), (1, .int (nI s)), (2, .int (nI 1)), (3, .int (nI 3))]) dX5_takenOf_13 (by decide) rfl ?_
  refine V.iconst (v := nI 0) (by decide) dX5_takenOf_14 ?_
  refine V.istore (ls' := [(0, .ref 1), (1, .int (nI s)), (2, .int (nI 1)), (3, .int (nI 3)), (4, .int (nI 0))]) dX5_takenOf_15 (by decide) rfl ?_
  refine V.iconst (v := nI 0) (by decide) dX5_takenOf_17 ?_
  refine V.istore (ls' := [(0, .ref 1), (1, .int (nI s)), (2, .int (nI 1)), (3, .int (nI 3)), (4, .int (nI 0)), (5, .int (nI 0))]) dX5_takenOf_18 (by decide) rfl ?_
  refine V.iload (j := 5) rfl dX5_takenOf_20 ?_
  refine V.iconst (v := nI 3) (by decide) dX5_takenOf_22 ?_
  refine V.icmp_ge (tgt := 63) dX5_takenOf_23 (by decide) (fun z => absurd z (by decide)) (fun _ => ?_)
  refine V.iload_n (j := 3) rfl dX5_takenOf_26 ?_
  refine V.iload (j := 5) rfl dX5_takenOf_27 ?_
  refine V.cSN (As := [.int (nI 3), .int (nI 0)]) (st := []) dX5_takenOf_29 sX5_58 zX7_has (cd_has I A _ 0 (by omega)) ⟨by decide, by decide⟩ (Nat.le_of_ble_eq_true rfl) rfl (fun r I' A' hq => ?_)
  obtain ⟨rfl, rfl, rfl⟩ := hq
  refine V.st (st' := [.int (nI 1)]) (by rw [bI_t (by decide)]; rfl) ?_
  refine V.if_eq (tgt := 57) dX5_takenOf_32 (by decide) (fun z => absurd z (by decide)) (fun _ => ?_)
  refine V.iload (j := 4) rfl dX5_takenOf_35 ?_
  refine V.iload_n (j := 2) rfl dX5_takenOf_37 ?_
  refine V.icmp_ne (tgt := 54) dX5_takenOf_38 (by decide) (fun _ => ?_) (fun z => absurd z (by decide))
  refine V.iincN (ls' := [(0, .ref 1), (1, .int (nI s)), (2, .int (nI 1)), (3, .int (nI 3)), (4, .int (nI 1)), (5, .int (nI 0))]) dX5_takenOf_54 (j := 4) rfl (by decide) rfl ?_
  refine V.iincN (ls' := [(0, .ref 1), (1, .int (nI s)), (2, .int (nI 1)), (3, .int (nI 3)), (4, .int (nI 1)), (5, .int (nI 1))]) dX5_takenOf_57 (j := 5) rfl (by decide) rfl ?_
  refine V.goto (tgt := 20) dX5_takenOf_60 (by decide) ?_
  refine V.iload (j := 5) rfl dX5_takenOf_20 ?_
  refine V.iconst (v := nI 3) (by decide) dX5_takenOf_22 ?_
  refine V.icmp_ge (tgt := 63) dX5_takenOf_23 (by decide) (fun z => absurd z (by decide)) (fun _ => ?_)
  refine V.iload_n (j := 3) rfl dX5_takenOf_26 ?_
  refine V.iload (j := 5) rfl dX5_takenOf_27 ?_
  refine V.cSN (As := [.int (nI 3), .int (nI 1)]) (st := []) dX5_takenOf_29 sX5_58 zX7_has (cd_has I A _ 1 (by omega)) ⟨by decide, by decide⟩ (Nat.le_of_ble_eq_true rfl) rfl (fun r I' A' hq => ?_)
  obtain ⟨rfl, rfl, rfl⟩ := hq
  refine V.st (st' := [.int (nI 1)]) (by rw [bI_t (by decide)]; rfl) ?_
  refine V.if_eq (tgt := 57) dX5_takenOf_32 (by decide) (fun z => absurd z (by decide)) (fun _ => ?_)
  refine V.iload (j := 4) rfl dX5_takenOf_35 ?_
  refine V.iload_n (j := 2) rfl dX5_takenOf_37 ?_
  refine V.icmp_ne (tgt := 54) dX5_takenOf_38 (by decide) (fun z => absurd z (by decide)) (fun _ => ?_)
  refine V.aload_n (j := 0) rfl dX5_takenOf_41 ?_
  refine V.getr (q := 4) dX5_takenOf_42 fX5_23 rfl rfl ?_
  refine V.iload_n (j := 1) rfl dX5_takenOf_45 ?_
  refine V.iload (j := 5) rfl dX5_takenOf_46 ?_
  refine V.iconst (v := nI 1) (by decide) dX5_takenOf_48 ?_
  refine V.iaddN dX5_takenOf_49 ?_
  refine V.st (st' := [.int (nI 2), .int (nI s), .ref 4]) rfl ?_
  refine V.cV (As := [.int (nI s), .int (nI 2)]) (st := []) dX5_takenOf_50 sX5_82 iX3_part lX3_part rfl rfl (cd_part4 I A s hs _) ⟨by decide, by decide⟩ (Nat.le_of_ble_eq_true rfl) rfl (fun r I' A' hq => ?_)
  obtain ⟨rfl, rfl, rfl⟩ := hq
  refine V.st (st' := [.int (A 7 s)]) rfl ?_
  refine V.ri dX5_takenOf_53 rfl ?_
  exact ⟨rfl, rfl, rfl⟩
set_option maxRecDepth 100000 in
set_option maxHeartbeats 4000000 in
theorem cd_taken6_0 {G : am_G} (I A : Nat → Nat → Int32) (hst : am_sta G) (s : Nat) (hs : s < 60) (k : Nat) (hk10 : k ≤ 10) (hk : A 5 s = nI k) (hm : cz_tk k = nI 6) : Cm G MX5_takenOf 1 22 [.ref 1, .int (nI s), .int (nI 0)] I A (fun r I' A' => r = some (.int (A 7 s)) ∧ I = I' ∧ A = A') := by
  refine Cm.of (by decide) (Nat.le_of_ble_eq_true rfl) rfl ?_
  show V G MX5_takenOf (am_R 1 22 0 0) _ 0 0 0 [(0, .ref 1), (1, .int (nI s)), (2, .int (nI 0))] [] (hp I A)
  refine V.getsN (a := 1) dX5_takenOf_0 (by decide) gX5_76 ?_
  refine V.aload_n (j := 0) rfl dX5_takenOf_3 ?_
  refine V.getr (q := 4) dX5_takenOf_4 fX5_23 rfl rfl ?_
  refine V.getr (q := 5) dX5_takenOf_7 fX5_79 rfl rfl ?_
  refine V.iload_n (j := 1) rfl dX5_takenOf_10 ?_
  refine V.lda (v := nI k) dX5_takenOf_11 rfl (by omega) (by decide) hk ?_
  refine V.ildL (v := nI 6) dX5_takenOf_12 (by decide) (by rw [hst.2.1]; exact vp_in_nI (by omega) (by decide)) (by rw [nI_clamp (by omega), hst.2.2.2 k (by omega)]; exact hm) ?_
  refine V.istore_n (ls' := [(0, .ref 1), (1, .int (nI s)), (2, .int (nI 0)), (3, .int (nI 6))]) dX5_takenOf_13 (by decide) rfl ?_
  refine V.iconst (v := nI 0) (by decide) dX5_takenOf_14 ?_
  refine V.istore (ls' := [(0, .ref 1), (1, .int (nI s)), (2, .int (nI 0)), (3, .int (nI 6)), (4, .int (nI 0))]) dX5_takenOf_15 (by decide) rfl ?_
  refine V.iconst (v := nI 0) (by decide) dX5_takenOf_17 ?_
  refine V.istore (ls' := [(0, .ref 1), (1, .int (nI s)), (2, .int (nI 0)), (3, .int (nI 6)), (4, .int (nI 0)), (5, .int (nI 0))]) dX5_takenOf_18 (by decide) rfl ?_
  refine V.iload (j := 5) rfl dX5_takenOf_20 ?_
  refine V.iconst (v := nI 3) (by decide) dX5_takenOf_22 ?_
  refine V.icmp_ge (tgt := 63) dX5_takenOf_23 (by decide) (fun z => absurd z (by decide)) (fun _ => ?_)
  refine V.iload_n (j := 3) rfl dX5_takenOf_26 ?_
  refine V.iload (j := 5) rfl dX5_takenOf_27 ?_
  refine V.cSN (As := [.int (nI 6), .int (nI 0)]) (st := []) dX5_takenOf_29 sX5_58 zX7_has (cd_has I A _ 0 (by omega)) ⟨by decide, by decide⟩ (Nat.le_of_ble_eq_true rfl) rfl (fun r I' A' hq => ?_)
  obtain ⟨rfl, rfl, rfl⟩ := hq
  refine V.st (st' := [.int (nI 0)]) (by rw [bI_f (by decide)]; rfl) ?_
  refine V.if_eq (tgt := 57) dX5_takenOf_32 (by decide) (fun _ => ?_) (fun z => absurd z (by decide))
  refine V.iincN (ls' := [(0, .ref 1), (1, .int (nI s)), (2, .int (nI 0)), (3, .int (nI 6)), (4, .int (nI 0)), (5, .int (nI 1))]) dX5_takenOf_57 (j := 5) rfl (by decide) rfl ?_
  refine V.goto (tgt := 20) dX5_takenOf_60 (by decide) ?_
  refine V.iload (j := 5) rfl dX5_takenOf_20 ?_
  refine V.iconst (v := nI 3) (by decide) dX5_takenOf_22 ?_
  refine V.icmp_ge (tgt := 63) dX5_takenOf_23 (by decide) (fun z => absurd z (by decide)) (fun _ => ?_)
  refine V.iload_n (j := 3) rfl dX5_takenOf_26 ?_
  refine V.iload (j := 5) rfl dX5_takenOf_27 ?_
  refine V.cSN (As := [.int (nI 6), .int (nI 1)]) (st := []) dX5_takenOf_29 sX5_58 zX7_has (cd_has I A _ 1 (by omega)) ⟨by decide, by decide⟩ (Nat.le_of_ble_eq_true rfl) rfl (fun r I' A' hq => ?_)
  obtain ⟨rfl, rfl, rfl⟩ := hq
  refine V.st (st' := [.int (nI 1)]) (by rw [bI_t (by decide)]; rfl) ?_
  refine V.if_eq (tgt := 57) dX5_takenOf_32 (by decide) (fun z => absurd z (by decide)) (fun _ => ?_)
  refine V.iload (j := 4) rfl dX5_takenOf_35 ?_
  refine V.iload_n (j := 2) rfl dX5_takenOf_37 ?_
  refine V.icmp_ne (tgt := 54) dX5_takenOf_38 (by decide) (fun z => absurd z (by decide)) (fun _ => ?_)
  refine V.aload_n (j := 0) rfl dX5_takenOf_41 ?_
  refine V.getr (q := 4) dX5_takenOf_42 fX5_23 rfl rfl ?_
  refine V.iload_n (j := 1) rfl dX5_takenOf_45 ?_
  refine V.iload (j := 5) rfl dX5_takenOf_46 ?_
  refine V.iconst (v := nI 1) (by decide) dX5_takenOf_48 ?_
  refine V.iaddN dX5_takenOf_49 ?_
  refine V.st (st' := [.int (nI 2), .int (nI s), .ref 4]) rfl ?_
  refine V.cV (As := [.int (nI s), .int (nI 2)]) (st := []) dX5_takenOf_50 sX5_82 iX3_part lX3_part rfl rfl (cd_part4 I A s hs _) ⟨by decide, by decide⟩ (Nat.le_of_ble_eq_true rfl) rfl (fun r I' A' hq => ?_)
  obtain ⟨rfl, rfl, rfl⟩ := hq
  refine V.st (st' := [.int (A 7 s)]) rfl ?_
  refine V.ri dX5_takenOf_53 rfl ?_
  exact ⟨rfl, rfl, rfl⟩
set_option maxRecDepth 100000 in
set_option maxHeartbeats 4000000 in
theorem cd_taken6_1 {G : am_G} (I A : Nat → Nat → Int32) (hst : am_sta G) (s : Nat) (hs : s < 60) (k : Nat) (hk10 : k ≤ 10) (hk : A 5 s = nI k) (hm : cz_tk k = nI 6) : Cm G MX5_takenOf 1 22 [.ref 1, .int (nI s), .int (nI 1)] I A (fun r I' A' => r = some (.int (A 8 s)) ∧ I = I' ∧ A = A') := by
  refine Cm.of (by decide) (Nat.le_of_ble_eq_true rfl) rfl ?_
  show V G MX5_takenOf (am_R 1 22 0 0) _ 0 0 0 [(0, .ref 1), (1, .int (nI s)), (2, .int (nI 1))] [] (hp I A)
  refine V.getsN (a := 1) dX5_takenOf_0 (by decide) gX5_76 ?_
  refine V.aload_n (j := 0) rfl dX5_takenOf_3 ?_
  refine V.getr (q := 4) dX5_takenOf_4 fX5_23 rfl rfl ?_
  refine V.getr (q := 5) dX5_takenOf_7 fX5_79 rfl rfl ?_
  refine V.iload_n (j := 1) rfl dX5_takenOf_10 ?_
  refine V.lda (v := nI k) dX5_takenOf_11 rfl (by omega) (by decide) hk ?_
  refine V.ildL (v := nI 6) dX5_takenOf_12 (by decide) (by rw [hst.2.1]; exact vp_in_nI (by omega) (by decide)) (by rw [nI_clamp (by omega), hst.2.2.2 k (by omega)]; exact hm) ?_
  refine V.istore_n (ls' := [(0, .ref 1), (1, .int (nI s)), (2, .int (nI 1)), (3, .int (nI 6))]) dX5_takenOf_13 (by decide) rfl ?_
  refine V.iconst (v := nI 0) (by decide) dX5_takenOf_14 ?_
  refine V.istore (ls' := [(0, .ref 1), (1, .int (nI s)), (2, .int (nI 1)), (3, .int (nI 6)), (4, .int (nI 0))]) dX5_takenOf_15 (by decide) rfl ?_
  refine V.iconst (v := nI 0) (by decide) dX5_takenOf_17 ?_
  refine V.istore (ls' := [(0, .ref 1), (1, .int (nI s)), (2, .int (nI 1)), (3, .int (nI 6)), (4, .int (nI 0)), (5, .int (nI 0))]) dX5_takenOf_18 (by decide) rfl ?_
  refine V.iload (j := 5) rfl dX5_takenOf_20 ?_
  refine V.iconst (v := nI 3) (by decide) dX5_takenOf_22 ?_
  refine V.icmp_ge (tgt := 63) dX5_takenOf_23 (by decide) (fun z => absurd z (by decide)) (fun _ => ?_)
  refine V.iload_n (j := 3) rfl dX5_takenOf_26 ?_
  refine V.iload (j := 5) rfl dX5_takenOf_27 ?_
  refine V.cSN (As := [.int (nI 6), .int (nI 0)]) (st := []) dX5_takenOf_29 sX5_58 zX7_has (cd_has I A _ 0 (by omega)) ⟨by decide, by decide⟩ (Nat.le_of_ble_eq_true rfl) rfl (fun r I' A' hq => ?_)
  obtain ⟨rfl, rfl, rfl⟩ := hq
  refine V.st (st' := [.int (nI 0)]) (by rw [bI_f (by decide)]; rfl) ?_
  refine V.if_eq (tgt := 57) dX5_takenOf_32 (by decide) (fun _ => ?_) (fun z => absurd z (by decide))
  refine V.iincN (ls' := [(0, .ref 1), (1, .int (nI s)), (2, .int (nI 1)), (3, .int (nI 6)), (4, .int (nI 0)), (5, .int (nI 1))]) dX5_takenOf_57 (j := 5) rfl (by decide) rfl ?_
  refine V.goto (tgt := 20) dX5_takenOf_60 (by decide) ?_
  refine V.iload (j := 5) rfl dX5_takenOf_20 ?_
  refine V.iconst (v := nI 3) (by decide) dX5_takenOf_22 ?_
  refine V.icmp_ge (tgt := 63) dX5_takenOf_23 (by decide) (fun z => absurd z (by decide)) (fun _ => ?_)
  refine V.iload_n (j := 3) rfl dX5_takenOf_26 ?_
  refine V.iload (j := 5) rfl dX5_takenOf_27 ?_
  refine V.cSN (As := [.int (nI 6), .int (nI 1)]) (st := []) dX5_takenOf_29 sX5_58 zX7_has (cd_has I A _ 1 (by omega)) ⟨by decide, by decide⟩ (Nat.le_of_ble_eq_true rfl) rfl (fun r I' A' hq => ?_)
  obtain ⟨rfl, rfl, rfl⟩ := hq
  refine V.st (st' := [.int (nI 1)]) (by rw [bI_t (by decide)]; rfl) ?_
  refine V.if_eq (tgt := 57) dX5_takenOf_32 (by decide) (fun z => absurd z (by decide)) (fun _ => ?_)
  refine V.iload (j := 4) rfl dX5_takenOf_35 ?_
  refine V.iload_n (j := 2) rfl dX5_takenOf_37 ?_
  refine V.icmp_ne (tgt := 54) dX5_takenOf_38 (by decide) (fun _ => ?_) (fun z => absurd z (by decide))
  refine V.iincN (ls' := [(0, .ref 1), (1, .int (nI s)), (2, .int (nI 1)), (3, .int (nI 6)), (4, .int (nI 1)), (5, .int (nI 1))]) dX5_takenOf_54 (j := 4) rfl (by decide) rfl ?_
  refine V.iincN (ls' := [(0, .ref 1), (1, .int (nI s)), (2, .int (nI 1)), (3, .int (nI 6)), (4, .int (nI 1)), (5, .int (nI 2))]) dX5_takenOf_57 (j := 5) rfl (by decide) rfl ?_
  refine V.goto (tgt := 20) dX5_takenOf_60 (by decide) ?_
  refine V.iload (j := 5) rfl dX5_takenOf_20 ?_
  refine V.iconst (v := nI 3) (by decide) dX5_takenOf_22 ?_
  refine V.icmp_ge (tgt := 63) dX5_takenOf_23 (by decide) (fun z => absurd z (by decide)) (fun _ => ?_)
  refine V.iload_n (j := 3) rfl dX5_takenOf_26 ?_
  refine V.iload (j := 5) rfl dX5_takenOf_27 ?_
  refine V.cSN (As := [.int (nI 6), .int (nI 2)]) (st := []) dX5_takenOf_29 sX5_58 zX7_has (cd_has I A _ 2 (by omega)) ⟨by decide, by decide⟩ (Nat.le_of_ble_eq_true rfl) rfl (fun r I' A' hq => ?_)
  obtain ⟨rfl, rfl, rfl⟩ := hq
  refine V.st (st' := [.int (nI 1)]) (by rw [bI_t (by decide)]; rfl) ?_
  refine V.if_eq (tgt := 57) dX5_takenOf_32 (by decide) (fun z => absurd z (by decide)) (fun _ => ?_)
  refine V.iload (j := 4) rfl dX5_takenOf_35 ?_
  refine V.iload_n (j := 2) rfl dX5_takenOf_37 ?_
  refine V.icmp_ne (tgt := 54) dX5_takenOf_38 (by decide) (fun z => absurd z (by decide)) (fun _ => ?_)
  refine V.aload_n (j := 0) rfl dX5_takenOf_41 ?_
  refine V.getr (q := 4) dX5_takenOf_42 fX5_23 rfl rfl ?_
  refine V.iload_n (j := 1) rfl dX5_takenOf_45 ?_
  refine V.iload (j := 5) rfl dX5_takenOf_46 ?_
  refine V.iconst (v := nI 1) (by decide) dX5_takenOf_48 ?_
  refine V.iaddN dX5_takenOf_49 ?_
  refine V.st (st' := [.int (nI 3), .int (nI s), .ref 4]) rfl ?_
  refine V.cV (As := [.int (nI s), .int (nI 3)]) (st := []) dX5_takenOf_50 sX5_82 iX3_part lX3_part rfl rfl (cd_part4 I A s hs _) ⟨by decide, by decide⟩ (Nat.le_of_ble_eq_true rfl) rfl (fun r I' A' hq => ?_)
  obtain ⟨rfl, rfl, rfl⟩ := hq
  refine V.st (st' := [.int (A 8 s)]) rfl ?_
  refine V.ri dX5_takenOf_53 rfl ?_
  exact ⟨rfl, rfl, rfl⟩
theorem cd_taken_0 {G : am_G} (I A : Nat → Nat → Int32) (hst : am_sta G) (s : Nat) (hs : s < 60) (k : Nat) (hk10 : k ≤ 10) (hk : A 5 s = nI k) : Cm G MX5_takenOf 1 22 [.ref 1, .int (nI s), .int (nI 0)] I A (fun r I' A' => r = some (.int (mz_tak0 (A 5) (A 6) (A 7) s)) ∧ I = I' ∧ A = A') := by
  rcases (show k = 0 ∨ k = 1 ∨ k = 2 ∨ k = 3 ∨ k = 4 ∨ k = 5 ∨ k = 6 ∨ k = 7 ∨ k = 8 ∨ k = 9 ∨ k = 10 by omega) with rfl | rfl | rfl | rfl | rfl | rfl | rfl | rfl | rfl | rfl | rfl
  · have e : mz_tak0 (A 5) (A 6) (A 7) s = -1 := by unfold mz_tak0; rw [hk]; rfl
    rw [e]
    exact cd_taken0_0 I A hst s hs 0 (by omega) hk rfl
  · have e : mz_tak0 (A 5) (A 6) (A 7) s = A 7 s := by unfold mz_tak0; rw [hk]; rfl
    rw [e]
    exact cd_taken2_0 I A hst s hs 1 (by omega) hk rfl
  · have e : mz_tak0 (A 5) (A 6) (A 7) s = A 7 s := by unfold mz_tak0; rw [hk]; rfl
    rw [e]
    exact cd_taken6_0 I A hst s hs 2 (by omega) hk rfl
  · have e : mz_tak0 (A 5) (A 6) (A 7) s = A 7 s := by unfold mz_tak0; rw [hk]; rfl
    rw [e]
    exact cd_taken6_0 I A hst s hs 3 (by omega) hk rfl
  · have e : mz_tak0 (A 5) (A 6) (A 7) s = A 7 s := by unfold mz_tak0; rw [hk]; rfl
    rw [e]
    exact cd_taken6_0 I A hst s hs 4 (by omega) hk rfl
  · have e : mz_tak0 (A 5) (A 6) (A 7) s = A 7 s := by unfold mz_tak0; rw [hk]; rfl
    rw [e]
    exact cd_taken2_0 I A hst s hs 5 (by omega) hk rfl
  · have e : mz_tak0 (A 5) (A 6) (A 7) s = A 6 s := by unfold mz_tak0; rw [hk]; rfl
    rw [e]
    exact cd_taken3_0 I A hst s hs 6 (by omega) hk rfl
  · have e : mz_tak0 (A 5) (A 6) (A 7) s = A 6 s := by unfold mz_tak0; rw [hk]; rfl
    rw [e]
    exact cd_taken3_0 I A hst s hs 7 (by omega) hk rfl
  · have e : mz_tak0 (A 5) (A 6) (A 7) s = -1 := by unfold mz_tak0; rw [hk]; rfl
    rw [e]
    exact cd_taken0_0 I A hst s hs 8 (by omega) hk rfl
  · have e : mz_tak0 (A 5) (A 6) (A 7) s = A 6 s := by unfold mz_tak0; rw [hk]; rfl
    rw [e]
    exact cd_taken1_0 I A hst s hs 9 (by omega) hk rfl
  · have e : mz_tak0 (A 5) (A 6) (A 7) s = -1 := by unfold mz_tak0; rw [hk]; rfl
    rw [e]
    exact cd_taken0_0 I A hst s hs 10 (by omega) hk rfl
theorem cd_taken_1 {G : am_G} (I A : Nat → Nat → Int32) (hst : am_sta G) (s : Nat) (hs : s < 60) (k : Nat) (hk10 : k ≤ 10) (hk : A 5 s = nI k) : Cm G MX5_takenOf 1 22 [.ref 1, .int (nI s), .int (nI 1)] I A (fun r I' A' => r = some (.int (mz_tak1 (A 5) (A 7) (A 8) s)) ∧ I = I' ∧ A = A') := by
  rcases (show k = 0 ∨ k = 1 ∨ k = 2 ∨ k = 3 ∨ k = 4 ∨ k = 5 ∨ k = 6 ∨ k = 7 ∨ k = 8 ∨ k = 9 ∨ k = 10 by omega) with rfl | rfl | rfl | rfl | rfl | rfl | rfl | rfl | rfl | rfl | rfl
  · have e : mz_tak1 (A 5) (A 7) (A 8) s = -1 := by unfold mz_tak1; rw [hk]; rfl
    rw [e]
    exact cd_taken0_1 I A hst s hs 0 (by omega) hk rfl
  · have e : mz_tak1 (A 5) (A 7) (A 8) s = -1 := by unfold mz_tak1; rw [hk]; rfl
    rw [e]
    exact cd_taken2_1 I A hst s hs 1 (by omega) hk rfl
  · have e : mz_tak1 (A 5) (A 7) (A 8) s = A 8 s := by unfold mz_tak1; rw [hk]; rfl
    rw [e]
    exact cd_taken6_1 I A hst s hs 2 (by omega) hk rfl
  · have e : mz_tak1 (A 5) (A 7) (A 8) s = A 8 s := by unfold mz_tak1; rw [hk]; rfl
    rw [e]
    exact cd_taken6_1 I A hst s hs 3 (by omega) hk rfl
  · have e : mz_tak1 (A 5) (A 7) (A 8) s = A 8 s := by unfold mz_tak1; rw [hk]; rfl
    rw [e]
    exact cd_taken6_1 I A hst s hs 4 (by omega) hk rfl
  · have e : mz_tak1 (A 5) (A 7) (A 8) s = -1 := by unfold mz_tak1; rw [hk]; rfl
    rw [e]
    exact cd_taken2_1 I A hst s hs 5 (by omega) hk rfl
  · have e : mz_tak1 (A 5) (A 7) (A 8) s = A 7 s := by unfold mz_tak1; rw [hk]; rfl
    rw [e]
    exact cd_taken3_1 I A hst s hs 6 (by omega) hk rfl
  · have e : mz_tak1 (A 5) (A 7) (A 8) s = A 7 s := by unfold mz_tak1; rw [hk]; rfl
    rw [e]
    exact cd_taken3_1 I A hst s hs 7 (by omega) hk rfl
  · have e : mz_tak1 (A 5) (A 7) (A 8) s = -1 := by unfold mz_tak1; rw [hk]; rfl
    rw [e]
    exact cd_taken0_1 I A hst s hs 8 (by omega) hk rfl
  · have e : mz_tak1 (A 5) (A 7) (A 8) s = -1 := by unfold mz_tak1; rw [hk]; rfl
    rw [e]
    exact cd_taken1_1 I A hst s hs 9 (by omega) hk rfl
  · have e : mz_tak1 (A 5) (A 7) (A 8) s = -1 := by unfold mz_tak1; rw [hk]; rfl
    rw [e]
    exact cd_taken0_1 I A hst s hs 10 (by omega) hk rfl
