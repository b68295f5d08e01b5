set_option maxRecDepth 100000 in
set_option maxHeartbeats 4000000 in
theorem cd_min {G : am_G} (I A : Nat → Nat → Int32) (a b : Int32) : Cm G MJ9_min_7cf53 0 0 [.int a, .int b] I A (fun r I' A' => r = some (.int (if a ≤ b then a else b)) ∧ I = I' ∧ A = A') := by
  refine Cm.ofF (by decide +kernel) (Nat.le_of_ble_eq_true rfl) rfl ?_
  show V G MJ9_min_7cf53 (am_R 0 0 0 0) _ 0 0 0 [(0, .int a), (1, .int b)] [] (hp I A)
  refine V.iload_n (j := 0) rfl dJ9_min_7cf53_0 ?_
  refine V.iload_n (j := 1) rfl dJ9_min_7cf53_1 ?_
  refine V.icmp_gt (tgt := 9) dJ9_min_7cf53_2 (by decide) (fun c1 => ?_) (fun c1 => ?_)
  · refine V.iload_n (j := 1) rfl dJ9_min_7cf53_9 ?_
    refine V.ri dJ9_min_7cf53_10 rfl ?_
    exact ⟨by rw [if_neg (by first | exact c1 | exact Int32.not_lt.mp c1 | exact Int32.not_le.mpr c1)], rfl, rfl⟩
  · refine V.iload_n (j := 0) rfl dJ9_min_7cf53_5 ?_
    refine V.goto (tgt := 10) dJ9_min_7cf53_6 (by decide) ?_
    refine V.ri dJ9_min_7cf53_10 rfl ?_
    exact ⟨by rw [if_pos (by first | exact c1 | exact Int32.not_lt.mp c1 | exact Int32.not_le.mpr c1)], rfl, rfl⟩
set_option maxRecDepth 100000 in
set_option maxHeartbeats 4000000 in
theorem cd_max {G : am_G} (I A : Nat → Nat → Int32) (a b : Int32) : Cm G MJ9_max_7cf53 0 0 [.int a, .int b] I A (fun r I' A' => r = some (.int (if b ≤ a then a else b)) ∧ I = I' ∧ A = A') := by
  refine Cm.ofF (by decide +kernel) (Nat.le_of_ble_eq_true rfl) rfl ?_
  show V G MJ9_max_7cf53 (am_R 0 0 0 0) _ 0 0 0 [(0, .int a), (1, .int b)] [] (hp I A)
  refine V.iload_n (j := 0) rfl dJ9_max_7cf53_0 ?_
  refine V.iload_n (j := 1) rfl dJ9_max_7cf53_1 ?_
  refine V.icmp_lt (tgt := 9) dJ9_max_7cf53_2 (by decide) (fun c1 => ?_) (fun c1 => ?_)
  · refine V.iload_n (j := 1) rfl dJ9_max_7cf53_9 ?_
    refine V.ri dJ9_max_7cf53_10 rfl ?_
    exact ⟨by rw [if_neg (by first | exact c1 | exact Int32.not_lt.mp c1 | exact Int32.not_le.mpr c1)], rfl, rfl⟩
  · refine V.iload_n (j := 0) rfl dJ9_max_7cf53_5 ?_
    refine V.goto (tgt := 10) dJ9_max_7cf53_6 (by decide) ?_
    refine V.ri dJ9_max_7cf53_10 rfl ?_
    exact ⟨by rw [if_pos (by first | exact c1 | exact Int32.not_lt.mp c1 | exact Int32.not_le.mpr c1)], rfl, rfl⟩
set_option maxRecDepth 100000 in
set_option maxHeartbeats 4000000 in
theorem cd_addValue {G : am_G} (I A : Nat → Nat → Int32) (nv : Nat) (hn : I 1 6 = nI nv) (hnv : nv ≤ 24) (hv : nv < 24) (cc : Nat) (hcc : cc < 2) : Cm G MX5_addValue 1 20 [.ref 1, .int (nI cc)] I A (fun r I' A' => r = some (.int (nI nv)) ∧ upI I 1 6 (nI (nv + 1)) = I' ∧ upA (upA A 2 (upd (A 2) nv (nI cc))) 3 (upd (A 3) cc ((A 3 cc) ||| (nI 1 <<< (nI nv &&& 31)))) = A') := by
  refine Cm.of (by decide) (Nat.le_of_ble_eq_true rfl) rfl ?_
  show V G MX5_addValue (am_R 1 20 0 0) _ 0 0 0 [(0, .ref 1), (1, .int (nI cc))] [] (hp I A)
  refine V.aload_n (j := 0) rfl dX5_addValue_0 ?_
  refine V.getr (q := 2) dX5_addValue_1 fX5_9 rfl rfl ?_
  refine V.aload_n (j := 0) rfl dX5_addValue_4 ?_
  refine V.geti (v := nI nv) dX5_addValue_5 fX5_36 rfl rfl hn ?_
  refine V.iload_n (j := 1) rfl dX5_addValue_8 ?_
  refine V.sta (g := upd (A 2) nv (nI cc)) dX5_addValue_9 rfl (by omega) (by decide) rfl ?_
  refine V.aload_n (j := 0) rfl dX5_addValue_10 ?_
  refine V.getr (q := 3) dX5_addValue_11 fX5_15 rfl rfl ?_
  refine V.iload_n (j := 1) rfl dX5_addValue_14 ?_
  refine V.dup2 rfl rfl dX5_addValue_15 ?_
  refine V.lda (v := A 3 cc) dX5_addValue_16 rfl (by omega) (by decide) rfl ?_
  refine V.aload_n (j := 0) rfl dX5_addValue_17 ?_
  refine V.geti (v := nI nv) dX5_addValue_18 fX5_36 rfl rfl hn ?_
  refine V.cSN (As := [.int (nI nv)]) (st := [.int (A 3 cc), .int (nI cc), .ref 3]) dX5_addValue_21 sX5_40 zX7_bit (cd_bit I (upA A 2 (upd (A 2) nv (nI cc))) _) ⟨by decide, by decide⟩ (Nat.le_of_ble_eq_true rfl) rfl (fun r I' A' hq => ?_)
  obtain ⟨rfl, rfl, rfl⟩ := hq
  refine V.st (st' := [.int (nI 1 <<< (nI nv &&& 31)), .int (A 3 cc), .int (nI cc), .ref 3]) rfl ?_
  refine V.ior dX5_addValue_24 ?_
  refine V.sta (g := upd (A 3) cc ((A 3 cc) ||| (nI 1 <<< (nI nv &&& 31)))) dX5_addValue_25 rfl (by omega) (by decide) rfl ?_
  refine V.aload_n (j := 0) rfl dX5_addValue_26 ?_
  refine V.dup rfl dX5_addValue_27 ?_
  refine V.geti (v := nI nv) dX5_addValue_28 fX5_36 rfl rfl hn ?_
  refine V.iconst (v := nI 1) (by decide) dX5_addValue_31 ?_
  refine V.iaddN dX5_addValue_32 ?_
  refine V.puti dX5_addValue_33 pX5_36 rfl rfl ?_
  refine V.aload_n (j := 0) rfl dX5_addValue_36 ?_
  refine V.geti (v := nI (nv + 1)) dX5_addValue_37 fX5_36 rfl rfl rfl ?_
  refine V.iconst (v := nI 1) (by decide) dX5_addValue_40 ?_
  refine V.isubN dX5_addValue_41 (by omega) ?_
  refine V.st (st' := [.int (nI nv)]) rfl ?_
  refine V.ri dX5_addValue_42 rfl ?_
  exact ⟨rfl, rfl, rfl⟩
def cz_putA (A : Nat → Nat → Int32) (ns k : Nat) (a b c : Int32) : Nat → Nat → Int32 := upA (upA (upA (upA (upA (upA (upA A 5 (upd (A 5) ns (nI k))) 6 (upd (A 6) ns a)) 7 (upd (A 7) ns b)) 8 (upd (A 8) ns c)) 9 (upd (A 9) ns (mz_anew (upd (A 5) ns (nI k)) (upd (A 6) ns a) ns))) 10 (upd (A 10) ns (mz_tak0 (upd (A 5) ns (nI k)) (upd (A 6) ns a) (upd (A 7) ns b) ns))) 11 (upd (A 11) ns (mz_tak1 (upd (A 5) ns (nI k)) (upd (A 7) ns b) (upd (A 8) ns c) ns))
set_option maxRecDepth 100000 in
set_option maxHeartbeats 4000000 in
theorem cd_addStep {G : am_G} (I A : Nat → Nat → Int32) (hst : am_sta G) (ns : Nat) (hs : I 4 4 = nI ns) (hns : ns ≤ 60) (hN : ns < 60) (k : Nat) (hk10 : k ≤ 10) (a b c : Int32) : Cm G MX5_addStep 2 47 [.ref 1, .int (nI k), .int a, .int b, .int c] I A (fun r I' A' => r = some (.int (nI ns)) ∧ upI I 4 4 (nI (ns + 1)) = I' ∧ cz_putA A ns k a b c = A') := by
  refine Cm.of (by decide) (Nat.le_of_ble_eq_true rfl) rfl ?_
  show V G MX5_addStep (am_R 2 47 0 0) _ 0 0 0 [(0, .ref 1), (1, .int (nI k)), (2, .int a), (3, .int b), (4, .int c)] [] (hp I A)
  refine V.aload_n (j := 0) rfl dX5_addStep_0 ?_
  refine V.getr (q := 4) dX5_addStep_1 fX5_23 rfl rfl ?_
  refine V.geti (v := nI ns) dX5_addStep_4 fX5_65 rfl rfl hs ?_
  refine V.istore (ls' := [(0, .ref 1), (1, .int (nI k)), (2, .int a), (3, .int b), (4, .int c), (5, .int (nI ns))]) dX5_addStep_7 (by decide) rfl ?_
  refine V.aload_n (j := 0) rfl dX5_addStep_9 ?_
  refine V.getr (q := 4) dX5_addStep_10 fX5_23 rfl rfl ?_
  refine V.iload_n (j := 1) rfl dX5_addStep_13 ?_
  refine V.iload_n (j := 2) rfl dX5_addStep_14 ?_
  refine V.iload_n (j := 3) rfl dX5_addStep_15 ?_
  refine V.iload (j := 4) rfl dX5_addStep_16 ?_
  refine V.cV (As := [.int (nI k), .int a, .int b, .int c]) (st := []) dX5_addStep_18 sX5_68 iX3_add lX3_add rfl rfl (cd_add4 I A ns hs hN _ _ _ _) ⟨by decide, by decide⟩ (Nat.le_of_ble_eq_true rfl) rfl (fun r I' A' hq => ?_)
  obtain ⟨rfl, rfl, rfl⟩ := hq
  refine V.st (st' := []) rfl ?_
  refine V.aload_n (j := 0) rfl dX5_addStep_21 ?_
  refine V.getr (q := 9) dX5_addStep_22 fX5_27 rfl rfl ?_
  refine V.iload (j := 5) rfl dX5_addStep_25 ?_
  refine V.iload_n (j := 1) rfl dX5_addStep_27 ?_
  refine V.iconst (v := nI 5) (by decide) dX5_addStep_28 ?_
  have K1 : V G MX5_addStep (am_R 2 47 0 0) (am_Fin G 0 0 (Pm (fun r I' A' => r = some (.int (nI ns)) ∧ upI I 4 4 (nI (ns + 1)) = I' ∧ cz_putA A ns k a b c = A'))) 0 0 37 [(0, .ref 1), (1, .int (nI k)), (2, .int a), (3, .int b), (4, .int c), (5, .int (nI ns))] [.int (mz_anew (upd (A 5) ns (nI k)) (upd (A 6) ns a) ns), .int (nI ns), .ref 9] (hp (upI I 4 4 (nI (ns + 1))) (upA (upA (upA (upA A 5 (upd (A 5) ns (nI k))) 6 (upd (A 6) ns a)) 7 (upd (A 7) ns b)) 8 (upd (A 8) ns c))) := by
    refine V.sta (g := upd (A 9) ns (mz_anew (upd (A 5) ns (nI k)) (upd (A 6) ns a) ns)) dX5_addStep_37 rfl (by omega) (by decide) rfl ?_
    refine V.aload_n (j := 0) rfl dX5_addStep_38 ?_
    refine V.getr (q := 10) dX5_addStep_39 fX5_30 rfl rfl ?_
    refine V.iload (j := 5) rfl dX5_addStep_42 ?_
    refine V.aload_n (j := 0) rfl dX5_addStep_44 ?_
    refine V.iload (j := 5) rfl dX5_addStep_45 ?_
    refine V.iconst (v := nI 0) (by decide) dX5_addStep_47 ?_
    refine V.cV (As := [.int (nI ns), .int (nI 0)]) (st := [.int (nI ns), .ref 10]) dX5_addStep_48 sX5_72 iX5_takenOf lX5_takenOf rfl rfl (cd_taken_0 (upI I 4 4 (nI (ns + 1))) (upA (upA (upA (upA (upA A 5 (upd (A 5) ns (nI k))) 6 (upd (A 6) ns a)) 7 (upd (A 7) ns b)) 8 (upd (A 8) ns c)) 9 (upd (A 9) ns (mz_anew (upd (A 5) ns (nI k)) (upd (A 6) ns a) ns))) hst ns hN k hk10 (show upd (A 5) ns (nI k) ns = nI k from pk_us)) ⟨by decide, by decide⟩ (Nat.le_of_ble_eq_true rfl) rfl (fun r I' A' hq => ?_)
    obtain ⟨rfl, rfl, rfl⟩ := hq
    refine V.st (st' := [.int (mz_tak0 (upd (A 5) ns (nI k)) (upd (A 6) ns a) (upd (A 7) ns b) ns), .int (nI ns), .ref 10]) rfl ?_
    refine V.sta (g := upd (A 10) ns (mz_tak0 (upd (A 5) ns (nI k)) (upd (A 6) ns a) (upd (A 7) ns b) ns)) dX5_addStep_51 rfl (by omega) (by decide) rfl ?_
    refine V.aload_n (j := 0) rfl dX5_addStep_52 ?_
    refine V.getr (q := 11) dX5_addStep_53 fX5_33 rfl rfl ?_
    refine V.iload (j := 5) rfl dX5_addStep_56 ?_
    refine V.aload_n (j := 0) rfl dX5_addStep_58 ?_
    refine V.iload (j := 5) rfl dX5_addStep_59 ?_
    refine V.iconst (v := nI 1) (by decide) dX5_addStep_61 ?_
    refine V.cV (As := [.int (nI ns), .int (nI 1)]) (st := [.int (nI ns), .ref 11]) dX5_addStep_62 sX5_72 iX5_takenOf lX5_takenOf rfl rfl (cd_taken_1 (upI I 4 4 (nI (ns + 1))) (upA (upA (upA (upA (upA (upA A 5 (upd (A 5) ns (nI k))) 6 (upd (A 6) ns a)) 7 (upd (A 7) ns b)) 8 (upd (A 8) ns c)) 9 (upd (A 9) ns (mz_anew (upd (A 5) ns (nI k)) (upd (A 6) ns a) ns))) 10 (upd (A 10) ns (mz_tak0 (upd (A 5) ns (nI k)) (upd (A 6) ns a) (upd (A 7) ns b) ns))) hst ns hN k hk10 (show upd (A 5) ns (nI k) ns = nI k from pk_us)) ⟨by decide, by decide⟩ (Nat.le_of_ble_eq_true rfl) rfl (fun r I' A' hq => ?_)
    obtain ⟨rfl, rfl, rfl⟩ := hq
    refine V.st (st' := [.int (mz_tak1 (upd (A 5) ns (nI k)) (upd (A 7) ns b) (upd (A 8) ns c) ns), .int (nI ns), .ref 11]) rfl ?_
    refine V.sta (g := upd (A 11) ns (mz_tak1 (upd (A 5) ns (nI k)) (upd (A 7) ns b) (upd (A 8) ns c) ns)) dX5_addStep_65 rfl (by omega) (by decide) rfl ?_
    refine V.iload (j := 5) rfl dX5_addStep_66 ?_
    refine V.ri dX5_addStep_68 rfl ?_
    exact ⟨rfl, rfl, rfl⟩
  refine V.icmp_gtN (tgt := 36) dX5_addStep_29 (by decide) (by omega) (by omega) (fun c2 => ?_) (fun c2 => ?_)
  · refine V.iconst (v := (-1)) (by decide) dX5_addStep_36 ?_
    exact V.st (by unfold mz_anew; rw [pk_us, if_pos (by rw [nI_leI (by omega) (by omega)]; omega)]) K1
  · refine V.iload_n (j := 2) rfl dX5_addStep_32 ?_
    refine V.goto (tgt := 37) dX5_addStep_33 (by decide) ?_
    exact V.st (by unfold mz_anew; rw [pk_us, pk_us, if_neg (by rw [nI_leI (by omega) (by omega)]; omega)]) K1
def cz_vOK (nv : Nat) (c : Int32) : Prop := cz_in 2 c ∧ nv < 24
set_option maxRecDepth 100000 in
set_option maxHeartbeats 4000000 in
theorem ce_value {G : am_G} (I A : Nat → Nat → Int32) (nv : Nat) (hn : I 1 6 = nI nv) (hnv : nv ≤ 24) (c : Int32) : Cm G MX7_value 2 41 [.ref 0, .int c] I A (fun r I' A' => (cz_vOK nv c → ∃ cc, cc < 2 ∧ c = nI cc ∧ r = some (.int (nI nv)) ∧ upI (upI I 0 11 (nI 0)) 1 6 (nI (nv + 1)) = I' ∧ upA (upA A 2 (upd (A 2) nv (nI cc))) 3 (upd (A 3) cc ((A 3 cc) ||| (nI 1 <<< (nI nv &&& 31)))) = A') ∧ (¬ cz_vOK nv c → r = some (.int (-1)) ∧ I = I' ∧ A = A')) := by
  refine Cm.of (by decide) (Nat.le_of_ble_eq_true rfl) rfl ?_
  show V G MX7_value (am_R 2 41 0 0) _ 0 0 0 [(0, .ref 0), (1, .int c)] [] (hp I A)
  refine V.iload_n (j := 1) rfl dX7_value_0 ?_
  refine V.cS (As := [.int c]) (st := []) dX7_value_1 sX7_77 zX7_isClass (cd_isClass I A _) ⟨by decide, by decide⟩ (Nat.le_of_ble_eq_true rfl) rfl (fun r I' A' hq => ?_)
  obtain ⟨rfl, rfl, rfl⟩ := hq
  by_cases b1 : cz_in 2 c
  · refine V.st (st' := [.int (nI 1)]) (by rw [bI_t b1]; rfl) ?_
    obtain ⟨cc, hcc, rfl⟩ := mz_nat (nv := 2) (by decide) b1
    refine V.if_eq (tgt := 19) dX7_value_4 (by decide) (fun z => absurd z (by decide)) (fun _ => ?_)
    refine V.aload_n (j := 0) rfl dX7_value_7 ?_
    refine V.getr (q := 1) dX7_value_8 fX7_12 rfl rfl ?_
    refine V.geti (v := nI nv) dX7_value_11 fX7_81 rfl rfl hn ?_
    refine V.bipush (v := nI 24) (by decide) dX7_value_14 ?_
    refine V.icmp_ltN (tgt := 21) dX7_value_16 (by decide) (by omega) (by omega) (fun c3 => ?_) (fun c3 => ?_)
    · refine V.aload_n (j := 0) rfl dX7_value_21 ?_
      refine V.iconst (v := nI 0) (by decide) dX7_value_22 ?_
      refine V.puti dX7_value_23 pX7_73 rfl rfl ?_
      refine V.aload_n (j := 0) rfl dX7_value_26 ?_
      refine V.getr (q := 1) dX7_value_27 fX7_12 rfl rfl ?_
      refine V.iload_n (j := 1) rfl dX7_value_30 ?_
      refine V.cV (As := [.int (nI cc)]) (st := []) dX7_value_31 sX7_84 iX5_addValue lX5_addValue rfl rfl (cd_addValue (upI I 0 11 (nI 0)) A nv hn hnv (by omega) cc hcc) ⟨by decide, by decide⟩ (Nat.le_of_ble_eq_true rfl) rfl (fun r I' A' hq => ?_)
      obtain ⟨rfl, rfl, rfl⟩ := hq
      refine V.st (st' := [.int (nI nv)]) rfl ?_
      refine V.ri dX7_value_34 rfl ?_
      exact ⟨fun _ => ⟨cc, hcc, rfl, rfl, rfl, rfl⟩, fun z => absurd ⟨b1, c3⟩ z⟩
    · refine V.iconst (v := (-1)) (by decide) dX7_value_19 ?_
      refine V.ri dX7_value_20 rfl ?_
      exact ⟨fun z => absurd z.2 c3, fun _ => ⟨rfl, rfl, rfl⟩⟩
  · refine V.st (st' := [.int (nI 0)]) (by rw [bI_f b1]; rfl) ?_
    refine V.if_eq (tgt := 19) dX7_value_4 (by decide) (fun _ => ?_) (fun z => absurd z (by decide))
    refine V.iconst (v := (-1)) (by decide) dX7_value_19 ?_
    refine V.ri dX7_value_20 rfl ?_
    exact ⟨fun z => absurd z.1 b1, fun _ => ⟨rfl, rfl, rfl⟩⟩
set_option maxRecDepth 100000 in
set_option maxHeartbeats 4000000 in
theorem ce_put {G : am_G} (I A : Nat → Nat → Int32) (hst : am_sta G) (nv : Nat) (hn : I 1 6 = nI nv) (hnv : nv ≤ 24) (ns : Nat) (hs : I 4 4 = nI ns) (hns : ns ≤ 60) (o a b c : Int32) : Cm G MX7_put 3 72 [.ref 0, .int o, .int a, .int b, .int c] I A (fun r I' A' => (mz_pOK nv ns (A 2) o a b c → ∃ k, k ≤ 10 ∧ o = nI k ∧ r = some (.int (nI ns)) ∧ upI (upI I 0 11 (nI 0)) 4 4 (nI (ns + 1)) = I' ∧ cz_putA A ns k a b c = A') ∧ (¬ mz_pOK nv ns (A 2) o a b c → r = some (.int (-1)) ∧ I = I' ∧ A = A')) := by
  refine Cm.of (by decide) (Nat.le_of_ble_eq_true rfl) rfl ?_
  show V G MX7_put (am_R 3 72 0 0) _ 0 0 0 [(0, .ref 0), (1, .int o), (2, .int a), (3, .int b), (4, .int c)] [] (hp I A)
  refine V.aload_n (j := 0) rfl dX7_put_0 ?_
  refine V.getr (q := 1) dX7_put_1 fX7_12 rfl rfl ?_
  refine V.getr (q := 4) dX7_put_4 fX7_88 rfl rfl ?_
  refine V.geti (v := nI ns) dX7_put_7 fX7_91 rfl rfl hs ?_
  refine V.bipush (v := nI 60) (by decide) dX7_put_10 ?_
  refine V.icmp_geN (tgt := 30) dX7_put_12 (by decide) (by omega) (by omega) (fun c1 => ?_) (fun c1 => ?_)
  · refine V.iconst (v := (-1)) (by decide) dX7_put_30 ?_
    refine V.ri dX7_put_31 rfl ?_
    exact ⟨fun z => absurd z.2 (by omega), fun _ => ⟨rfl, rfl, rfl⟩⟩
  · refine V.aload_n (j := 0) rfl dX7_put_15 ?_
    refine V.getr (q := 1) dX7_put_16 fX7_12 rfl rfl ?_
    refine V.iload_n (j := 1) rfl dX7_put_19 ?_
    refine V.iload_n (j := 2) rfl dX7_put_20 ?_
    refine V.iload_n (j := 3) rfl dX7_put_21 ?_
    refine V.iload (j := 4) rfl dX7_put_22 ?_
    refine V.cV (As := [.int o, .int a, .int b, .int c]) (st := []) dX7_put_24 sX7_94 iX5_allows lX5_allows rfl rfl (cd_allows I A hst nv hn hnv _ _ _ _) ⟨by decide, by decide⟩ (Nat.le_of_ble_eq_true rfl) rfl (fun r I' A' hq => ?_)
    obtain ⟨rfl, rfl, rfl⟩ := hq
    by_cases b2 : mz_may nv (A 2) o a b c
    · refine V.st (st' := [.int (nI 1)]) (by rw [bI_t b2]; rfl) ?_
      obtain ⟨k, hk, rfl⟩ := mz_may_le b2
      refine V.if_ne (tgt := 32) dX7_put_27 (by decide) (fun _ => ?_) (fun z => absurd z (by decide))
      refine V.aload_n (j := 0) rfl dX7_put_32 ?_
      refine V.iconst (v := nI 0) (by decide) dX7_put_33 ?_
      refine V.puti dX7_put_34 pX7_73 rfl rfl ?_
      refine V.aload_n (j := 0) rfl dX7_put_37 ?_
      refine V.getr (q := 1) dX7_put_38 fX7_12 rfl rfl ?_
      refine V.iload_n (j := 1) rfl dX7_put_41 ?_
      refine V.iload_n (j := 2) rfl dX7_put_42 ?_
      refine V.iload_n (j := 3) rfl dX7_put_43 ?_
      refine V.iload (j := 4) rfl dX7_put_44 ?_
      refine V.cV (As := [.int (nI k), .int a, .int b, .int c]) (st := []) dX7_put_46 sX7_98 iX5_addStep lX5_addStep rfl rfl (cd_addStep (upI I 0 11 (nI 0)) A hst ns hs hns (by omega) k hk _ _ _) ⟨by decide, by decide⟩ (Nat.le_of_ble_eq_true rfl) rfl (fun r I' A' hq => ?_)
      obtain ⟨rfl, rfl, rfl⟩ := hq
      refine V.st (st' := [.int (nI ns)]) rfl ?_
      refine V.ri dX7_put_49 rfl ?_
      exact ⟨fun _ => ⟨k, hk, rfl, rfl, rfl, rfl⟩, fun z => absurd ⟨b2, by omega⟩ z⟩
    · refine V.st (st' := [.int (nI 0)]) (by rw [bI_f b2]; rfl) ?_
      refine V.if_ne (tgt := 32) dX7_put_27 (by decide) (fun z => absurd z (by decide)) (fun _ => ?_)
      refine V.iconst (v := (-1)) (by decide) dX7_put_30 ?_
      refine V.ri dX7_put_31 rfl ?_
      exact ⟨fun z => absurd z.1 b2, fun _ => ⟨rfl, rfl, rfl⟩⟩
set_option maxRecDepth 100000 in
set_option maxHeartbeats 4000000 in
theorem ce_clear {G : am_G} (I A : Nat → Nat → Int32) (ns : Nat) (hs : I 4 4 = nI ns) (hns : ns ≤ 60) : Cm G MX7_clear 0 0 [.ref 0] I A (fun r I' A' => r = some (.int (nI ns)) ∧ upI (upI I 4 4 (nI 0)) 0 11 (nI 0) = I' ∧ A = A') := by
  refine Cm.of (by decide) (Nat.le_of_ble_eq_true rfl) rfl ?_
  show V G MX7_clear (am_R 0 0 0 0) _ 0 0 0 [(0, .ref 0)] [] (hp I A)
  refine V.aload_n (j := 0) rfl dX7_clear_0 ?_
  refine V.getr (q := 1) dX7_clear_1 fX7_12 rfl rfl ?_
  refine V.getr (q := 4) dX7_clear_4 fX7_88 rfl rfl ?_
  refine V.geti (v := nI ns) dX7_clear_7 fX7_91 rfl rfl hs ?_
  refine V.istore_n (ls' := [(0, .ref 0), (1, .int (nI ns))]) dX7_clear_10 (by decide) rfl ?_
  refine V.aload_n (j := 0) rfl dX7_clear_11 ?_
  refine V.getr (q := 1) dX7_clear_12 fX7_12 rfl rfl ?_
  refine V.getr (q := 4) dX7_clear_15 fX7_88 rfl rfl ?_
  refine V.iconst (v := nI 0) (by decide) dX7_clear_18 ?_
  refine V.puti dX7_clear_19 pX7_91 rfl rfl ?_
  refine V.aload_n (j := 0) rfl dX7_clear_22 ?_
  refine V.iconst (v := nI 0) (by decide) dX7_clear_23 ?_
  refine V.puti dX7_clear_24 pX7_73 rfl rfl ?_
  refine V.iload_n (j := 1) rfl dX7_clear_27 ?_
  refine V.ri dX7_clear_28 rfl ?_
  exact ⟨rfl, rfl, rfl⟩
def cz_rOK (c m : Int32) : Prop := cz_in 2 c ∧ ¬ m < 0 ∧ m ≤ nI 8
set_option maxRecDepth 100000 in
set_option maxHeartbeats 4000000 in
theorem ce_registers {G : am_G} (I A : Nat → Nat → Int32) (c m : Int32) : Cm G MX7_registers 1 20 [.ref 0, .int c, .int m] I A (fun r I' A' => (cz_rOK c m → ∃ cc, cc < 2 ∧ c = nI cc ∧ r = some (.int (nI 1)) ∧ upI I 0 11 (nI 0) = I' ∧ upA A 16 (upd (A 16) cc m) = A') ∧ (¬ cz_rOK c m → r = some (.int (nI 0)) ∧ I = I' ∧ A = A')) := by
  refine Cm.of (by decide) (Nat.le_of_ble_eq_true rfl) rfl ?_
  show V G MX7_registers (am_R 1 20 0 0) _ 0 0 0 [(0, .ref 0), (1, .int c), (2, .int m)] [] (hp I A)
  refine V.iload_n (j := 1) rfl dX7_registers_0 ?_
  refine V.cS (As := [.int c]) (st := []) dX7_registers_1 sX7_77 zX7_isClass (cd_isClass I A _) ⟨by decide, by decide⟩ (Nat.le_of_ble_eq_true rfl) rfl (fun r I' A' hq => ?_)
  obtain ⟨rfl, rfl, rfl⟩ := hq
  by_cases b1 : cz_in 2 c
  · refine V.st (st' := [.int (nI 1)]) (by rw [bI_t b1]; rfl) ?_
    obtain ⟨cc, hcc, rfl⟩ := mz_nat (nv := 2) (by decide) b1
    refine V.if_eq (tgt := 17) dX7_registers_4 (by decide) (fun z => absurd z (by decide)) (fun _ => ?_)
    refine V.iload_n (j := 2) rfl dX7_registers_7 ?_
    refine V.if_lt (tgt := 17) dX7_registers_8 (by decide) (fun c3 => ?_) (fun c3 => ?_)
    · refine V.iconst (v := nI 0) (by decide) dX7_registers_17 ?_
      refine V.ri dX7_registers_18 rfl ?_
      exact ⟨fun z => absurd c3 z.2.1, fun _ => ⟨rfl, rfl, rfl⟩⟩
    · refine V.iload_n (j := 2) rfl dX7_registers_11 ?_
      refine V.bipush (v := nI 8) (by decide) dX7_registers_12 ?_
      refine V.icmp_le (tgt := 19) dX7_registers_14 (by decide) (fun c4 => ?_) (fun c4 => ?_)
      · refine V.aload_n (j := 0) rfl dX7_registers_19 ?_
        refine V.getr (q := 15) dX7_registers_20 fX7_26 rfl rfl ?_
        refine V.getr (q := 16) dX7_registers_23 fX7_102 rfl rfl ?_
        refine V.iload_n (j := 1) rfl dX7_registers_26 ?_
        refine V.iload_n (j := 2) rfl dX7_registers_27 ?_
        refine V.sta (g := upd (A 16) cc (m)) dX7_registers_28 rfl (by omega) (by decide) rfl ?_
        refine V.aload_n (j := 0) rfl dX7_registers_29 ?_
        refine V.iconst (v := nI 0) (by decide) dX7_registers_30 ?_
        refine V.puti dX7_registers_31 pX7_73 rfl rfl ?_
        refine V.iconst (v := nI 1) (by decide) dX7_registers_34 ?_
        refine V.ri dX7_registers_35 rfl ?_
        exact ⟨fun _ => ⟨cc, hcc, rfl, rfl, rfl, rfl⟩, fun z => absurd ⟨b1, c3, c4⟩ z⟩
      · refine V.iconst (v := nI 0) (by decide) dX7_registers_17 ?_
        refine V.ri dX7_registers_18 rfl ?_
        exact ⟨fun z => absurd z.2.2 c4, fun _ => ⟨rfl, rfl, rfl⟩⟩
  · refine V.st (st' := [.int (nI 0)]) (by rw [bI_f b1]; rfl) ?_
    refine V.if_eq (tgt := 17) dX7_registers_4 (by decide) (fun _ => ?_) (fun z => absurd z (by decide))
    refine V.iconst (v := nI 0) (by decide) dX7_registers_17 ?_
    refine V.ri dX7_registers_18 rfl ?_
    exact ⟨fun z => absurd z.1 b1, fun _ => ⟨rfl, rfl, rfl⟩⟩
set_option maxRecDepth 100000 in
set_option maxHeartbeats 4000000 in
theorem ce_memory {G : am_G} (I A : Nat → Nat → Int32) (k v : Int32) : Cm G MX7_memory 1 20 [.ref 0, .int k, .int v] I A (fun r I' A' => (cz_in 64 k → ∃ j, j < 64 ∧ k = nI j ∧ r = some (.int (nI 1)) ∧ I = I' ∧ upA A 35 (upd (A 35) j v) = A') ∧ (¬ cz_in 64 k → r = some (.int (nI 0)) ∧ I = I' ∧ A = A')) := by
  refine Cm.of (by decide) (Nat.le_of_ble_eq_true rfl) rfl ?_
  show V G MX7_memory (am_R 1 20 0 0) _ 0 0 0 [(0, .ref 0), (1, .int k), (2, .int v)] [] (hp I A)
  refine V.iload_n (j := 1) rfl dX7_memory_0 ?_
  refine V.cS (As := [.int k]) (st := []) dX7_memory_1 sX7_105 zX7_isCell (cd_isCell I A _) ⟨by decide, by decide⟩ (Nat.le_of_ble_eq_true rfl) rfl (fun r I' A' hq => ?_)
  obtain ⟨rfl, rfl, rfl⟩ := hq
  by_cases b1 : cz_in 64 k
  · refine V.st (st' := [.int (nI 1)]) (by rw [bI_t b1]; rfl) ?_
    obtain ⟨j, hj, rfl⟩ := mz_nat (nv := 64) (by decide) b1
    refine V.if_ne (tgt := 9) dX7_memory_4 (by decide) (fun _ => ?_) (fun z => absurd z (by decide))
    refine V.aload_n (j := 0) rfl dX7_memory_9 ?_
    refine V.getr (q := 35) dX7_memory_10 fX7_56 rfl rfl ?_
    refine V.iload_n (j := 1) rfl dX7_memory_13 ?_
    refine V.iload_n (j := 2) rfl dX7_memory_14 ?_
    refine V.sta (g := upd (A 35) j (v)) dX7_memory_15 rfl (by omega) (by decide) rfl ?_
    refine V.iconst (v := nI 1) (by decide) dX7_memory_16 ?_
    refine V.ri dX7_memory_17 rfl ?_
    exact ⟨fun _ => ⟨j, hj, rfl, rfl, rfl, rfl⟩, fun z => absurd b1 z⟩
  · refine V.st (st' := [.int (nI 0)]) (by rw [bI_f b1]; rfl) ?_
    refine V.if_ne (tgt := 9) dX7_memory_4 (by decide) (fun z => absurd z (by decide)) (fun _ => ?_)
    refine V.iconst (v := nI 0) (by decide) dX7_memory_7 ?_
    refine V.ri dX7_memory_8 rfl ?_
    exact ⟨fun z => absurd z b1, fun _ => ⟨rfl, rfl, rfl⟩⟩
set_option maxRecDepth 100000 in
set_option maxHeartbeats 4000000 in
theorem ce_cell {G : am_G} (I A : Nat → Nat → Int32) (k : Int32) : Cm G MX7_cell 1 20 [.ref 0, .int k] I A (fun r I' A' => (cz_in 64 k → ∃ j, j < 64 ∧ k = nI j ∧ r = some (.int (A 39 j)) ∧ I = I' ∧ A = A') ∧ (¬ cz_in 64 k → r = some (.int (nI 0)) ∧ I = I' ∧ A = A')) := by
  refine Cm.of (by decide) (Nat.le_of_ble_eq_true rfl) rfl ?_
  show V G MX7_cell (am_R 1 20 0 0) _ 0 0 0 [(0, .ref 0), (1, .int k)] [] (hp I A)
  refine V.iload_n (j := 1) rfl dX7_cell_0 ?_
  refine V.cS (As := [.int k]) (st := []) dX7_cell_1 sX7_105 zX7_isCell (cd_isCell I A _) ⟨by decide, by decide⟩ (Nat.le_of_ble_eq_true rfl) rfl (fun r I' A' hq => ?_)
  obtain ⟨rfl, rfl, rfl⟩ := hq
  by_cases b1 : cz_in 64 k
  · refine V.st (st' := [.int (nI 1)]) (by rw [bI_t b1]; rfl) ?_
    obtain ⟨j, hj, rfl⟩ := mz_nat (nv := 64) (by decide) b1
    refine V.if_eq (tgt := 19) dX7_cell_4 (by decide) (fun z => absurd z (by decide)) (fun _ => ?_)
    refine V.aload_n (j := 0) rfl dX7_cell_7 ?_
    refine V.getr (q := 36) dX7_cell_8 fX7_63 rfl rfl ?_
    refine V.getr (q := 39) dX7_cell_11 fX7_161 rfl rfl ?_
    refine V.iload_n (j := 1) rfl dX7_cell_14 ?_
    refine V.lda (v := A 39 j) dX7_cell_15 rfl (by omega) (by decide) rfl ?_
    refine V.goto (tgt := 20) dX7_cell_16 (by decide) ?_
    refine V.ri dX7_cell_20 rfl ?_
    exact ⟨fun _ => ⟨j, hj, rfl, rfl, rfl, rfl⟩, fun z => absurd b1 z⟩
  · refine V.st (st' := [.int (nI 0)]) (by rw [bI_f b1]; rfl) ?_
    refine V.if_eq (tgt := 19) dX7_cell_4 (by decide) (fun _ => ?_) (fun z => absurd z (by decide))
    refine V.iconst (v := nI 0) (by decide) dX7_cell_19 ?_
    refine V.ri dX7_cell_20 rfl ?_
    exact ⟨fun z => absurd z b1, fun _ => ⟨rfl, rfl, rfl⟩⟩
set_option maxRecDepth 100000 in
set_option maxHeartbeats 4000000 in
theorem ce_made {G : am_G} (I A : Nat → Nat → Int32) (w : Int32) : Cm G MX7_made 0 0 [.ref 0, .int w] I A (fun r I' A' => r = some (.int (if w = nI 0 then I 36 5 else if w = nI 1 then I 36 4 else -1)) ∧ I = I' ∧ A = A') := by
  refine Cm.of (by decide) (Nat.le_of_ble_eq_true rfl) rfl ?_
  show V G MX7_made (am_R 0 0 0 0) _ 0 0 0 [(0, .ref 0), (1, .int w)] [] (hp I A)
  refine V.iload_n (j := 1) rfl dX7_made_0 ?_
  by_cases q1 : w = nI 0
  · refine V.st (st' := [.int (nI 0)]) (by rw [q1]) ?_
    refine V.lookup (tgt := 28) (off := 27) dX7_made_1 (by decide) (by decide) (by decide) ?_
    refine V.aload_n (j := 0) rfl dX7_made_28 ?_
    refine V.getr (q := 36) dX7_made_29 fX7_63 rfl rfl ?_
    refine V.geti (v := I 36 5) dX7_made_32 fX7_148 rfl rfl rfl ?_
    refine V.ri dX7_made_35 rfl ?_
    exact ⟨by rw [if_pos q1], rfl, rfl⟩
  by_cases q2 : w = nI 1
  · refine V.st (st' := [.int (nI 1)]) (by rw [q2]) ?_
    refine V.lookup (tgt := 36) (off := 35) dX7_made_1 (by decide) (by decide) (by decide) ?_
    refine V.aload_n (j := 0) rfl dX7_made_36 ?_
    refine V.getr (q := 36) dX7_made_37 fX7_63 rfl rfl ?_
    refine V.geti (v := I 36 4) dX7_made_40 fX7_151 rfl rfl rfl ?_
    refine V.ri dX7_made_43 rfl ?_
    exact ⟨by rw [if_neg q1, if_pos q2], rfl, rfl⟩
  have tq1 : ¬ (w).toInt = 0 := lv_neT q1 (by decide)
  have tq2 : ¬ (w).toInt = 1 := lv_neT q2 (by decide)
  refine V.lookup (tgt := 44) (off := 43) dX7_made_1 (by decide) (cz_look2 tq1 tq2) (by decide) ?_
  refine V.iconst (v := (-1)) (by decide) dX7_made_44 ?_
  refine V.ri dX7_made_45 rfl ?_
  exact ⟨by rw [if_neg q1, if_neg q2], rfl, rfl⟩
set_option maxRecDepth 100000 in
set_option maxHeartbeats 4000000 in
theorem cd_kept36 {G : am_G} (I A : Nat → Nat → Int32) (t : Nat) (ht : I 36 4 = nI t) (ht2 : t < 4000) : Cm G MX4_wordsKept 1 21 [.ref 36] I A (fun r I' A' => r = some (.int (nI (min t 50))) ∧ I = I' ∧ A = A') := by
  refine Cm.of (by decide) (Nat.le_of_ble_eq_true rfl) rfl ?_
  show V G MX4_wordsKept (am_R 1 21 0 0) _ 0 0 0 [(0, .ref 36)] [] (hp I A)
  refine V.aload_n (j := 0) rfl dX4_wordsKept_0 ?_
  refine V.geti (v := nI t) dX4_wordsKept_1 fX4_24 rfl rfl ht ?_
  refine V.bipush (v := nI 50) (by decide) dX4_wordsKept_4 ?_
  refine V.cS (As := [.int (nI t), .int (nI 50)]) (st := []) dX4_wordsKept_6 sX4_76 zJ9_min_7cf53 (cd_min I A _ _) ⟨by decide, by decide⟩ (Nat.le_of_ble_eq_true rfl) rfl (fun r I' A' hq => ?_)
  obtain ⟨rfl, rfl, rfl⟩ := hq
  refine V.st (st' := [.int (if (nI t) ≤ (nI 50) then nI t else nI 50)]) rfl ?_
  refine V.ri dX4_wordsKept_9 rfl ?_
  refine ⟨?_, rfl, rfl⟩
  by_cases hq : t ≤ 50
  · rw [if_pos ((nI_leI (by omega) (by omega)).mpr hq), Nat.min_eq_left hq]
  · rw [if_neg (fun z => hq ((nI_leI (by omega) (by omega)).mp z)), Nat.min_eq_right (by omega)]
set_option maxRecDepth 100000 in
set_option maxHeartbeats 4000000 in
theorem cd_kept46 {G : am_G} (I A : Nat → Nat → Int32) (t : Nat) (ht : I 46 4 = nI t) (ht2 : t < 4000) : Cm G MX4_wordsKept 1 21 [.ref 46] I A (fun r I' A' => r = some (.int (nI (min t 50))) ∧ I = I' ∧ A = A') := by
  refine Cm.of (by decide) (Nat.le_of_ble_eq_true rfl) rfl ?_
  show V G MX4_wordsKept (am_R 1 21 0 0) _ 0 0 0 [(0, .ref 46)] [] (hp I A)
  refine V.aload_n (j := 0) rfl dX4_wordsKept_0 ?_
  refine V.geti (v := nI t) dX4_wordsKept_1 fX4_24 rfl rfl ht ?_
  refine V.bipush (v := nI 50) (by decide) dX4_wordsKept_4 ?_
  refine V.cS (As := [.int (nI t), .int (nI 50)]) (st := []) dX4_wordsKept_6 sX4_76 zJ9_min_7cf53 (cd_min I A _ _) ⟨by decide, by decide⟩ (Nat.le_of_ble_eq_true rfl) rfl (fun r I' A' hq => ?_)
  obtain ⟨rfl, rfl, rfl⟩ := hq
  refine V.st (st' := [.int (if (nI t) ≤ (nI 50) then nI t else nI 50)]) rfl ?_
  refine V.ri dX4_wordsKept_9 rfl ?_
  refine ⟨?_, rfl, rfl⟩
  by_cases hq : t ≤ 50
  · rw [if_pos ((nI_leI (by omega) (by omega)).mpr hq), Nat.min_eq_left hq]
  · rw [if_neg (fun z => hq ((nI_leI (by omega) (by omega)).mp z)), Nat.min_eq_right (by omega)]
set_option maxRecDepth 100000 in
set_option maxHeartbeats 4000000 in
theorem ce_said {G : am_G} (I A : Nat → Nat → Int32) (t : Nat) (ht : I 36 4 = nI t) (ht2 : t < 4000) (k : Int32) : Cm G MX7_said 2 41 [.ref 0, .int k] I A (fun r I' A' => ((¬ k < 0 ∧ k < nI (min t 50)) → ∃ j, j < min t 50 ∧ k = nI j ∧ r = some (.int (A 40 j)) ∧ I = I' ∧ A = A') ∧ (¬ (¬ k < 0 ∧ k < nI (min t 50)) → r = some (.int (nI 0)) ∧ I = I' ∧ A = A')) := by
  refine Cm.of (by decide) (Nat.le_of_ble_eq_true rfl) rfl ?_
  show V G MX7_said (am_R 2 41 0 0) _ 0 0 0 [(0, .ref 0), (1, .int k)] [] (hp I A)
  refine V.iload_n (j := 1) rfl dX7_said_0 ?_
  refine V.if_lt (tgt := 15) dX7_said_1 (by decide) (fun c1 => ?_) (fun c1 => ?_)
  · refine V.iconst (v := nI 0) (by decide) dX7_said_15 ?_
    refine V.ri dX7_said_16 rfl ?_
    exact ⟨fun z => absurd c1 z.1, fun _ => ⟨rfl, rfl, rfl⟩⟩
  · refine V.iload_n (j := 1) rfl dX7_said_4 ?_
    refine V.aload_n (j := 0) rfl dX7_said_5 ?_
    refine V.getr (q := 36) dX7_said_6 fX7_63 rfl rfl ?_
    refine V.cV (As := []) (st := [.int k]) dX7_said_9 sX7_154 iX4_wordsKept lX4_wordsKept rfl rfl (cd_kept36 I A t ht ht2) ⟨by decide, by decide⟩ (Nat.le_of_ble_eq_true rfl) rfl (fun r I' A' hq => ?_)
    obtain ⟨rfl, rfl, rfl⟩ := hq
    refine V.st (st' := [.int (nI (min t 50)), .int k]) rfl ?_
    refine V.icmp_lt (tgt := 17) dX7_said_12 (by decide) (fun c2 => ?_) (fun c2 => ?_)
    · obtain ⟨j, hj, rfl⟩ := mz_lt (nv := min t 50) (by omega) c1 c2
      refine V.aload_n (j := 0) rfl dX7_said_17 ?_
      refine V.getr (q := 36) dX7_said_18 fX7_63 rfl rfl ?_
      refine V.getr (q := 40) dX7_said_21 fX7_158 rfl rfl ?_
      refine V.iload_n (j := 1) rfl dX7_said_24 ?_
      refine V.lda (v := A 40 j) dX7_said_25 rfl (by omega) (by decide) rfl ?_
      refine V.ri dX7_said_26 rfl ?_
      exact ⟨fun _ => ⟨j, hj, rfl, rfl, rfl, rfl⟩, fun z => absurd ⟨c1, c2⟩ z⟩
    · refine V.iconst (v := nI 0) (by decide) dX7_said_15 ?_
      refine V.ri dX7_said_16 rfl ?_
      exact ⟨fun z => absurd z.2 c2, fun _ => ⟨rfl, rfl, rfl⟩⟩
