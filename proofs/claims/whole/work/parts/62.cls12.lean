set_option maxRecDepth 100000 in
set_option maxHeartbeats 4000000 in
theorem cd_lead {G : am_G} (I A : Nat → Nat → Int32) (i : Nat) (hi : i < 240) : Cm G MX6_leadsToNext 0 0 [.ref 30, .int (nI i)] I A (fun r I' A' => r = some (.int (bI (A 31 i = nI 8 ∧ A 32 i = nI (i + 1)))) ∧ I = I' ∧ A = A') := by
  refine Cm.of (by decide) (Nat.le_of_ble_eq_true rfl) rfl ?_
  show V G MX6_leadsToNext (am_R 0 0 0 0) _ 0 0 0 [(0, .ref 30), (1, .int (nI i))] [] (hp I A)
  refine V.aload_n (j := 0) rfl dX6_leadsToNext_0 ?_
  refine V.getr (q := 31) dX6_leadsToNext_1 fX6_44 rfl rfl ?_
  refine V.iload_n (j := 1) rfl dX6_leadsToNext_4 ?_
  refine V.lda (v := A 31 i) dX6_leadsToNext_5 rfl (by omega) (by decide) rfl ?_
  refine V.bipush (v := nI 8) (by decide) dX6_leadsToNext_6 ?_
  refine V.icmp_ne (tgt := 27) dX6_leadsToNext_8 (by decide) (fun c1 => ?_) (fun c1 => ?_)
  · refine V.iconst (v := nI 0) (by decide) dX6_leadsToNext_27 ?_
    refine V.rz dX6_leadsToNext_28 rfl (by decide) ?_
    exact ⟨am_s0 (fun z => c1 z.1), rfl, rfl⟩
  · refine V.aload_n (j := 0) rfl dX6_leadsToNext_11 ?_
    refine V.getr (q := 32) dX6_leadsToNext_12 fX6_48 rfl rfl ?_
    refine V.iload_n (j := 1) rfl dX6_leadsToNext_15 ?_
    refine V.lda (v := A 32 i) dX6_leadsToNext_16 rfl (by omega) (by decide) rfl ?_
    refine V.iload_n (j := 1) rfl dX6_leadsToNext_17 ?_
    refine V.iconst (v := nI 1) (by decide) dX6_leadsToNext_18 ?_
    refine V.iaddN dX6_leadsToNext_19 ?_
    refine V.icmp_ne (tgt := 27) dX6_leadsToNext_20 (by decide) (fun c2 => ?_) (fun c2 => ?_)
    · refine V.iconst (v := nI 0) (by decide) dX6_leadsToNext_27 ?_
      refine V.rz dX6_leadsToNext_28 rfl (by decide) ?_
      exact ⟨am_s0 (fun z => c2 z.2), rfl, rfl⟩
    · refine V.iconst (v := nI 1) (by decide) dX6_leadsToNext_23 ?_
      refine V.goto (tgt := 28) dX6_leadsToNext_24 (by decide) ?_
      refine V.rz dX6_leadsToNext_28 rfl (by decide) ?_
      exact ⟨am_s1 ⟨c1, c2⟩, rfl, rfl⟩
set_option maxRecDepth 100000 in
set_option maxHeartbeats 4000000 in
theorem cd_kept {G : am_G} (I A : Nat → Nat → Int32) (i : Nat) (hi : i < 240) (h0 : 0 < i) : Cm G MX6_fetchesWhatWasKept 0 0 [.ref 30, .int (nI i)] I A (fun r I' A' => r = some (.int (bI (A 31 i = nI 11 ∧ A 31 (i - 1) = nI 12 ∧ A 32 i = A 32 (i - 1) ∧ A 33 i = A 33 (i - 1)))) ∧ I = I' ∧ A = A') := by
  refine Cm.of (by decide) (Nat.le_of_ble_eq_true rfl) rfl ?_
  show V G MX6_fetchesWhatWasKept (am_R 0 0 0 0) _ 0 0 0 [(0, .ref 30), (1, .int (nI i))] [] (hp I A)
  refine V.aload_n (j := 0) rfl dX6_fetchesWhatWasKept_0 ?_
  refine V.getr (q := 31) dX6_fetchesWhatWasKept_1 fX6_44 rfl rfl ?_
  refine V.iload_n (j := 1) rfl dX6_fetchesWhatWasKept_4 ?_
  refine V.lda (v := A 31 i) dX6_fetchesWhatWasKept_5 rfl (by omega) (by decide) rfl ?_
  refine V.bipush (v := nI 11) (by decide) dX6_fetchesWhatWasKept_6 ?_
  refine V.icmp_ne (tgt := 62) dX6_fetchesWhatWasKept_8 (by decide) (fun c1 => ?_) (fun c1 => ?_)
  · refine V.iconst (v := nI 0) (by decide) dX6_fetchesWhatWasKept_62 ?_
    refine V.rz dX6_fetchesWhatWasKept_63 rfl (by decide) ?_
    exact ⟨am_s0 (fun z => c1 z.1), rfl, rfl⟩
  · refine V.aload_n (j := 0) rfl dX6_fetchesWhatWasKept_11 ?_
    refine V.getr (q := 31) dX6_fetchesWhatWasKept_12 fX6_44 rfl rfl ?_
    refine V.iload_n (j := 1) rfl dX6_fetchesWhatWasKept_15 ?_
    refine V.iconst (v := nI 1) (by decide) dX6_fetchesWhatWasKept_16 ?_
    refine V.isubN dX6_fetchesWhatWasKept_17 (by omega) ?_
    refine V.lda (v := A 31 (i - 1)) dX6_fetchesWhatWasKept_18 rfl (by omega) (by decide) rfl ?_
    refine V.bipush (v := nI 12) (by decide) dX6_fetchesWhatWasKept_19 ?_
    refine V.icmp_ne (tgt := 62) dX6_fetchesWhatWasKept_21 (by decide) (fun c2 => ?_) (fun c2 => ?_)
    · refine V.iconst (v := nI 0) (by decide) dX6_fetchesWhatWasKept_62 ?_
      refine V.rz dX6_fetchesWhatWasKept_63 rfl (by decide) ?_
      exact ⟨am_s0 (fun z => c2 z.2.1), rfl, rfl⟩
    · refine V.aload_n (j := 0) rfl dX6_fetchesWhatWasKept_24 ?_
      refine V.getr (q := 32) dX6_fetchesWhatWasKept_25 fX6_48 rfl rfl ?_
      refine V.iload_n (j := 1) rfl dX6_fetchesWhatWasKept_28 ?_
      refine V.lda (v := A 32 i) dX6_fetchesWhatWasKept_29 rfl (by omega) (by decide) rfl ?_
      refine V.aload_n (j := 0) rfl dX6_fetchesWhatWasKept_30 ?_
      refine V.getr (q := 32) dX6_fetchesWhatWasKept_31 fX6_48 rfl rfl ?_
      refine V.iload_n (j := 1) rfl dX6_fetchesWhatWasKept_34 ?_
      refine V.iconst (v := nI 1) (by decide) dX6_fetchesWhatWasKept_35 ?_
      refine V.isubN dX6_fetchesWhatWasKept_36 (by omega) ?_
      refine V.lda (v := A 32 (i - 1)) dX6_fetchesWhatWasKept_37 rfl (by omega) (by decide) rfl ?_
      refine V.icmp_ne (tgt := 62) dX6_fetchesWhatWasKept_38 (by decide) (fun c3 => ?_) (fun c3 => ?_)
      · refine V.iconst (v := nI 0) (by decide) dX6_fetchesWhatWasKept_62 ?_
        refine V.rz dX6_fetchesWhatWasKept_63 rfl (by decide) ?_
        exact ⟨am_s0 (fun z => c3 z.2.2.1), rfl, rfl⟩
      · refine V.aload_n (j := 0) rfl dX6_fetchesWhatWasKept_41 ?_
        refine V.getr (q := 33) dX6_fetchesWhatWasKept_42 fX6_58 rfl rfl ?_
        refine V.iload_n (j := 1) rfl dX6_fetchesWhatWasKept_45 ?_
        refine V.lda (v := A 33 i) dX6_fetchesWhatWasKept_46 rfl (by omega) (by decide) rfl ?_
        refine V.aload_n (j := 0) rfl dX6_fetchesWhatWasKept_47 ?_
        refine V.getr (q := 33) dX6_fetchesWhatWasKept_48 fX6_58 rfl rfl ?_
        refine V.iload_n (j := 1) rfl dX6_fetchesWhatWasKept_51 ?_
        refine V.iconst (v := nI 1) (by decide) dX6_fetchesWhatWasKept_52 ?_
        refine V.isubN dX6_fetchesWhatWasKept_53 (by omega) ?_
        refine V.lda (v := A 33 (i - 1)) dX6_fetchesWhatWasKept_54 rfl (by omega) (by decide) rfl ?_
        refine V.icmp_ne (tgt := 62) dX6_fetchesWhatWasKept_55 (by decide) (fun c4 => ?_) (fun c4 => ?_)
        · refine V.iconst (v := nI 0) (by decide) dX6_fetchesWhatWasKept_62 ?_
          refine V.rz dX6_fetchesWhatWasKept_63 rfl (by decide) ?_
          exact ⟨am_s0 (fun z => c4 z.2.2.2), rfl, rfl⟩
        · refine V.iconst (v := nI 1) (by decide) dX6_fetchesWhatWasKept_58 ?_
          refine V.goto (tgt := 63) dX6_fetchesWhatWasKept_59 (by decide) ?_
          refine V.rz dX6_fetchesWhatWasKept_63 rfl (by decide) ?_
          exact ⟨am_s1 ⟨c1, c2, c3, c4⟩, rfl, rfl⟩
set_option maxRecDepth 100000 in
set_option maxHeartbeats 4000000 in
theorem cd_idle {G : am_G} (I A : Nat → Nat → Int32) (i : Nat) (hi : i < 240) (h0 : 0 < i) : Cm G MX6_isIdleBehind 1 21 [.ref 30, .int (nI i)] I A (fun r I' A' => r = some (.int (bI (¬ cz_on (A 31) (i - 1) ∨ (A 31 i = nI 11 ∧ A 31 (i - 1) = nI 12 ∧ A 32 i = A 32 (i - 1) ∧ A 33 i = A 33 (i - 1))))) ∧ I = I' ∧ A = A') := by
  refine Cm.of (by decide) (Nat.le_of_ble_eq_true rfl) rfl ?_
  show V G MX6_isIdleBehind (am_R 1 21 0 0) _ 0 0 0 [(0, .ref 30), (1, .int (nI i))] [] (hp I A)
  refine V.aload_n (j := 0) rfl dX6_isIdleBehind_0 ?_
  refine V.iload_n (j := 1) rfl dX6_isIdleBehind_1 ?_
  refine V.iconst (v := nI 1) (by decide) dX6_isIdleBehind_2 ?_
  refine V.isubN dX6_isIdleBehind_3 (by omega) ?_
  refine V.cV (As := [.int (nI (i - 1))]) (st := []) dX6_isIdleBehind_4 sX6_51 iX3_goesOn lX3_goesOn rfl rfl (cd_on30 I A (i - 1) (by omega)) ⟨by decide, by decide⟩ (Nat.le_of_ble_eq_true rfl) rfl (fun r I' A' hq => ?_)
  obtain ⟨rfl, rfl, rfl⟩ := hq
  by_cases b1 : cz_on (A 31) (i - 1)
  · refine V.st (st' := [.int (nI 1)]) (by rw [bI_t b1]; rfl) ?_
    refine V.if_eq (tgt := 18) dX6_isIdleBehind_7 (by decide) (fun z => absurd z (by decide)) (fun _ => ?_)
    refine V.aload_n (j := 0) rfl dX6_isIdleBehind_10 ?_
    refine V.iload_n (j := 1) rfl dX6_isIdleBehind_11 ?_
    refine V.cS (As := [.ref 30, .int (nI i)]) (st := []) dX6_isIdleBehind_12 sX6_55 zX6_fetchesWhatWasKept (cd_kept I A i hi h0) ⟨by decide, by decide⟩ (Nat.le_of_ble_eq_true rfl) rfl (fun r I' A' hq => ?_)
    obtain ⟨rfl, rfl, rfl⟩ := hq
    by_cases b3 : A 31 i = nI 11 ∧ A 31 (i - 1) = nI 12 ∧ A 32 i = A 32 (i - 1) ∧ A 33 i = A 33 (i - 1)
    · refine V.st (st' := [.int (nI 1)]) (by rw [bI_t b3]; rfl) ?_
      refine V.if_eq (tgt := 22) dX6_isIdleBehind_15 (by decide) (fun z => absurd z (by decide)) (fun _ => ?_)
      refine V.iconst (v := nI 1) (by decide) dX6_isIdleBehind_18 ?_
      refine V.goto (tgt := 23) dX6_isIdleBehind_19 (by decide) ?_
      refine V.rz dX6_isIdleBehind_23 rfl (by decide) ?_
      exact ⟨am_s1 (Or.inr b3), rfl, rfl⟩
    · refine V.st (st' := [.int (nI 0)]) (by rw [bI_f b3]; rfl) ?_
      refine V.if_eq (tgt := 22) dX6_isIdleBehind_15 (by decide) (fun _ => ?_) (fun z => absurd z (by decide))
      refine V.iconst (v := nI 0) (by decide) dX6_isIdleBehind_22 ?_
      refine V.rz dX6_isIdleBehind_23 rfl (by decide) ?_
      exact ⟨am_s0 (fun z => z.elim (fun q => q b1) b3), rfl, rfl⟩
  · refine V.st (st' := [.int (nI 0)]) (by rw [bI_f b1]; rfl) ?_
    refine V.if_eq (tgt := 18) dX6_isIdleBehind_7 (by decide) (fun _ => ?_) (fun z => absurd z (by decide))
    refine V.iconst (v := nI 1) (by decide) dX6_isIdleBehind_18 ?_
    refine V.goto (tgt := 23) dX6_isIdleBehind_19 (by decide) ?_
    refine V.rz dX6_isIdleBehind_23 rfl (by decide) ?_
    exact ⟨am_s1 (Or.inl b1), rfl, rfl⟩
/-- which places some item leads to -/
def cz_mk (c : Nat → Int32) : Nat → Nat → (Nat → Int32) → Nat → Int32
  | 0, _, g => g
  | m + 1, i, g => cz_mk c m (i + 1) (if mz_leads c i = (-1) then g else upd g (mz_leads c i).toNatClampNeg (nI 1))
theorem cz_mk_s {c : Nat → Int32} {n k : Nat} (hk : k < 1000) (hn : n < 1000) (hw : tz_ok c n) : ∀ (m i : Nat) (g : Nat → Int32), i + m = n → (¬ cz_mk c m i g k = 0 ↔ ¬ g k = 0 ∨ ∃ t, i ≤ t ∧ t < n ∧ mz_leads c t = nI k)
  | 0, i, g, h => by
    constructor
    · exact Or.inl
    · rintro (h1 | ⟨t, h1, h2, -⟩)
      · exact h1
      · omega
  | m + 1, i, g, h => by
    show ¬ cz_mk c m (i + 1) _ k = 0 ↔ _
    rw [cz_mk_s hk hn hw m (i + 1) _ (by omega)]
    rcases hw i (by omega) with e | ⟨x, hx, e⟩
    · rw [if_pos e]
      constructor
      · rintro (h1 | ⟨t, h1, h2, h3⟩)
        · exact Or.inl h1
        · exact Or.inr ⟨t, by omega, h2, h3⟩
      · rintro (h1 | ⟨t, h1, h2, h3⟩)
        · exact Or.inl h1
        · refine Or.inr ⟨t, ?_, h2, h3⟩
          have : ¬ t = i := fun z => by rw [z, e] at h3; exact nI_nm1 (by omega) h3.symm
          omega
    · rw [if_neg (by rw [e]; exact nI_nm1 (by omega)), e, nI_clamp (by omega)]
      by_cases q : k = x
      · subst q
        rw [pk_us]
        exact ⟨fun _ => Or.inr ⟨i, Nat.le_refl _, by omega, e⟩, fun _ => Or.inl (by decide)⟩
      · rw [pk_un q]
        constructor
        · rintro (h1 | ⟨t, h1, h2, h3⟩)
          · exact Or.inl h1
          · exact Or.inr ⟨t, by omega, h2, h3⟩
        · rintro (h1 | ⟨t, h1, h2, h3⟩)
          · exact Or.inl h1
          · refine Or.inr ⟨t, ?_, h2, h3⟩
            have : ¬ t = i := fun z => by rw [z, e, nI_eq (by omega) (by omega)] at h3; omega
            omega
set_option maxRecDepth 100000 in
set_option maxHeartbeats 4000000 in
theorem cl_mark1 {G : am_G} {Fn : Array Value → State → List Frame → State → Prop} (I A : Nat → Nat → Int32) (n : Nat) (hn : I 30 4 = nI n) (hN : n ≤ 240) : ∀ (m : Nat) (i : Nat) (g : Nat → Int32), i + m = n + 1 → V G MX6_markLed (am_R 1 21 0 0) Fn 0 0 23 [(0, .ref 23), (1, .ref 30)] [] (hp I (upA A 24 (mz_fill m i g))) → V G MX6_markLed (am_R 1 21 0 0) Fn 0 0 2 [(0, .ref 23), (1, .ref 30), (2, .int (nI i))] [] (hp I (upA A 24 (g))) := by
  intro m
  induction m with
  | zero =>
    intro i g hi0 hk
    refine V.iload_n (j := 2) rfl dX6_markLed_2 ?_
    refine V.aload_n (j := 1) rfl dX6_markLed_3 ?_
    refine V.geti (v := nI n) dX6_markLed_4 fX6_29 rfl rfl hn ?_
    refine V.icmp_gtN (tgt := 23) dX6_markLed_7 (by decide) (by omega) (by omega) (fun c1 => ?_) (fun c1 => ?_)
    · refine V.fewer [0, 1] rfl ?_
      exact hk
    · exact absurd c1 (by omega)
  | succ m ih =>
    intro i g hi0 hk
    refine V.iload_n (j := 2) rfl dX6_markLed_2 ?_
    refine V.aload_n (j := 1) rfl dX6_markLed_3 ?_
    refine V.geti (v := nI n) dX6_markLed_4 fX6_29 rfl rfl hn ?_
    refine V.icmp_gtN (tgt := 23) dX6_markLed_7 (by decide) (by omega) (by omega) (fun c2 => ?_) (fun c2 => ?_)
    · exact absurd c2 (by omega)
    · refine V.aload_n (j := 0) rfl dX6_markLed_10 ?_
      refine V.getr (q := 24) dX6_markLed_11 fX6_9 rfl rfl ?_
      refine V.iload_n (j := 2) rfl dX6_markLed_14 ?_
      refine V.iconst (v := nI 0) (by decide) dX6_markLed_15 ?_
      refine V.stz (g := upd g i (nI 0)) dX6_markLed_16 rfl (by omega) (by decide) (by decide) rfl ?_
      refine V.hpe (A' := (upA A 24 (upd g i (nI 0)))) rfl upA_u ?_
      refine V.iincN (ls' := [(0, .ref 23), (1, .ref 30), (2, .int (nI (i + 1)))]) dX6_markLed_17 (j := 2) rfl (by decide) rfl ?_
      refine V.goto (tgt := 2) dX6_markLed_20 (by decide) ?_
      exact ih (i + 1) _ (by omega) hk
set_option maxRecDepth 100000 in
set_option maxHeartbeats 4000000 in
theorem cl_mark2 {G : am_G} {Fn : Array Value → State → List Frame → State → Prop} (I A : Nat → Nat → Int32) (n : Nat) (hn : I 30 4 = nI n) (hN : n ≤ 240) (c : Nat → Int32) (hw : tz_ok c n) : ∀ (m : Nat) (i : Nat) (g : Nat → Int32), i + m = n → V G MX6_markLed (am_R 1 21 0 0) Fn 0 0 59 [(0, .ref 23)] [] (hp I (upA (cz_TT A c) 24 (cz_mk c m i g))) → V G MX6_markLed (am_R 1 21 0 0) Fn 0 0 25 [(0, .ref 23), (1, .ref 30), (2, .int (nI i))] [] (hp I (upA (cz_TT A c) 24 (g))) := by
  intro m
  induction m with
  | zero =>
    intro i g hi0 hk
    refine V.iload_n (j := 2) rfl dX6_markLed_25 ?_
    refine V.aload_n (j := 1) rfl dX6_markLed_26 ?_
    refine V.geti (v := nI n) dX6_markLed_27 fX6_29 rfl rfl hn ?_
    refine V.icmp_geN (tgt := 59) dX6_markLed_30 (by decide) (by omega) (by omega) (fun c1 => ?_) (fun c1 => ?_)
    · refine V.fewer [0] rfl ?_
      exact hk
    · exact absurd c1 (by omega)
  | succ m ih =>
    intro i g hi0 hk
    refine V.iload_n (j := 2) rfl dX6_markLed_25 ?_
    refine V.aload_n (j := 1) rfl dX6_markLed_26 ?_
    refine V.geti (v := nI n) dX6_markLed_27 fX6_29 rfl rfl hn ?_
    refine V.icmp_geN (tgt := 59) dX6_markLed_30 (by decide) (by omega) (by omega) (fun c2 => ?_) (fun c2 => ?_)
    · exact absurd c2 (by omega)
    · refine V.aload_n (j := 1) rfl dX6_markLed_33 ?_
      refine V.iload_n (j := 2) rfl dX6_markLed_34 ?_
      refine V.cV (As := [.int (nI i)]) (st := []) dX6_markLed_35 sX6_40 iX3_target lX3_target rfl rfl (cd_target30 I (upA (cz_TT A c) 24 (g)) i (by omega)) ⟨by decide, by decide⟩ (Nat.le_of_ble_eq_true rfl) rfl (fun r I' A' hq => ?_)
      obtain ⟨rfl, rfl, rfl⟩ := hq
      refine V.st (st' := [.int (mz_leads c i)]) rfl ?_
      refine V.iconst (v := (-1)) (by decide) dX6_markLed_38 ?_
      refine V.icmp_eq (tgt := 53) dX6_markLed_39 (by decide) (fun c3 => ?_) (fun c3 => ?_)
      · refine V.iincN (ls' := [(0, .ref 23), (1, .ref 30), (2, .int (nI (i + 1)))]) dX6_markLed_53 (j := 2) rfl (by decide) rfl ?_
        refine V.goto (tgt := 25) dX6_markLed_56 (by decide) ?_
        unfold cz_mk at hk
        rw [if_pos c3] at hk
        exact ih (i + 1) _ (by omega) hk
      · obtain ⟨x, hx, ex⟩ := (hw i (by omega)).resolve_left c3
        refine V.aload_n (j := 0) rfl dX6_markLed_42 ?_
        refine V.getr (q := 24) dX6_markLed_43 fX6_9 rfl rfl ?_
        refine V.aload_n (j := 1) rfl dX6_markLed_46 ?_
        refine V.iload_n (j := 2) rfl dX6_markLed_47 ?_
        refine V.cV (As := [.int (nI i)]) (st := [.ref 24]) dX6_markLed_48 sX6_40 iX3_target lX3_target rfl rfl (cd_target30 I (upA (cz_TT A c) 24 (g)) i (by omega)) ⟨by decide, by decide⟩ (Nat.le_of_ble_eq_true rfl) rfl (fun r I' A' hq => ?_)
        obtain ⟨rfl, rfl, rfl⟩ := hq
        refine V.st (st' := [.int (mz_leads c i), .ref 24]) rfl ?_
        refine V.st (st' := [.int (nI x), .ref 24]) (by rw [ex]) ?_
        refine V.iconst (v := nI 1) (by decide) dX6_markLed_51 ?_
        refine V.stz (g := upd g x (nI 1)) dX6_markLed_52 rfl (by omega) (by decide) (by decide) rfl ?_
        refine V.hpe (A' := (upA (cz_TT A c) 24 (upd g x (nI 1)))) rfl upA_u ?_
        refine V.iincN (ls' := [(0, .ref 23), (1, .ref 30), (2, .int (nI (i + 1)))]) dX6_markLed_53 (j := 2) rfl (by decide) rfl ?_
        refine V.goto (tgt := 25) dX6_markLed_56 (by decide) ?_
        unfold cz_mk at hk
        rw [if_neg c3, ex, nI_clamp (by omega)] at hk
        exact ih (i + 1) _ (by omega) hk
set_option maxRecDepth 100000 in
set_option maxHeartbeats 4000000 in
theorem cd_mark {G : am_G} (I A : Nat → Nat → Int32) (c : Nat → Int32) (n : Nat) (hn : I 30 4 = nI n) (hN : n ≤ 240) (hw : tz_ok c n) : Cm G MX6_markLed 1 21 [.ref 23, .ref 30] I (cz_TT A c) (fun r I' A' => r = none ∧ I = I' ∧ ∃ g, (∀ k, k ≤ n → (¬ g k = 0 ↔ mz_led c n k)) ∧ upA (cz_TT A c) 24 g = A') := by
  refine Cm.of (by decide) (Nat.le_of_ble_eq_true rfl) rfl ?_
  show V G MX6_markLed (am_R 1 21 0 0) _ 0 0 0 [(0, .ref 23), (1, .ref 30)] [] (hp I (cz_TT A c))
  refine V.iconst (v := nI 0) (by decide) dX6_markLed_0 ?_
  refine V.istore_n (ls' := [(0, .ref 23), (1, .ref 30), (2, .int (nI 0))]) dX6_markLed_1 (by decide) rfl ?_
  refine V.hpe (A' := (upA (cz_TT A c) 24 (A 24))) rfl (by rw [show A 24 = (cz_TT A c) 24 from rfl, upA_i]) ?_
  refine cl_mark1 I (cz_TT A c) n hn hN (n + 1) 0 _ (by omega) ?_
  refine V.iconst (v := nI 0) (by decide) dX6_markLed_23 ?_
  refine V.istore_n (ls' := [(0, .ref 23), (1, .ref 30), (2, .int (nI 0))]) dX6_markLed_24 (by decide) rfl ?_
  refine cl_mark2 I A n hn hN c hw n 0 _ (by omega) ?_
  refine V.rv dX6_markLed_59 rfl ?_
  refine ⟨rfl, rfl, _, fun k hk => ?_, rfl⟩
  rw [cz_mk_s (by omega) (by omega) hw n 0 _ (by omega), mz_fill_at, if_pos (by omega)]
  constructor
  · rintro (h1 | ⟨t, -, h2, h3⟩)
    · exact absurd rfl h1
    · exact ⟨t, h2, h3⟩
  · rintro ⟨t, h2, h3⟩
    exact Or.inr ⟨t, Nat.zero_le _, h2, h3⟩
def cz_fn (c : Nat → Int32) (n : Nat) (r : Option Value) : Prop := (∃ i, i < n ∧ mz_gone c n i ∧ mz_no (fun k => mz_gone c n k) i ∧ r = some (.int (nI i))) ∨ (mz_no (fun k => mz_gone c n k) n ∧ r = some (.int (-1)))
theorem cz_P1_e {c : Nat → Int32} {i : Nat} : mz_P1 c i ↔ c (1600 + 4 * i) = nI 8 ∧ c (1600 + 4 * i + 1) = nI (i + 1) := by
  unfold mz_P1 mz_leads
  constructor
  · rintro ⟨h1, h2⟩
    rw [if_neg (by rw [h1]; decide), if_pos h1] at h2
    exact ⟨h1, h2⟩
  · rintro ⟨h1, h2⟩
    rw [if_neg (by rw [h1]; decide), if_pos h1]
    exact ⟨h1, h2⟩
theorem cz_P2_e {c : Nat → Int32} {n i : Nat} (h0 : 0 < i) : mz_P2 c n i ↔ (¬ cz_on (fun i => c (1600 + 4 * i)) (i - 1) ∨ (c (1600 + 4 * i) = nI 11 ∧ c (1600 + 4 * (i - 1)) = nI 12 ∧ c (1600 + 4 * i + 1) = c (1600 + 4 * (i - 1) + 1) ∧ c (1600 + 4 * i + 2) = c (1600 + 4 * (i - 1) + 2))) ∧ ¬ mz_led c n i := by
  unfold mz_P2 mz_AG cz_on
  rw [show 1600 + 4 * i - 4 = 1600 + 4 * (i - 1) by omega, show 1600 + 4 * i - 3 = 1600 + 4 * (i - 1) + 1 by omega, show 1600 + 4 * i - 2 = 1600 + 4 * (i - 1) + 2 by omega]
  constructor
  · rintro ⟨h1 | h1 | h1, h2⟩
    · exact ⟨Or.inr h1, h2⟩
    · exact ⟨Or.inl (fun z => z.1 h1), h2⟩
    · exact ⟨Or.inl (fun z => z.2 h1), h2⟩
  · rintro ⟨h1 | h1, h2⟩
    · refine ⟨Or.inr ?_, h2⟩
      by_cases q : c (1600 + 4 * (i - 1)) = nI 8
      · exact Or.inl q
      · exact Or.inr (Classical.byContradiction fun z => h1 ⟨q, z⟩)
    · exact ⟨Or.inl h1, h2⟩
set_option maxRecDepth 100000 in
set_option maxHeartbeats 4000000 in
theorem cl_first {G : am_G} (I A : Nat → Nat → Int32) (c : Nat → Int32) (n : Nat) (hn : I 30 4 = nI n) (hN : n ≤ 240) (g : Nat → Int32) (hg : ∀ k, k ≤ n → (¬ g k = 0 ↔ mz_led c n k)) : ∀ (m : Nat) (i : Nat), i + m = n → mz_no (fun k => mz_gone c n k) i → True → V G MX6_firstNeedless (am_R 2 43 0 0) (am_Fin G 0 0 (Pm (fun r I' A' => cz_fn c n r ∧ I = I' ∧ ∃ g', upA (cz_TT A c) 24 g' = A'))) 0 0 7 [(0, .ref 23), (1, .ref 30), (2, .int (nI i))] [] (hp I (upA (cz_TT A c) 24 (g))) := by
  intro m
  induction m with
  | zero =>
    intro i hi0 hi1 hk
    refine V.iload_n (j := 2) rfl dX6_firstNeedless_7 ?_
    refine V.aload_n (j := 1) rfl dX6_firstNeedless_8 ?_
    refine V.geti (v := nI n) dX6_firstNeedless_9 fX6_29 rfl rfl hn ?_
    refine V.icmp_geN (tgt := 52) dX6_firstNeedless_12 (by decide) (by omega) (by omega) (fun c1 => ?_) (fun c1 => ?_)
    · refine V.iconst (v := (-1)) (by decide) dX6_firstNeedless_52 ?_
      refine V.ri dX6_firstNeedless_53 rfl ?_
      exact ⟨Or.inr ⟨by have e : i = n := (by omega); rw [e] at hi1; exact hi1, rfl⟩, rfl, g, rfl⟩
    · exact absurd c1 (by omega)
  | succ m ih =>
    intro i hi0 hi1 hk
    refine V.iload_n (j := 2) rfl dX6_firstNeedless_7 ?_
    refine V.aload_n (j := 1) rfl dX6_firstNeedless_8 ?_
    refine V.geti (v := nI n) dX6_firstNeedless_9 fX6_29 rfl rfl hn ?_
    refine V.icmp_geN (tgt := 52) dX6_firstNeedless_12 (by decide) (by omega) (by omega) (fun c2 => ?_) (fun c2 => ?_)
    · exact absurd c2 (by omega)
    · refine V.aload_n (j := 1) rfl dX6_firstNeedless_15 ?_
      refine V.iload_n (j := 2) rfl dX6_firstNeedless_16 ?_
      refine V.cS (As := [.ref 30, .int (nI i)]) (st := []) dX6_firstNeedless_17 sX6_33 zX6_leadsToNext (cd_lead I (upA (cz_TT A c) 24 (g)) i (by omega)) ⟨by decide, by decide⟩ (Nat.le_of_ble_eq_true rfl) rfl (fun r I' A' hq => ?_)
      obtain ⟨rfl, rfl, rfl⟩ := hq
      by_cases b3 : (upA (cz_TT A c) 24 (g)) 31 i = nI 8 ∧ (upA (cz_TT A c) 24 (g)) 32 i = nI (i + 1)
      · refine V.st (st' := [.int (nI 1)]) (by rw [bI_t b3]; rfl) ?_
        refine V.if_ne (tgt := 44) dX6_firstNeedless_20 (by decide) (fun _ => ?_) (fun z => absurd z (by decide))
        refine V.iload_n (j := 2) rfl dX6_firstNeedless_44 ?_
        refine V.ri dX6_firstNeedless_45 rfl ?_
        exact ⟨Or.inl ⟨i, by omega, Or.inl (cz_P1_e.mpr (show c (1600 + 4 * i) = nI 8 ∧ c (1600 + 4 * i + 1) = nI (i + 1) from b3)), hi1, rfl⟩, rfl, g, rfl⟩
      · refine V.st (st' := [.int (nI 0)]) (by rw [bI_f b3]; rfl) ?_
        refine V.if_ne (tgt := 44) dX6_firstNeedless_20 (by decide) (fun z => absurd z (by decide)) (fun _ => ?_)
        refine V.iload_n (j := 2) rfl dX6_firstNeedless_23 ?_
        refine V.if_leN (tgt := 46) dX6_firstNeedless_24 (by decide) (by omega) (fun c6 => ?_) (fun c6 => ?_)
        · refine V.iincN (ls' := [(0, .ref 23), (1, .ref 30), (2, .int (nI (i + 1)))]) dX6_firstNeedless_46 (j := 2) rfl (by decide) rfl ?_
          refine V.goto (tgt := 7) dX6_firstNeedless_49 (by decide) ?_
          refine ih (i + 1) (by omega) (fun k hk2 => ?_) trivial
          by_cases q : k = i
          · rw [q]; exact fun z => z.elim (fun z => b3 (show c (1600 + 4 * i) = nI 8 ∧ c (1600 + 4 * i + 1) = nI (i + 1) from cz_P1_e.mp z)) (fun z => absurd z.1 (by omega))
          · exact hi1 k (by omega)
        · refine V.aload_n (j := 0) rfl dX6_firstNeedless_27 ?_
          refine V.getr (q := 24) dX6_firstNeedless_28 fX6_9 rfl rfl ?_
          refine V.iload_n (j := 2) rfl dX6_firstNeedless_31 ?_
          refine V.ldz (v := g i) dX6_firstNeedless_32 rfl (by omega) (by decide) rfl ?_
          refine V.if_ne (tgt := 46) dX6_firstNeedless_33 (by decide) (fun c7 => ?_) (fun c7 => ?_)
          · refine V.iincN (ls' := [(0, .ref 23), (1, .ref 30), (2, .int (nI (i + 1)))]) dX6_firstNeedless_46 (j := 2) rfl (by decide) rfl ?_
            refine V.goto (tgt := 7) dX6_firstNeedless_49 (by decide) ?_
            refine ih (i + 1) (by omega) (fun k hk2 => ?_) trivial
            by_cases q : k = i
            · rw [q]; exact fun z => z.elim (fun z => b3 (show c (1600 + 4 * i) = nI 8 ∧ c (1600 + 4 * i + 1) = nI (i + 1) from cz_P1_e.mp z)) (fun z => ((cz_P2_e z.1).mp z.2).2 ((hg i (by omega)).mp c7))
            · exact hi1 k (by omega)
          · refine V.aload_n (j := 1) rfl dX6_firstNeedless_36 ?_
            refine V.iload_n (j := 2) rfl dX6_firstNeedless_37 ?_
            refine V.cS (As := [.ref 30, .int (nI i)]) (st := []) dX6_firstNeedless_38 sX6_37 zX6_isIdleBehind (cd_idle I (upA (cz_TT A c) 24 (g)) i (by omega) (by omega)) ⟨by decide, by decide⟩ (Nat.le_of_ble_eq_true rfl) rfl (fun r I' A' hq => ?_)
            obtain ⟨rfl, rfl, rfl⟩ := hq
            by_cases b8 : ¬ cz_on ((upA (cz_TT A c) 24 (g)) 31) (i - 1) ∨ ((upA (cz_TT A c) 24 (g)) 31 i = nI 11 ∧ (upA (cz_TT A c) 24 (g)) 31 (i - 1) = nI 12 ∧ (upA (cz_TT A c) 24 (g)) 32 i = (upA (cz_TT A c) 24 (g)) 32 (i - 1) ∧ (upA (cz_TT A c) 24 (g)) 33 i = (upA (cz_TT A c) 24 (g)) 33 (i - 1))
            · refine V.st (st' := [.int (nI 1)]) (by rw [bI_t b8]; rfl) ?_
              refine V.if_eq (tgt := 46) dX6_firstNeedless_41 (by decide) (fun z => absurd z (by decide)) (fun _ => ?_)
              refine V.iload_n (j := 2) rfl dX6_firstNeedless_44 ?_
              refine V.ri dX6_firstNeedless_45 rfl ?_
              exact ⟨Or.inl ⟨i, by omega, Or.inr ⟨by omega, (cz_P2_e (by omega)).mpr ⟨show ¬ cz_on (fun i => c (1600 + 4 * i)) (i - 1) ∨ (c (1600 + 4 * i) = nI 11 ∧ c (1600 + 4 * (i - 1)) = nI 12 ∧ c (1600 + 4 * i + 1) = c (1600 + 4 * (i - 1) + 1) ∧ c (1600 + 4 * i + 2) = c (1600 + 4 * (i - 1) + 2)) from b8, fun z => absurd ((hg i (by omega)).mpr z) (fun q => q c7)⟩⟩, hi1, rfl⟩, rfl, g, rfl⟩
            · refine V.st (st' := [.int (nI 0)]) (by rw [bI_f b8]; rfl) ?_
              refine V.if_eq (tgt := 46) dX6_firstNeedless_41 (by decide) (fun _ => ?_) (fun z => absurd z (by decide))
              refine V.iincN (ls' := [(0, .ref 23), (1, .ref 30), (2, .int (nI (i + 1)))]) dX6_firstNeedless_46 (j := 2) rfl (by decide) rfl ?_
              refine V.goto (tgt := 7) dX6_firstNeedless_49 (by decide) ?_
              refine ih (i + 1) (by omega) (fun k hk2 => ?_) trivial
              by_cases q : k = i
              · rw [q]; exact fun z => z.elim (fun z => b3 (show c (1600 + 4 * i) = nI 8 ∧ c (1600 + 4 * i + 1) = nI (i + 1) from cz_P1_e.mp z)) (fun z => b8 (show ¬ cz_on (fun i => c (1600 + 4 * i)) (i - 1) ∨ (c (1600 + 4 * i) = nI 11 ∧ c (1600 + 4 * (i - 1)) = nI 12 ∧ c (1600 + 4 * i + 1) = c (1600 + 4 * (i - 1) + 1) ∧ c (1600 + 4 * i + 2) = c (1600 + 4 * (i - 1) + 2)) from ((cz_P2_e z.1).mp z.2).1))
              · exact hi1 k (by omega)
set_option maxRecDepth 100000 in
set_option maxHeartbeats 4000000 in
theorem cd_first {G : am_G} (I A : Nat → Nat → Int32) (c : Nat → Int32) (n : Nat) (hn : I 30 4 = nI n) (hN : n ≤ 240) (hw : tz_ok c n) : Cm G MX6_firstNeedless 2 43 [.ref 23, .ref 30] I (cz_TT A c) (fun r I' A' => cz_fn c n r ∧ I = I' ∧ ∃ g', upA (cz_TT A c) 24 g' = A') := by
  refine Cm.of (by decide) (Nat.le_of_ble_eq_true rfl) rfl ?_
  show V G MX6_firstNeedless (am_R 2 43 0 0) _ 0 0 0 [(0, .ref 23), (1, .ref 30)] [] (hp I (cz_TT A c))
  refine V.aload_n (j := 0) rfl dX6_firstNeedless_0 ?_
  refine V.aload_n (j := 1) rfl dX6_firstNeedless_1 ?_
  refine V.cV (As := [.ref 30]) (st := []) dX6_firstNeedless_2 sX6_25 iX6_markLed lX6_markLed rfl rfl (cd_mark I A c n hn hN hw) ⟨by decide, by decide⟩ (Nat.le_of_ble_eq_true rfl) rfl (fun r I' A' hq => ?_)
  obtain ⟨rfl, rfl, g, hg, rfl⟩ := hq
  refine V.st (st' := []) rfl ?_
  refine V.iconst (v := nI 0) (by decide) dX6_firstNeedless_5 ?_
  refine V.istore_n (ls' := [(0, .ref 23), (1, .ref 30), (2, .int (nI 0))]) dX6_firstNeedless_6 (by decide) rfl ?_
  exact cl_first I A c n hn hN g hg n 0 (by omega) (fun k hk => absurd hk (Nat.not_lt_zero _)) trivial
set_option maxRecDepth 100000 in
set_option maxHeartbeats 4000000 in
theorem cl_tidy {G : am_G} {Fn : Array Value → State → List Frame → State → Prop} (I A : Nat → Nat → Int32) : ∀ (n rd : Nat) (c g : Nat → Int32) (x : Int32), rd + n ≤ 240 → tz_ok c n → cz_fn c n (some (.int x)) → (∀ c' n' g', mz_tids n c c' n' → tz_ok c' n' → V G MX6_tidy (am_R 3 65 0 0) Fn 0 0 37 [(0, .ref 23)] [] (hp (upI I 30 4 (nI n')) (upA (cz_TT A c') 24 g'))) → V G MX6_tidy (am_R 3 65 0 0) Fn 0 0 8 [(0, .ref 23), (1, .ref 30), (2, .int x), (3, .int (nI rd))] [] (hp (upI I 30 4 (nI n)) (upA (cz_TT A c) 24 g)) := by
  intro n
  induction n with
  | zero =>
    intro rd c g x hrd hw hf hk
    have hx : x = (-1) := by
      rcases hf with ⟨i, hi, -⟩ | ⟨-, h⟩
      · omega
      · exact Value.int.inj (Option.some.inj h)
    subst hx
    refine V.iload_n (j := 2) rfl dX6_tidy_8 ?_
    refine V.iconst (v := (-1)) (by decide) dX6_tidy_9 ?_
    refine V.icmp_eq (tgt := 37) dX6_tidy_10 (by decide) (fun _ => ?_) (fun z => absurd rfl z)
    refine V.fewer [0] rfl ?_
    exact hk c 0 g ⟨rfl, rfl⟩ hw
  | succ n ih =>
    intro rd c g x hrd hw hf hk
    rcases hf with ⟨i, hi, hgone, hno, h⟩ | ⟨hno, h⟩
    · have hx : x = nI i := Value.int.inj (Option.some.inj h)
      subst hx
      refine V.iload_n (j := 2) rfl dX6_tidy_8 ?_
      refine V.iconst (v := (-1)) (by decide) dX6_tidy_9 ?_
      refine V.icmp_eq (tgt := 37) dX6_tidy_10 (by decide) (fun z => absurd z (nI_nm1 (by omega))) (fun _ => ?_)
      refine V.iload_n (j := 3) rfl dX6_tidy_13 ?_
      refine V.sipush (v := nI 240) (by decide) dX6_tidy_14 ?_
      refine V.icmp_geN (tgt := 37) dX6_tidy_17 (by decide) (by omega) (by omega) (fun z => absurd z (by omega)) (fun _ => ?_)
      refine V.aload_n (j := 1) rfl dX6_tidy_20 ?_
      refine V.iload_n (j := 2) rfl dX6_tidy_21 ?_
      refine V.hpe (A' := (cz_TT (upA A 24 g) c)) rfl cz_TT_24 ?_
      refine V.cV (As := [.int (nI i)]) (st := []) dX6_tidy_22 sX6_19 iX3_takeAway lX3_takeAway rfl rfl (cd_take (upI I 30 4 (nI (n + 1))) (upA A 24 g) c n rfl (by omega) i hi) ⟨by decide, by decide⟩ (Nat.le_of_ble_eq_true rfl) rfl (fun r I' A' hq => ?_)
      obtain ⟨rfl, rfl, rfl⟩ := hq
      refine V.st (st' := []) rfl ?_
      refine V.aload_n (j := 0) rfl dX6_tidy_25 ?_
      refine V.aload_n (j := 1) rfl dX6_tidy_26 ?_
      have hw2 := tz_ok_take (by omega) (by omega) hw (i := i)
      refine V.hpe (I' := (upI I 30 4 (nI n))) upI_u rfl ?_
      refine V.cV (As := [.ref 30]) (st := []) dX6_tidy_27 sX6_15 iX6_firstNeedless lX6_firstNeedless rfl rfl (cd_first (upI I 30 4 (nI n)) (upA A 24 g) (mz_take c n i) n rfl (by omega) hw2) ⟨by decide, by decide⟩ (Nat.le_of_ble_eq_true rfl) rfl (fun r I' A' hq => ?_)
      obtain ⟨hf2, rfl, g2, rfl⟩ := hq
      obtain ⟨x2, rfl⟩ : ∃ x2, r = some (.int x2) := by
        rcases hf2 with ⟨j, -, -, -, e⟩ | ⟨-, e⟩
        · exact ⟨_, e⟩
        · exact ⟨_, e⟩
      refine V.st (st' := [.int x2]) rfl ?_
      refine V.istore_n (ls' := [(0, .ref 23), (1, .ref 30), (2, .int x2), (3, .int (nI rd))]) dX6_tidy_30 (by decide) rfl ?_
      refine V.iincN (ls' := [(0, .ref 23), (1, .ref 30), (2, .int x2), (3, .int (nI (rd + 1)))]) dX6_tidy_31 (j := 3) rfl (by decide) rfl ?_
      refine V.goto (tgt := 8) dX6_tidy_34 (by decide) ?_
      refine V.hpe (A' := (upA (cz_TT A (mz_take c n i)) 24 g2)) rfl (by rw [← cz_TT_24, upA_u]) ?_
      exact ih (rd + 1) (mz_take c n i) g2 x2 (by omega) hw2 hf2 (fun c' n' g' h1 h2 => hk c' n' g' (Or.inr ⟨i, hi, hgone, hno, h1⟩) h2)
    · have hx : x = (-1) := Value.int.inj (Option.some.inj h)
      subst hx
      refine V.iload_n (j := 2) rfl dX6_tidy_8 ?_
      refine V.iconst (v := (-1)) (by decide) dX6_tidy_9 ?_
      refine V.icmp_eq (tgt := 37) dX6_tidy_10 (by decide) (fun _ => ?_) (fun z => absurd rfl z)
      refine V.fewer [0] rfl ?_
      exact hk c (n + 1) g (Or.inl ⟨hno, rfl, rfl⟩) hw
set_option maxRecDepth 100000 in
theorem cd_tidy {G : am_G} (I A : Nat → Nat → Int32) (c : Nat → Int32) (n : Nat) (hn : I 30 4 = nI n) (hN : n ≤ 240) (hw : tz_ok c n) : Cm G MX6_tidy 3 65 [.ref 23, .ref 30] I (cz_TT A c) (fun r I' A' => r = none ∧ ∃ c' n' g', mz_tids n c c' n' ∧ tz_ok c' n' ∧ upI I 30 4 (nI n') = I' ∧ upA (cz_TT A c') 24 g' = A') := by
  refine Cm.of (by decide) (Nat.le_of_ble_eq_true rfl) rfl ?_
  show V G MX6_tidy (am_R 3 65 0 0) _ 0 0 0 [(0, .ref 23), (1, .ref 30)] [] (hp I (cz_TT A c))
  refine V.aload_n (j := 0) rfl dX6_tidy_0 ?_
  refine V.aload_n (j := 1) rfl dX6_tidy_1 ?_
  refine V.cV (As := [.ref 30]) (st := []) dX6_tidy_2 sX6_15 iX6_firstNeedless lX6_firstNeedless rfl rfl (cd_first I A c n hn hN hw) ⟨by decide, by decide⟩ (Nat.le_of_ble_eq_true rfl) rfl (fun r I' A' hq => ?_)
  obtain ⟨hf, rfl, g, rfl⟩ := hq
  obtain ⟨x, rfl⟩ : ∃ x, r = some (.int x) := by
    rcases hf with ⟨j, -, -, -, e⟩ | ⟨-, e⟩
    · exact ⟨_, e⟩
    · exact ⟨_, e⟩
  refine V.st (st' := [.int x]) rfl ?_
  refine V.istore_n (ls' := [(0, .ref 23), (1, .ref 30), (2, .int x)]) dX6_tidy_5 (by decide) rfl ?_
  refine V.iconst (v := nI 0) (by decide) dX6_tidy_6 ?_
  refine V.istore_n (ls' := [(0, .ref 23), (1, .ref 30), (2, .int x), (3, .int (nI 0))]) dX6_tidy_7 (by decide) rfl ?_
  refine V.hpe (I' := (upI I 30 4 (nI n))) (by rw [← hn, upI_i]) rfl ?_
  refine cl_tidy I A n 0 c g x (by omega) hw hf (fun c' n' g' h1 h2 => ?_)
  refine V.rv dX6_tidy_37 rfl ?_
  exact ⟨rfl, c', n', g', h1, h2, rfl, rfl⟩
