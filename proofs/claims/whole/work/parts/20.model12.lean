/-- where item i of the tidied code leads -/
def mz_leads (c : Nat → Int32) (i : Nat) : Int32 := if c (1600 + 4 * i) = nI 7 then c (1600 + 4 * i + 3) else if c (1600 + 4 * i) = nI 8 then c (1600 + 4 * i + 1) else (-1)
def mz_led (c : Nat → Int32) (n k : Nat) : Prop := ∃ t, t < n ∧ mz_leads c t = nI k
def mz_P1 (c : Nat → Int32) (i : Nat) : Prop := c (1600 + 4 * i) = nI 8 ∧ mz_leads c i = nI (i + 1)
def mz_AG (c : Nat → Int32) (i : Nat) : Prop := c (1600 + 4 * i) = nI 11 ∧ c (1600 + 4 * i - 4) = nI 12 ∧ c (1600 + 4 * i + 1) = c (1600 + 4 * i - 3) ∧ c (1600 + 4 * i + 2) = c (1600 + 4 * i - 2)
def mz_P2 (c : Nat → Int32) (n i : Nat) : Prop := (mz_AG c i ∨ c (1600 + 4 * i - 4) = nI 8 ∨ c (1600 + 4 * i - 4) = nI 10) ∧ ¬ mz_led c n i
/-- item i is needless -/
def mz_gone (c : Nat → Int32) (n i : Nat) : Prop := mz_P1 c i ∨ (0 < i ∧ mz_P2 c n i)
set_option maxRecDepth 100000 in
set_option maxHeartbeats 4000000 in
theorem md_leads {G : am_G} (I A : Nat → Nat → Int32) (i : Nat) (hi : i < 400) : Cm G MX8_leads 0 0 [.ref mM, .int (nI i)] I A (fun r I' A' => r = some (.int (mz_leads (A m_code) i)) ∧ I = I' ∧ A = A') := by
  refine Cm.of (by decide) (Nat.le_of_ble_eq_true rfl) rfl ?_
  show V G MX8_leads (am_R 0 0 0 0) _ 0 0 0 [(0, .ref mM), (1, .int (nI i))] [] (hp I A)
  refine V.aload_n (j := 0) rfl dX8_leads_0 ?_
  refine V.getr (q := m_code) dX8_leads_1 fX8_49 rfl rfl ?_
  refine V.sipush (v := nI 1600) (by decide) dX8_leads_4 ?_
  refine V.iconst (v := nI 4) (by decide) dX8_leads_7 ?_
  refine V.iload_n (j := 1) rfl dX8_leads_8 ?_
  refine V.imulN dX8_leads_9 ?_
  refine V.iaddN dX8_leads_10 ?_
  refine V.lda (v := A m_code (1600 + (4 * i))) dX8_leads_11 rfl (by omega) (by decide) rfl ?_
  refine V.istore_n (ls' := [(0, .ref mM), (1, .int (nI i)), (2, .int (A m_code (1600 + (4 * i))))]) dX8_leads_12 (by decide) rfl ?_
  refine V.iload_n (j := 2) rfl dX8_leads_13 ?_
  refine V.bipush (v := nI 7) (by decide) dX8_leads_14 ?_
  refine V.icmp_ne (tgt := 36) dX8_leads_16 (by decide) (fun c1 => ?_) (fun c1 => ?_)
  · refine V.iload_n (j := 2) rfl dX8_leads_36 ?_
    refine V.bipush (v := nI 8) (by decide) dX8_leads_37 ?_
    refine V.icmp_ne (tgt := 59) dX8_leads_39 (by decide) (fun c2 => ?_) (fun c2 => ?_)
    · refine V.iconst (v := (-1)) (by decide) dX8_leads_59 ?_
      refine V.ri dX8_leads_60 rfl ?_
      exact ⟨by unfold mz_leads; (repeat' split) <;> first | rfl | contradiction | simp_all, rfl, rfl⟩
    · refine V.aload_n (j := 0) rfl dX8_leads_42 ?_
      refine V.getr (q := m_code) dX8_leads_43 fX8_49 rfl rfl ?_
      refine V.sipush (v := nI 1600) (by decide) dX8_leads_46 ?_
      refine V.iconst (v := nI 4) (by decide) dX8_leads_49 ?_
      refine V.iload_n (j := 1) rfl dX8_leads_50 ?_
      refine V.imulN dX8_leads_51 ?_
      refine V.iaddN dX8_leads_52 ?_
      refine V.iconst (v := nI 1) (by decide) dX8_leads_53 ?_
      refine V.iaddN dX8_leads_54 ?_
      refine V.lda (v := A m_code ((1600 + (4 * i)) + 1)) dX8_leads_55 rfl (by omega) (by decide) rfl ?_
      refine V.goto (tgt := 60) dX8_leads_56 (by decide) ?_
      refine V.ri dX8_leads_60 rfl ?_
      exact ⟨by unfold mz_leads; (repeat' split) <;> first | rfl | contradiction | simp_all, rfl, rfl⟩
  · refine V.aload_n (j := 0) rfl dX8_leads_19 ?_
    refine V.getr (q := m_code) dX8_leads_20 fX8_49 rfl rfl ?_
    refine V.sipush (v := nI 1600) (by decide) dX8_leads_23 ?_
    refine V.iconst (v := nI 4) (by decide) dX8_leads_26 ?_
    refine V.iload_n (j := 1) rfl dX8_leads_27 ?_
    refine V.imulN dX8_leads_28 ?_
    refine V.iaddN dX8_leads_29 ?_
    refine V.iconst (v := nI 3) (by decide) dX8_leads_30 ?_
    refine V.iaddN dX8_leads_31 ?_
    refine V.lda (v := A m_code ((1600 + (4 * i)) + 3)) dX8_leads_32 rfl (by omega) (by decide) rfl ?_
    refine V.goto (tgt := 60) dX8_leads_33 (by decide) ?_
    refine V.ri dX8_leads_60 rfl ?_
    exact ⟨by unfold mz_leads; (repeat' split) <;> first | rfl | contradiction | simp_all, rfl, rfl⟩
set_option maxRecDepth 100000 in
set_option maxHeartbeats 4000000 in
theorem ml_isLedTo {G : am_G} {Fn : Array Value → State → List Frame → State → Prop} (I A : Nat → Nat → Int32) (n : Nat) (hn : A m_items 1 = nI n) (hn4 : n < 400) (k : Nat) : ∀ (m : Nat) (i : Nat), i + m = n → V G MX8_isLedTo (am_R 1 22 0 0) Fn 0 0 39 [(0, .ref mM), (1, .int (nI k)), (2, .int (bI (∃ t, t < n ∧ mz_leads (A m_code) t = nI k)))] [] (hp I A) → V G MX8_isLedTo (am_R 1 22 0 0) Fn 0 0 4 [(0, .ref mM), (1, .int (nI k)), (2, .int (bI (∃ t, t < i ∧ mz_leads (A m_code) t = nI k))), (3, .int (nI i))] [] (hp I A) := by
  intro m
  induction m with
  | zero =>
    intro i hi0 hk
    obtain rfl : n = i := by omega
    refine V.iload_n (j := 3) rfl dX8_isLedTo_4 ?_
    refine V.aload_n (j := 0) rfl dX8_isLedTo_5 ?_
    refine V.getr (q := m_items) dX8_isLedTo_6 fX8_52 rfl rfl ?_
    refine V.iconst (v := nI 1) (by decide) dX8_isLedTo_9 ?_
    refine V.lda (v := nI n) dX8_isLedTo_10 rfl (by decide) (by decide) hn ?_
    refine V.icmp_geN (tgt := 39) dX8_isLedTo_11 (by decide) (by omega) (by omega) (fun c1 => ?_) (fun c1 => ?_)
    · refine V.fewer [0, 1, 2] rfl ?_
      exact hk
    · exact absurd c1 (by omega)
  | succ m ih =>
    intro i hi0 hk
    refine V.iload_n (j := 3) rfl dX8_isLedTo_4 ?_
    refine V.aload_n (j := 0) rfl dX8_isLedTo_5 ?_
    refine V.getr (q := m_items) dX8_isLedTo_6 fX8_52 rfl rfl ?_
    refine V.iconst (v := nI 1) (by decide) dX8_isLedTo_9 ?_
    refine V.lda (v := nI n) dX8_isLedTo_10 rfl (by decide) (by decide) hn ?_
    refine V.icmp_geN (tgt := 39) dX8_isLedTo_11 (by decide) (by omega) (by omega) (fun c2 => ?_) (fun c2 => ?_)
    · exact absurd c2 (by omega)
    · refine V.iload_n (j := 2) rfl dX8_isLedTo_14 ?_
      have K3 : V G MX8_isLedTo (am_R 1 22 0 0) Fn 0 0 32 [(0, .ref mM), (1, .int (nI k)), (2, .int (bI (∃ t, t < i ∧ mz_leads (A m_code) t = nI k))), (3, .int (nI i))] [.int (bI (∃ t, t < i + 1 ∧ mz_leads (A m_code) t = nI k))] (hp I A) := by
        refine V.istore_n (ls' := [(0, .ref mM), (1, .int (nI k)), (2, .int (bI (∃ t, t < i + 1 ∧ mz_leads (A m_code) t = nI k))), (3, .int (nI i))]) dX8_isLedTo_32 (by decide) rfl ?_
        refine V.iincN (ls' := [(0, .ref mM), (1, .int (nI k)), (2, .int (bI (∃ t, t < i + 1 ∧ mz_leads (A m_code) t = nI k))), (3, .int (nI (i + 1)))]) dX8_isLedTo_33 (j := 3) rfl (by decide) rfl ?_
        refine V.goto (tgt := 4) dX8_isLedTo_36 (by decide) ?_
        exact ih (i + 1) (by omega) hk
      refine V.if_ne (tgt := 27) dX8_isLedTo_15 (by decide) (fun c4 => ?_) (fun c4 => ?_)
      · refine V.iconst (v := nI 1) (by decide) dX8_isLedTo_27 ?_
        refine V.goto (tgt := 32) dX8_isLedTo_28 (by decide) ?_
        exact V.st (congrArg (fun x => [Value.int x]) (bI_1 (by obtain ⟨t, h1, h2⟩ := bI_nz c4; exact ⟨t, by omega, h2⟩))) K3
      · refine V.aload_n (j := 0) rfl dX8_isLedTo_18 ?_
        refine V.iload_n (j := 3) rfl dX8_isLedTo_19 ?_
        refine V.cV (As := [.int (nI i)]) (st := []) dX8_isLedTo_20 sX8_160 iX8_leads lX8_leads rfl rfl (md_leads I A i (by omega)) ⟨by decide, by decide⟩ (Nat.le_of_ble_eq_true rfl) rfl (fun r I' A' hq => ?_)
        obtain ⟨rfl, rfl, rfl⟩ := hq
        refine V.st (st' := [.int (mz_leads (A m_code) i)]) rfl ?_
        refine V.iload_n (j := 1) rfl dX8_isLedTo_23 ?_
        refine V.icmp_ne (tgt := 31) dX8_isLedTo_24 (by decide) (fun c5 => ?_) (fun c5 => ?_)
        · refine V.iconst (v := nI 0) (by decide) dX8_isLedTo_31 ?_
          exact V.st (congrArg (fun x => [Value.int x]) (bI_0 (ex_no (bI_z c4) c5))) K3
        · refine V.iconst (v := nI 1) (by decide) dX8_isLedTo_27 ?_
          refine V.goto (tgt := 32) dX8_isLedTo_28 (by decide) ?_
          exact V.st (congrArg (fun x => [Value.int x]) (bI_1 ⟨i, by omega, c5⟩)) K3
set_option maxRecDepth 100000 in
set_option maxHeartbeats 4000000 in
theorem md_isLedTo {G : am_G} (I A : Nat → Nat → Int32) (n : Nat) (hn : A m_items 1 = nI n) (hn4 : n < 400) (k : Nat) : Cm G MX8_isLedTo 1 22 [.ref mM, .int (nI k)] I A (fun r I' A' => r = some (.int (bI (mz_led (A m_code) n k))) ∧ I = I' ∧ A = A') := by
  refine Cm.of (by decide) (Nat.le_of_ble_eq_true rfl) rfl ?_
  show V G MX8_isLedTo (am_R 1 22 0 0) _ 0 0 0 [(0, .ref mM), (1, .int (nI k))] [] (hp I A)
  refine V.iconst (v := nI 0) (by decide) dX8_isLedTo_0 ?_
  refine V.istore_n (ls' := [(0, .ref mM), (1, .int (nI k)), (2, .int (nI 0))]) dX8_isLedTo_1 (by decide) rfl ?_
  refine V.iconst (v := nI 0) (by decide) dX8_isLedTo_2 ?_
  refine V.istore_n (ls' := [(0, .ref mM), (1, .int (nI k)), (2, .int (nI 0)), (3, .int (nI 0))]) dX8_isLedTo_3 (by decide) rfl ?_
  refine V.lse (ls' := [(0, .ref mM), (1, .int (nI k)), (2, .int (bI (∃ t, t < 0 ∧ mz_leads (A m_code) t = nI k))), (3, .int (nI 0))]) (by rw [← bI_0 (c := ∃ t, t < 0 ∧ _) (fun z => by obtain ⟨t, h1, h2⟩ := z; omega)]) ?_
  refine ml_isLedTo I A n hn hn4 k n 0 (by omega) ?_
  refine V.iload_n (j := 2) rfl dX8_isLedTo_39 ?_
  refine V.rz dX8_isLedTo_40 rfl (bI_bz _) ?_
  exact ⟨rfl, rfl, rfl⟩
set_option maxRecDepth 100000 in
set_option maxHeartbeats 4000000 in
theorem ml_needless {G : am_G} {Q : Option Value → (Nat → Nat → Int32) → (Nat → Nat → Int32) → Prop} (I A : Nat → Nat → Int32) (n : Nat) (hn : A m_items 1 = nI n) (hn4 : n < 400) (hret : ∀ i, i < n → mz_gone (A m_code) n i → mz_no (fun k => mz_gone (A m_code) n k) i → Q (some (.int (nI i))) I A) : ∀ (m : Nat) (i : Nat), i + m = n → mz_no (fun k => mz_gone (A m_code) n k) i → (mz_no (fun k => mz_gone (A m_code) n k) n → V G MX8_needless (am_R 2 45 0 0) (am_Fin G 0 0 (Pm Q)) 0 0 174 [(0, .ref mM)] [] (hp I A)) → V G MX8_needless (am_R 2 45 0 0) (am_Fin G 0 0 (Pm Q)) 0 0 2 [(0, .ref mM), (1, .int (nI i))] [] (hp I A) := by
  intro m
  induction m with
  | zero =>
    intro i hi0 hi1 hk
    obtain rfl : n = i := by omega
    refine V.iload_n (j := 1) rfl dX8_needless_2 ?_
    refine V.aload_n (j := 0) rfl dX8_needless_3 ?_
    refine V.getr (q := m_items) dX8_needless_4 fX8_52 rfl rfl ?_
    refine V.iconst (v := nI 1) (by decide) dX8_needless_7 ?_
    refine V.lda (v := nI n) dX8_needless_8 rfl (by decide) (by decide) hn ?_
    refine V.icmp_geN (tgt := 174) dX8_needless_9 (by decide) (by omega) (by omega) (fun c1 => ?_) (fun c1 => ?_)
    · refine V.fewer [0] rfl ?_
      exact hk hi1
    · exact absurd c1 (by omega)
  | succ m ih =>
    intro i hi0 hi1 hk
    refine V.iload_n (j := 1) rfl dX8_needless_2 ?_
    refine V.aload_n (j := 0) rfl dX8_needless_3 ?_
    refine V.getr (q := m_items) dX8_needless_4 fX8_52 rfl rfl ?_
    refine V.iconst (v := nI 1) (by decide) dX8_needless_7 ?_
    refine V.lda (v := nI n) dX8_needless_8 rfl (by decide) (by decide) hn ?_
    refine V.icmp_geN (tgt := 174) dX8_needless_9 (by decide) (by omega) (by omega) (fun c2 => ?_) (fun c2 => ?_)
    · exact absurd c2 (by omega)
    · refine V.sipush (v := nI 1600) (by decide) dX8_needless_12 ?_
      refine V.iconst (v := nI 4) (by decide) dX8_needless_15 ?_
      refine V.iload_n (j := 1) rfl dX8_needless_16 ?_
      refine V.imulN dX8_needless_17 ?_
      refine V.iaddN dX8_needless_18 ?_
      refine V.istore_n (ls' := [(0, .ref mM), (1, .int (nI i)), (2, .int (nI (1600 + (4 * i))))]) dX8_needless_19 (by decide) rfl ?_
      refine V.aload_n (j := 0) rfl dX8_needless_20 ?_
      refine V.getr (q := m_code) dX8_needless_21 fX8_49 rfl rfl ?_
      refine V.iload_n (j := 2) rfl dX8_needless_24 ?_
      refine V.lda (v := A m_code (1600 + (4 * i))) dX8_needless_25 rfl (by omega) (by decide) rfl ?_
      refine V.bipush (v := nI 8) (by decide) dX8_needless_26 ?_
      have K3 : V G MX8_needless (am_R 2 45 0 0) (am_Fin G 0 0 (Pm Q)) 0 0 47 [(0, .ref mM), (1, .int (nI i)), (2, .int (nI (1600 + (4 * i))))] [.int (bI (mz_P1 (A m_code) i))] (hp I A) := by
        refine V.istore_n (ls' := [(0, .ref mM), (1, .int (nI i)), (2, .int (nI (1600 + (4 * i)))), (3, .int (bI (mz_P1 (A m_code) i)))]) dX8_needless_47 (by decide) rfl ?_
        have K4 : V G MX8_needless (am_R 2 45 0 0) (am_Fin G 0 0 (Pm Q)) 0 0 162 [(0, .ref mM), (1, .int (nI i)), (2, .int (nI (1600 + (4 * i)))), (3, .int (bI (mz_gone (A m_code) n i)))] [] (hp I A) := by
          refine V.iload_n (j := 3) rfl dX8_needless_162 ?_
          refine V.if_eq (tgt := 168) dX8_needless_163 (by decide) (fun c5 => ?_) (fun c5 => ?_)
          · refine V.iincN (ls' := [(0, .ref mM), (1, .int (nI (i + 1))), (2, .int (nI (1600 + (4 * i)))), (3, .int (bI (mz_gone (A m_code) n i)))]) dX8_needless_168 (j := 1) rfl (by decide) rfl ?_
            refine V.goto (tgt := 2) dX8_needless_171 (by decide) ?_
            refine V.fewer [0, 1] rfl ?_
            exact ih (i + 1) (by omega) (lt_s hi1 (bI_z c5)) hk
          · refine V.iload_n (j := 1) rfl dX8_needless_166 ?_
            refine V.ri dX8_needless_167 rfl ?_
            exact hret i (by omega) (bI_nz c5) hi1
        refine V.iload_n (j := 1) rfl dX8_needless_48 ?_
        refine V.if_leN (tgt := 162) dX8_needless_49 (by decide) (by omega) (fun c6 => ?_) (fun c6 => ?_)
        · exact V.lse (by rw [show bI (mz_P1 (A m_code) i) = bI (mz_gone (A m_code) n i) from bI_c ⟨fun z => Or.inl z, fun z => z.elim id (fun y => by have := y.1; omega)⟩]) K4
        · refine V.iload_n (j := 3) rfl dX8_needless_52 ?_
          refine V.if_ne (tgt := 162) dX8_needless_53 (by decide) (fun c7 => ?_) (fun c7 => ?_)
          · exact V.lse (by rw [show bI (mz_P1 (A m_code) i) = bI (mz_gone (A m_code) n i) from bI_c ⟨fun z => Or.inl z, fun _ => bI_nz c7⟩]) K4
          · refine V.aload_n (j := 0) rfl dX8_needless_56 ?_
            refine V.getr (q := m_code) dX8_needless_57 fX8_49 rfl rfl ?_
            refine V.iload_n (j := 2) rfl dX8_needless_60 ?_
            refine V.iconst (v := nI 4) (by decide) dX8_needless_61 ?_
            refine V.isubN dX8_needless_62 (by omega) ?_
            refine V.lda (v := A m_code ((1600 + (4 * i)) - 4)) dX8_needless_63 rfl (by omega) (by decide) rfl ?_
            refine V.istore (ls' := [(0, .ref mM), (1, .int (nI i)), (2, .int (nI (1600 + (4 * i)))), (3, .int (bI (mz_P1 (A m_code) i))), (4, .int (A m_code ((1600 + (4 * i)) - 4)))]) dX8_needless_64 (by decide) rfl ?_
            refine V.aload_n (j := 0) rfl dX8_needless_66 ?_
            refine V.getr (q := m_code) dX8_needless_67 fX8_49 rfl rfl ?_
            refine V.iload_n (j := 2) rfl dX8_needless_70 ?_
            refine V.lda (v := A m_code (1600 + (4 * i))) dX8_needless_71 rfl (by omega) (by decide) rfl ?_
            refine V.bipush (v := nI 11) (by decide) dX8_needless_72 ?_
            have K8 : V G MX8_needless (am_R 2 45 0 0) (am_Fin G 0 0 (Pm Q)) 0 0 127 [(0, .ref mM), (1, .int (nI i)), (2, .int (nI (1600 + (4 * i)))), (3, .int (bI (mz_P1 (A m_code) i))), (4, .int (A m_code ((1600 + (4 * i)) - 4)))] [.int (bI (mz_AG (A m_code) i))] (hp I A) := by
              refine V.istore (ls' := [(0, .ref mM), (1, .int (nI i)), (2, .int (nI (1600 + (4 * i)))), (3, .int (bI (mz_P1 (A m_code) i))), (4, .int (A m_code ((1600 + (4 * i)) - 4))), (5, .int (bI (mz_AG (A m_code) i)))]) dX8_needless_127 (by decide) rfl ?_
              have K9 : V G MX8_needless (am_R 2 45 0 0) (am_Fin G 0 0 (Pm Q)) 0 0 161 [(0, .ref mM), (1, .int (nI i)), (2, .int (nI (1600 + (4 * i)))), (3, .int (bI (mz_P1 (A m_code) i))), (4, .int (A m_code ((1600 + (4 * i)) - 4))), (5, .int (bI (mz_AG (A m_code) i)))] [.int (bI (mz_P2 (A m_code) n i))] (hp I A) := by
                refine V.istore_n (ls' := [(0, .ref mM), (1, .int (nI i)), (2, .int (nI (1600 + (4 * i)))), (3, .int (bI (mz_P2 (A m_code) n i))), (4, .int (A m_code ((1600 + (4 * i)) - 4))), (5, .int (bI (mz_AG (A m_code) i)))]) dX8_needless_161 (by decide) rfl ?_
                refine V.fewer (ls' := [(0, .ref mM), (1, .int (nI i)), (2, .int (nI (1600 + (4 * i)))), (3, .int (bI (mz_P2 (A m_code) n i)))]) [0, 1, 2, 3] rfl ?_
                exact V.lse (by rw [show bI (mz_P2 (A m_code) n i) = bI (mz_gone (A m_code) n i) from bI_c ⟨fun z => Or.inr ⟨by omega, z⟩, fun z => z.elim (fun y => absurd y (bI_z c7)) (fun y => y.2)⟩]) K4
              refine V.iload (j := 5) rfl dX8_needless_129 ?_
              refine V.if_ne (tgt := 148) dX8_needless_131 (by decide) (fun c10 => ?_) (fun c10 => ?_)
              · refine V.aload_n (j := 0) rfl dX8_needless_148 ?_
                refine V.iload_n (j := 1) rfl dX8_needless_149 ?_
                refine V.cV (As := [.int (nI i)]) (st := []) dX8_needless_150 sX8_163 iX8_isLedTo lX8_isLedTo rfl rfl (md_isLedTo I A n hn hn4 i) ⟨by decide, by decide⟩ (Nat.le_of_ble_eq_true rfl) rfl (fun r I' A' hq => ?_)
                obtain ⟨rfl, rfl, rfl⟩ := hq
                by_cases b11 : mz_led (A m_code) n i
                · refine V.st (st' := [.int (nI 1)]) (by rw [bI_t b11]; rfl) ?_
                  refine V.if_ne (tgt := 160) dX8_needless_153 (by decide) (fun _ => ?_) (fun z => absurd z (by decide))
                  refine V.iconst (v := nI 0) (by decide) dX8_needless_160 ?_
                  exact V.st (congrArg (fun x => [Value.int x]) (bI_0 (c := mz_P2 (A m_code) n i) (fun z => z.2 b11))) K9
                · refine V.st (st' := [.int (nI 0)]) (by rw [bI_f b11]; rfl) ?_
                  refine V.if_ne (tgt := 160) dX8_needless_153 (by decide) (fun z => absurd z (by decide)) (fun _ => ?_)
                  refine V.iconst (v := nI 1) (by decide) dX8_needless_156 ?_
                  refine V.goto (tgt := 161) dX8_needless_157 (by decide) ?_
                  exact V.st (congrArg (fun x => [Value.int x]) (bI_1 (c := mz_P2 (A m_code) n i) ⟨Or.inl (bI_nz c10), b11⟩)) K9
              · refine V.iload (j := 4) rfl dX8_needless_134 ?_
                refine V.bipush (v := nI 8) (by decide) dX8_needless_136 ?_
                refine V.icmp_eq (tgt := 148) dX8_needless_138 (by decide) (fun c14 => ?_) (fun c14 => ?_)
                · refine V.aload_n (j := 0) rfl dX8_needless_148 ?_
                  refine V.iload_n (j := 1) rfl dX8_needless_149 ?_
                  refine V.cV (As := [.int (nI i)]) (st := []) dX8_needless_150 sX8_163 iX8_isLedTo lX8_isLedTo rfl rfl (md_isLedTo I A n hn hn4 i) ⟨by decide, by decide⟩ (Nat.le_of_ble_eq_true rfl) rfl (fun r I' A' hq => ?_)
                  obtain ⟨rfl, rfl, rfl⟩ := hq
                  by_cases b15 : mz_led (A m_code) n i
                  · refine V.st (st' := [.int (nI 1)]) (by rw [bI_t b15]; rfl) ?_
                    refine V.if_ne (tgt := 160) dX8_needless_153 (by decide) (fun _ => ?_) (fun z => absurd z (by decide))
                    refine V.iconst (v := nI 0) (by decide) dX8_needless_160 ?_
                    exact V.st (congrArg (fun x => [Value.int x]) (bI_0 (c := mz_P2 (A m_code) n i) (fun z => z.2 b15))) K9
                  · refine V.st (st' := [.int (nI 0)]) (by rw [bI_f b15]; rfl) ?_
                    refine V.if_ne (tgt := 160) dX8_needless_153 (by decide) (fun z => absurd z (by decide)) (fun _ => ?_)
                    refine V.iconst (v := nI 1) (by decide) dX8_needless_156 ?_
                    refine V.goto (tgt := 161) dX8_needless_157 (by decide) ?_
                    exact V.st (congrArg (fun x => [Value.int x]) (bI_1 (c := mz_P2 (A m_code) n i) ⟨Or.inr (Or.inl c14), b15⟩)) K9
                · refine V.iload (j := 4) rfl dX8_needless_141 ?_
                  refine V.bipush (v := nI 10) (by decide) dX8_needless_143 ?_
                  refine V.icmp_ne (tgt := 160) dX8_needless_145 (by decide) (fun c18 => ?_) (fun c18 => ?_)
                  · refine V.iconst (v := nI 0) (by decide) dX8_needless_160 ?_
                    exact V.st (congrArg (fun x => [Value.int x]) (bI_0 (c := mz_P2 (A m_code) n i) (fun z => z.1.elim (bI_z c10) (fun y => y.elim c14 c18)))) K9
                  · refine V.aload_n (j := 0) rfl dX8_needless_148 ?_
                    refine V.iload_n (j := 1) rfl dX8_needless_149 ?_
                    refine V.cV (As := [.int (nI i)]) (st := []) dX8_needless_150 sX8_163 iX8_isLedTo lX8_isLedTo rfl rfl (md_isLedTo I A n hn hn4 i) ⟨by decide, by decide⟩ (Nat.le_of_ble_eq_true rfl) rfl (fun r I' A' hq => ?_)
                    obtain ⟨rfl, rfl, rfl⟩ := hq
                    by_cases b19 : mz_led (A m_code) n i
                    · refine V.st (st' := [.int (nI 1)]) (by rw [bI_t b19]; rfl) ?_
                      refine V.if_ne (tgt := 160) dX8_needless_153 (by decide) (fun _ => ?_) (fun z => absurd z (by decide))
                      refine V.iconst (v := nI 0) (by decide) dX8_needless_160 ?_
                      exact V.st (congrArg (fun x => [Value.int x]) (bI_0 (c := mz_P2 (A m_code) n i) (fun z => z.2 b19))) K9
                    · refine V.st (st' := [.int (nI 0)]) (by rw [bI_f b19]; rfl) ?_
                      refine V.if_ne (tgt := 160) dX8_needless_153 (by decide) (fun z => absurd z (by decide)) (fun _ => ?_)
                      refine V.iconst (v := nI 1) (by decide) dX8_needless_156 ?_
                      refine V.goto (tgt := 161) dX8_needless_157 (by decide) ?_
                      exact V.st (congrArg (fun x => [Value.int x]) (bI_1 (c := mz_P2 (A m_code) n i) ⟨Or.inr (Or.inr c18), b19⟩)) K9
            refine V.icmp_ne (tgt := 126) dX8_needless_74 (by decide) (fun c22 => ?_) (fun c22 => ?_)
            · refine V.iconst (v := nI 0) (by decide) dX8_needless_126 ?_
              exact V.st (congrArg (fun x => [Value.int x]) (bI_0 (c := mz_AG (A m_code) i) (fun z => c22 z.1))) K8
            · refine V.iload (j := 4) rfl dX8_needless_77 ?_
              refine V.bipush (v := nI 12) (by decide) dX8_needless_79 ?_
              refine V.icmp_ne (tgt := 126) dX8_needless_81 (by decide) (fun c23 => ?_) (fun c23 => ?_)
              · refine V.iconst (v := nI 0) (by decide) dX8_needless_126 ?_
                exact V.st (congrArg (fun x => [Value.int x]) (bI_0 (c := mz_AG (A m_code) i) (fun z => c23 z.2.1))) K8
              · refine V.aload_n (j := 0) rfl dX8_needless_84 ?_
                refine V.getr (q := m_code) dX8_needless_85 fX8_49 rfl rfl ?_
                refine V.iload_n (j := 2) rfl dX8_needless_88 ?_
                refine V.iconst (v := nI 1) (by decide) dX8_needless_89 ?_
                refine V.iaddN dX8_needless_90 ?_
                refine V.lda (v := A m_code ((1600 + (4 * i)) + 1)) dX8_needless_91 rfl (by omega) (by decide) rfl ?_
                refine V.aload_n (j := 0) rfl dX8_needless_92 ?_
                refine V.getr (q := m_code) dX8_needless_93 fX8_49 rfl rfl ?_
                refine V.iload_n (j := 2) rfl dX8_needless_96 ?_
                refine V.iconst (v := nI 3) (by decide) dX8_needless_97 ?_
                refine V.isubN dX8_needless_98 (by omega) ?_
                refine V.lda (v := A m_code ((1600 + (4 * i)) - 3)) dX8_needless_99 rfl (by omega) (by decide) rfl ?_
                refine V.icmp_ne (tgt := 126) dX8_needless_100 (by decide) (fun c24 => ?_) (fun c24 => ?_)
                · refine V.iconst (v := nI 0) (by decide) dX8_needless_126 ?_
                  exact V.st (congrArg (fun x => [Value.int x]) (bI_0 (c := mz_AG (A m_code) i) (fun z => c24 z.2.2.1))) K8
                · refine V.aload_n (j := 0) rfl dX8_needless_103 ?_
                  refine V.getr (q := m_code) dX8_needless_104 fX8_49 rfl rfl ?_
                  refine V.iload_n (j := 2) rfl dX8_needless_107 ?_
                  refine V.iconst (v := nI 2) (by decide) dX8_needless_108 ?_
                  refine V.iaddN dX8_needless_109 ?_
                  refine V.lda (v := A m_code ((1600 + (4 * i)) + 2)) dX8_needless_110 rfl (by omega) (by decide) rfl ?_
                  refine V.aload_n (j := 0) rfl dX8_needless_111 ?_
                  refine V.getr (q := m_code) dX8_needless_112 fX8_49 rfl rfl ?_
                  refine V.iload_n (j := 2) rfl dX8_needless_115 ?_
                  refine V.iconst (v := nI 2) (by decide) dX8_needless_116 ?_
                  refine V.isubN dX8_needless_117 (by omega) ?_
                  refine V.lda (v := A m_code ((1600 + (4 * i)) - 2)) dX8_needless_118 rfl (by omega) (by decide) rfl ?_
                  refine V.icmp_ne (tgt := 126) dX8_needless_119 (by decide) (fun c25 => ?_) (fun c25 => ?_)
                  · refine V.iconst (v := nI 0) (by decide) dX8_needless_126 ?_
                    exact V.st (congrArg (fun x => [Value.int x]) (bI_0 (c := mz_AG (A m_code) i) (fun z => c25 z.2.2.2))) K8
                  · refine V.iconst (v := nI 1) (by decide) dX8_needless_122 ?_
                    refine V.goto (tgt := 127) dX8_needless_123 (by decide) ?_
                    exact V.st (congrArg (fun x => [Value.int x]) (bI_1 (c := mz_AG (A m_code) i) ⟨c22, c23, c24, c25⟩)) K8
      refine V.icmp_ne (tgt := 46) dX8_needless_28 (by decide) (fun c26 => ?_) (fun c26 => ?_)
      · refine V.iconst (v := nI 0) (by decide) dX8_needless_46 ?_
        exact V.st (congrArg (fun x => [Value.int x]) (bI_0 (c := mz_P1 (A m_code) i) (fun z => c26 z.1))) K3
      · refine V.aload_n (j := 0) rfl dX8_needless_31 ?_
        refine V.iload_n (j := 1) rfl dX8_needless_32 ?_
        refine V.cV (As := [.int (nI i)]) (st := []) dX8_needless_33 sX8_160 iX8_leads lX8_leads rfl rfl (md_leads I A i (by omega)) ⟨by decide, by decide⟩ (Nat.le_of_ble_eq_true rfl) rfl (fun r I' A' hq => ?_)
        obtain ⟨rfl, rfl, rfl⟩ := hq
        refine V.st (st' := [.int (mz_leads (A m_code) i)]) rfl ?_
        refine V.iload_n (j := 1) rfl dX8_needless_36 ?_
        refine V.iconst (v := nI 1) (by decide) dX8_needless_37 ?_
        refine V.iaddN dX8_needless_38 ?_
        refine V.icmp_ne (tgt := 46) dX8_needless_39 (by decide) (fun c27 => ?_) (fun c27 => ?_)
        · refine V.iconst (v := nI 0) (by decide) dX8_needless_46 ?_
          exact V.st (congrArg (fun x => [Value.int x]) (bI_0 (c := mz_P1 (A m_code) i) (fun z => c27 z.2))) K3
        · refine V.iconst (v := nI 1) (by decide) dX8_needless_42 ?_
          refine V.goto (tgt := 47) dX8_needless_43 (by decide) ?_
          exact V.st (congrArg (fun x => [Value.int x]) (bI_1 (c := mz_P1 (A m_code) i) ⟨c26, c27⟩)) K3
set_option maxRecDepth 100000 in
set_option maxHeartbeats 4000000 in
theorem md_needless {G : am_G} (I A : Nat → Nat → Int32) (n : Nat) (hn : A m_items 1 = nI n) (hn4 : n < 400) : Cm G MX8_needless 2 45 [.ref mM] I A (fun r I' A' => ((∃ i, r = some (.int (nI i)) ∧ i < n ∧ mz_gone (A m_code) n i ∧ mz_no (fun k => mz_gone (A m_code) n k) i) ∨ (r = some (.int (-1)) ∧ mz_no (fun k => mz_gone (A m_code) n k) n)) ∧ I = I' ∧ A = A') := by
  refine Cm.of (by decide) (Nat.le_of_ble_eq_true rfl) rfl ?_
  show V G MX8_needless (am_R 2 45 0 0) _ 0 0 0 [(0, .ref mM)] [] (hp I A)
  refine V.iconst (v := nI 0) (by decide) dX8_needless_0 ?_
  refine V.istore_n (ls' := [(0, .ref mM), (1, .int (nI 0))]) dX8_needless_1 (by decide) rfl ?_
  refine ml_needless I A n hn hn4 (fun i h1 h2 h3 => ⟨Or.inl ⟨i, rfl, h1, h2, h3⟩, rfl, rfl⟩) n 0 (by omega) (fun _ h => absurd h (Nat.not_lt_zero _)) (fun hno => ?_)
  refine V.iconst (v := (-1)) (by decide) dX8_needless_174 ?_
  refine V.ri dX8_needless_175 rfl ?_
  exact ⟨Or.inr ⟨rfl, hno⟩, rfl, rfl⟩
