/-- a row's places from k on, m of them, get what stands four places on -/
def mz_shl : Nat → Nat → (Nat → Int32) → Nat → Int32
  | 0, _, c => c
  | m + 1, k, c => mz_shl m (k + 1) (upd c k (c (k + 4)))
abbrev mz_off (c : Nat → Int32) (k : Nat) : Nat := if c (1600 + 4 * k) = nI 7 then 3 else 1
/-- what led behind item i leads one less far -/
def mz_dc (c : Nat → Int32) (i k : Nat) : Nat → Int32 := if mz_leads c k ≤ nI i then c else upd c (1600 + 4 * k + mz_off c k) (c (1600 + 4 * k + mz_off c k) - nI 1)
def mz_dec (i : Nat) : Nat → Nat → (Nat → Int32) → Nat → Int32
  | 0, _, c => c
  | m + 1, k, c => mz_dec i m (k + 1) (mz_dc c i k)
/-- item i is taken away, n are left -/
def mz_take (c : Nat → Int32) (n i : Nat) : Nat → Int32 := mz_dec i n 0 (mz_shl (4 * n - 4 * i) (1600 + 4 * i) c)
set_option maxRecDepth 100000 in
set_option maxHeartbeats 4000000 in
theorem ml_take1 {G : am_G} {Fn : Array Value → State → List Frame → State → Prop} (I A : Nat → Nat → Int32) (n : Nat) (hn : A m_items 1 = nI n) (hn4 : n < 399) (i : Nat) : ∀ (m : Nat) (k : Nat) (c : Nat → Int32), k + m = 1600 + 4 * n → V G MX8_take (am_R 1 22 0 0) Fn 0 0 54 [(0, .ref mM), (1, .int (nI i))] [] (hp I (upA A m_code (mz_shl m k c))) → V G MX8_take (am_R 1 22 0 0) Fn 0 0 18 [(0, .ref mM), (1, .int (nI i)), (2, .int (nI k))] [] (hp I (upA A m_code (c))) := by
  intro m
  induction m with
  | zero =>
    intro k c hi0 hk
    refine V.iload_n (j := 2) rfl dX8_take_18 ?_
    refine V.sipush (v := nI 1600) (by decide) dX8_take_19 ?_
    refine V.iconst (v := nI 4) (by decide) dX8_take_22 ?_
    refine V.aload_n (j := 0) rfl dX8_take_23 ?_
    refine V.getr (q := m_items) dX8_take_24 fX8_52 rfl rfl ?_
    refine V.iconst (v := nI 1) (by decide) dX8_take_27 ?_
    refine V.lda (v := nI n) dX8_take_28 rfl (by decide) (by decide) hn ?_
    refine V.imulN dX8_take_29 ?_
    refine V.iaddN dX8_take_30 ?_
    refine V.icmp_geN (tgt := 54) dX8_take_31 (by decide) (by omega) (by omega) (fun c1 => ?_) (fun c1 => ?_)
    · refine V.fewer [0, 1] rfl ?_
      exact hk
    · exact absurd c1 (by omega)
  | succ m ih =>
    intro k c hi0 hk
    refine V.iload_n (j := 2) rfl dX8_take_18 ?_
    refine V.sipush (v := nI 1600) (by decide) dX8_take_19 ?_
    refine V.iconst (v := nI 4) (by decide) dX8_take_22 ?_
    refine V.aload_n (j := 0) rfl dX8_take_23 ?_
    refine V.getr (q := m_items) dX8_take_24 fX8_52 rfl rfl ?_
    refine V.iconst (v := nI 1) (by decide) dX8_take_27 ?_
    refine V.lda (v := nI n) dX8_take_28 rfl (by decide) (by decide) hn ?_
    refine V.imulN dX8_take_29 ?_
    refine V.iaddN dX8_take_30 ?_
    refine V.icmp_geN (tgt := 54) dX8_take_31 (by decide) (by omega) (by omega) (fun c2 => ?_) (fun c2 => ?_)
    · exact absurd c2 (by omega)
    · refine V.aload_n (j := 0) rfl dX8_take_34 ?_
      refine V.getr (q := m_code) dX8_take_35 fX8_49 rfl rfl ?_
      refine V.iload_n (j := 2) rfl dX8_take_38 ?_
      refine V.aload_n (j := 0) rfl dX8_take_39 ?_
      refine V.getr (q := m_code) dX8_take_40 fX8_49 rfl rfl ?_
      refine V.iload_n (j := 2) rfl dX8_take_43 ?_
      refine V.iconst (v := nI 4) (by decide) dX8_take_44 ?_
      refine V.iaddN dX8_take_45 ?_
      refine V.lda (v := c (k + 4)) dX8_take_46 rfl (by omega) (by decide) rfl ?_
      refine V.sta (g := upd c k (c (k + 4))) dX8_take_47 rfl (by omega) (by decide) rfl ?_
      refine V.hpe (A' := (upA A m_code (upd c k (c (k + 4))))) rfl upA_u ?_
      refine V.iincN (ls' := [(0, .ref mM), (1, .int (nI i)), (2, .int (nI (k + 1)))]) dX8_take_48 (j := 2) rfl (by decide) rfl ?_
      refine V.goto (tgt := 18) dX8_take_51 (by decide) ?_
      exact ih (k + 1) _ (by omega) hk
set_option maxRecDepth 100000 in
set_option maxHeartbeats 4000000 in
theorem ml_take2 {G : am_G} {Fn : Array Value → State → List Frame → State → Prop} (I A : Nat → Nat → Int32) (n : Nat) (hn : A m_items 1 = nI n) (hn4 : n < 399) (i : Nat) : ∀ (m : Nat) (k : Nat) (c : Nat → Int32), k + m = n → V G MX8_take (am_R 1 22 0 0) Fn 0 0 116 [(0, .ref mM)] [] (hp I (upA A m_code (mz_dec i m k c))) → V G MX8_take (am_R 1 22 0 0) Fn 0 0 56 [(0, .ref mM), (1, .int (nI i)), (2, .int (nI k))] [] (hp I (upA A m_code (c))) := by
  intro m
  induction m with
  | zero =>
    intro k c hi0 hk
    refine V.iload_n (j := 2) rfl dX8_take_56 ?_
    refine V.aload_n (j := 0) rfl dX8_take_57 ?_
    refine V.getr (q := m_items) dX8_take_58 fX8_52 rfl rfl ?_
    refine V.iconst (v := nI 1) (by decide) dX8_take_61 ?_
    refine V.lda (v := nI n) dX8_take_62 rfl (by decide) (by decide) hn ?_
    refine V.icmp_geN (tgt := 116) dX8_take_63 (by decide) (by omega) (by omega) (fun c1 => ?_) (fun c1 => ?_)
    · refine V.fewer [0] rfl ?_
      exact hk
    · exact absurd c1 (by omega)
  | succ m ih =>
    intro k c hi0 hk
    refine V.iload_n (j := 2) rfl dX8_take_56 ?_
    refine V.aload_n (j := 0) rfl dX8_take_57 ?_
    refine V.getr (q := m_items) dX8_take_58 fX8_52 rfl rfl ?_
    refine V.iconst (v := nI 1) (by decide) dX8_take_61 ?_
    refine V.lda (v := nI n) dX8_take_62 rfl (by decide) (by decide) hn ?_
    refine V.icmp_geN (tgt := 116) dX8_take_63 (by decide) (by omega) (by omega) (fun c2 => ?_) (fun c2 => ?_)
    · exact absurd c2 (by omega)
    · refine V.sipush (v := nI 1600) (by decide) dX8_take_66 ?_
      refine V.iconst (v := nI 4) (by decide) dX8_take_69 ?_
      refine V.iload_n (j := 2) rfl dX8_take_70 ?_
      refine V.imulN dX8_take_71 ?_
      refine V.iaddN dX8_take_72 ?_
      refine V.istore_n (ls' := [(0, .ref mM), (1, .int (nI i)), (2, .int (nI k)), (3, .int (nI (1600 + (4 * k))))]) dX8_take_73 (by decide) rfl ?_
      refine V.aload_n (j := 0) rfl dX8_take_74 ?_
      refine V.iload_n (j := 2) rfl dX8_take_75 ?_
      refine V.cV (As := [.int (nI k)]) (st := []) dX8_take_76 sX8_160 iX8_leads lX8_leads rfl rfl (md_leads I (upA A m_code (c)) k (by omega)) ⟨by decide, by decide⟩ (Nat.le_of_ble_eq_true rfl) rfl (fun r I' A' hq => ?_)
      obtain ⟨rfl, rfl, rfl⟩ := hq
      refine V.st (st' := [.int (mz_leads c k)]) rfl ?_
      refine V.iload_n (j := 1) rfl dX8_take_79 ?_
      have K3 : V G MX8_take (am_R 1 22 0 0) Fn 0 0 110 [(0, .ref mM), (1, .int (nI i)), (2, .int (nI k)), (3, .int (nI (1600 + (4 * k))))] [] (hp I (upA A m_code (mz_dc c i k))) := by
        refine V.iincN (ls' := [(0, .ref mM), (1, .int (nI i)), (2, .int (nI (k + 1))), (3, .int (nI (1600 + (4 * k))))]) dX8_take_110 (j := 2) rfl (by decide) rfl ?_
        refine V.goto (tgt := 56) dX8_take_113 (by decide) ?_
        refine V.fewer [0, 1, 2] rfl ?_
        exact ih (k + 1) _ (by omega) hk
      refine V.icmp_le (tgt := 110) dX8_take_80 (by decide) (fun c4 => ?_) (fun c4 => ?_)
      · exact V.hpe rfl (congrArg (upA A m_code) (show _ = mz_dc c i k from (if_pos c4).symm)) K3
      · refine V.aload_n (j := 0) rfl dX8_take_83 ?_
        refine V.getr (q := m_code) dX8_take_84 fX8_49 rfl rfl ?_
        refine V.iload_n (j := 3) rfl dX8_take_87 ?_
        refine V.aload_n (j := 0) rfl dX8_take_88 ?_
        refine V.getr (q := m_code) dX8_take_89 fX8_49 rfl rfl ?_
        refine V.iload_n (j := 3) rfl dX8_take_92 ?_
        refine V.lda (v := c (1600 + (4 * k))) dX8_take_93 rfl (by omega) (by decide) rfl ?_
        refine V.bipush (v := nI 7) (by decide) dX8_take_94 ?_
        have K5 : V G MX8_take (am_R 1 22 0 0) Fn 0 0 104 [(0, .ref mM), (1, .int (nI i)), (2, .int (nI k)), (3, .int (nI (1600 + (4 * k))))] [.int (nI (mz_off c k)), .int (nI (1600 + (4 * k))), .ref m_code] (hp I (upA A m_code (c))) := by
          have hoff : mz_off c k ≤ 3 := by unfold mz_off; split <;> omega
          refine V.iaddN dX8_take_104 ?_
          refine V.dup2 rfl rfl dX8_take_105 ?_
          refine V.lda (v := c ((1600 + (4 * k)) + (mz_off c k))) dX8_take_106 rfl (by omega) (by decide) rfl ?_
          refine V.iconst (v := nI 1) (by decide) dX8_take_107 ?_
          refine V.isub dX8_take_108 ?_
          refine V.sta (g := upd c ((1600 + (4 * k)) + (mz_off c k)) ((c ((1600 + (4 * k)) + (mz_off c k))) - (nI 1))) dX8_take_109 rfl (by omega) (by decide) rfl ?_
          refine V.hpe (A' := (upA A m_code (upd c ((1600 + (4 * k)) + (mz_off c k)) ((c ((1600 + (4 * k)) + (mz_off c k))) - (nI 1))))) rfl upA_u ?_
          exact V.hpe rfl (congrArg (upA A m_code) (show _ = mz_dc c i k from (if_neg c4).symm)) K3
        refine V.icmp_ne (tgt := 103) dX8_take_96 (by decide) (fun c6 => ?_) (fun c6 => ?_)
        · refine V.iconst (v := nI 1) (by decide) dX8_take_103 ?_
          exact V.st (by rw [show mz_off c k = 1 from if_neg c6]) K5
        · refine V.iconst (v := nI 3) (by decide) dX8_take_99 ?_
          refine V.goto (tgt := 104) dX8_take_100 (by decide) ?_
          exact V.st (by rw [show mz_off c k = 3 from if_pos c6]) K5
set_option maxRecDepth 100000 in
set_option maxHeartbeats 4000000 in
theorem md_take {G : am_G} (I A : Nat → Nat → Int32) (n : Nat) (hn : A m_items 1 = nI (n + 1)) (hn4 : n < 399) (i : Nat) (hi : i ≤ n) : Cm G MX8_take 1 22 [.ref mM, .int (nI i)] I A (fun r I' A' => r = none ∧ I = I' ∧ upA (upA A m_items (upd (A m_items) 1 (nI n))) m_code (mz_take (A m_code) n i) = A') := by
  refine Cm.of (by decide) (Nat.le_of_ble_eq_true rfl) rfl ?_
  show V G MX8_take (am_R 1 22 0 0) _ 0 0 0 [(0, .ref mM), (1, .int (nI i))] [] (hp I A)
  refine V.aload_n (j := 0) rfl dX8_take_0 ?_
  refine V.getr (q := m_items) dX8_take_1 fX8_52 rfl rfl ?_
  refine V.iconst (v := nI 1) (by decide) dX8_take_4 ?_
  refine V.dup2 rfl rfl dX8_take_5 ?_
  refine V.lda (v := nI (n + 1)) dX8_take_6 rfl (by decide) (by decide) hn ?_
  refine V.iconst (v := nI 1) (by decide) dX8_take_7 ?_
  refine V.isubN dX8_take_8 (by omega) ?_
  refine V.st (st' := [.int (nI n), .int (nI 1), .ref m_items]) rfl ?_
  refine V.sta (g := upd (A m_items) 1 (nI n)) dX8_take_9 rfl (by decide) (by decide) rfl ?_
  refine V.sipush (v := nI 1600) (by decide) dX8_take_10 ?_
  refine V.iconst (v := nI 4) (by decide) dX8_take_13 ?_
  refine V.iload_n (j := 1) rfl dX8_take_14 ?_
  refine V.imulN dX8_take_15 ?_
  refine V.iaddN dX8_take_16 ?_
  refine V.istore_n (ls' := [(0, .ref mM), (1, .int (nI i)), (2, .int (nI (1600 + (4 * i))))]) dX8_take_17 (by decide) rfl ?_
  refine V.hpe (A' := (upA (upA A m_items (upd (A m_items) 1 (nI n))) m_code (A m_code))) rfl (by rw [show A m_code = (upA A m_items (upd (A m_items) 1 (nI n))) m_code from rfl, upA_i]) ?_
  refine ml_take1 I (upA A m_items (upd (A m_items) 1 (nI n))) n rfl (by omega) i (4 * n - 4 * i) (1600 + 4 * i) _ (by omega) ?_
  refine V.iconst (v := nI 0) (by decide) dX8_take_54 ?_
  refine V.istore_n (ls' := [(0, .ref mM), (1, .int (nI i)), (2, .int (nI 0))]) dX8_take_55 (by decide) rfl ?_
  refine ml_take2 I (upA A m_items (upd (A m_items) 1 (nI n))) n rfl (by omega) i n 0 _ (by omega) ?_
  refine V.rv dX8_take_116 rfl ?_
  exact ⟨rfl, rfl, rfl⟩
