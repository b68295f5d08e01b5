/-- the value that becomes anew in a step -/
def mz_anew (op fa : Nat → Int32) (s : Nat) : Int32 := if nI 6 ≤ op s then -1 else fa s
/-- the i-th value that a step takes -/
def mz_tak0 (op fa fb : Nat → Int32) (s : Nat) : Int32 := if op s = nI 1 ∨ op s = nI 5 then fb s else if ¬ op s ≤ nI 1 ∧ ¬ nI 5 ≤ op s then fb s else if op s = nI 6 ∨ op s = nI 7 then fa s else if op s = nI 9 then fa s else -1
def mz_tak1 (op fb fc : Nat → Int32) (s : Nat) : Int32 := if op s = nI 1 ∨ op s = nI 5 then -1 else if ¬ op s ≤ nI 1 ∧ ¬ nI 5 ≤ op s then fc s else if op s = nI 6 ∨ op s = nI 7 then fb s else -1
def mz_bit (v : Int32) : Int32 := if v = -1 then nI 0 else nI 1 <<< (v &&& 31)
def mz_taking (op fa fb fc : Nat → Int32) (s : Nat) : Int32 := nI 0 ||| mz_bit (mz_tak0 op fa fb s) ||| mz_bit (mz_tak1 op fb fc s)
/-- what is live before step x, if there is one -/
def mz_at (ns : Nat) (bf : Nat → Int32) (x : Int32) : Int32 := if nI ns ≤ x then nI 0 else bf x.toNatClampNeg
set_option maxRecDepth 100000 in
set_option maxHeartbeats 4000000 in
theorem md_anew {G : am_G} (I A : Nat → Nat → Int32) (s : Nat) (hs : s < 60) : Cm G MX8_anew 0 0 [.ref mM, .int (nI s)] I A (fun r I' A' => r = some (.int (mz_anew (A m_ops) (A m_first) s)) ∧ I = I' ∧ A = A') := by
  refine Cm.of (by decide) (Nat.le_of_ble_eq_true rfl) rfl ?_
  show V G MX8_anew (am_R 0 0 0 0) _ 0 0 0 [(0, .ref mM), (1, .int (nI s))] [] (hp I A)
  refine V.aload_n (j := 0) rfl dX8_anew_0 ?_
  refine V.getr (q := m_ops) dX8_anew_1 fX8_13 rfl rfl ?_
  refine V.iload_n (j := 1) rfl dX8_anew_4 ?_
  refine V.lda (v := A m_ops s) dX8_anew_5 rfl (by omega) (by decide) rfl ?_
  refine V.bipush (v := nI 6) (by decide) dX8_anew_6 ?_
  refine V.icmp_ge (tgt := 20) dX8_anew_8 (by decide) (fun c1 => ?_) (fun c1 => ?_)
  · refine V.iconst (v := (-1)) (by decide) dX8_anew_20 ?_
    refine V.ri dX8_anew_21 rfl ?_
    exact ⟨by simp only [mz_anew]; (repeat' split) <;> first | rfl | contradiction | simp_all, rfl, rfl⟩
  · refine V.aload_n (j := 0) rfl dX8_anew_11 ?_
    refine V.getr (q := m_first) dX8_anew_12 fX8_16 rfl rfl ?_
    refine V.iload_n (j := 1) rfl dX8_anew_15 ?_
    refine V.lda (v := A m_first s) dX8_anew_16 rfl (by omega) (by decide) rfl ?_
    refine V.goto (tgt := 21) dX8_anew_17 (by decide) ?_
    refine V.ri dX8_anew_21 rfl ?_
    exact ⟨by simp only [mz_anew]; (repeat' split) <;> first | rfl | contradiction | simp_all, rfl, rfl⟩
set_option maxRecDepth 100000 in
set_option maxHeartbeats 4000000 in
theorem md_taken0 {G : am_G} (I A : Nat → Nat → Int32) (s : Nat) (hs : s < 60) : Cm G MX8_taken 0 0 [.ref mM, .int (nI s), .int (nI 0)] I A (fun r I' A' => r = some (.int (mz_tak0 (A m_ops) (A m_first) (A m_second) s)) ∧ I = I' ∧ A = A') := by
  refine Cm.of (by decide) (Nat.le_of_ble_eq_true rfl) rfl ?_
  show V G MX8_taken (am_R 0 0 0 0) _ 0 0 0 [(0, .ref mM), (1, .int (nI s)), (2, .int (nI 0))] [] (hp I A)
  refine V.aload_n (j := 0) rfl dX8_taken_0 ?_
  refine V.getr (q := m_ops) dX8_taken_1 fX8_13 rfl rfl ?_
  refine V.iload_n (j := 1) rfl dX8_taken_4 ?_
  refine V.lda (v := A m_ops s) dX8_taken_5 rfl (by omega) (by decide) rfl ?_
  refine V.istore_n (ls' := [(0, .ref mM), (1, .int (nI s)), (2, .int (nI 0)), (3, .int (A m_ops s))]) dX8_taken_6 (by decide) rfl ?_
  refine V.iload_n (j := 3) rfl dX8_taken_7 ?_
  refine V.iconst (v := nI 1) (by decide) dX8_taken_8 ?_
  refine V.icmp_eq (tgt := 17) dX8_taken_9 (by decide) (fun c1 => ?_) (fun c1 => ?_)
  · refine V.iload_n (j := 2) rfl dX8_taken_17 ?_
    refine V.if_ne (tgt := 30) dX8_taken_18 (by decide) (fun z => absurd z (by decide)) (fun _ => ?_)
    refine V.aload_n (j := 0) rfl dX8_taken_21 ?_
    refine V.getr (q := m_second) dX8_taken_22 fX8_19 rfl rfl ?_
    refine V.iload_n (j := 1) rfl dX8_taken_25 ?_
    refine V.lda (v := A m_second s) dX8_taken_26 rfl (by omega) (by decide) rfl ?_
    refine V.goto (tgt := 31) dX8_taken_27 (by decide) ?_
    refine V.ri dX8_taken_31 rfl ?_
    exact ⟨by simp only [mz_tak0]; (repeat' split) <;> first | rfl | contradiction | simp_all, rfl, rfl⟩
  · refine V.iload_n (j := 3) rfl dX8_taken_12 ?_
    refine V.iconst (v := nI 5) (by decide) dX8_taken_13 ?_
    refine V.icmp_ne (tgt := 32) dX8_taken_14 (by decide) (fun c3 => ?_) (fun c3 => ?_)
    · refine V.iload_n (j := 3) rfl dX8_taken_32 ?_
      refine V.iconst (v := nI 1) (by decide) dX8_taken_33 ?_
      refine V.icmp_le (tgt := 71) dX8_taken_34 (by decide) (fun c4 => ?_) (fun c4 => ?_)
      · refine V.iload_n (j := 3) rfl dX8_taken_71 ?_
        refine V.bipush (v := nI 6) (by decide) dX8_taken_72 ?_
        refine V.icmp_eq (tgt := 83) dX8_taken_74 (by decide) (fun c5 => ?_) (fun c5 => ?_)
        · refine V.iload_n (j := 2) rfl dX8_taken_83 ?_
          refine V.if_ne (tgt := 96) dX8_taken_84 (by decide) (fun z => absurd z (by decide)) (fun _ => ?_)
          refine V.aload_n (j := 0) rfl dX8_taken_87 ?_
          refine V.getr (q := m_first) dX8_taken_88 fX8_16 rfl rfl ?_
          refine V.iload_n (j := 1) rfl dX8_taken_91 ?_
          refine V.lda (v := A m_first s) dX8_taken_92 rfl (by omega) (by decide) rfl ?_
          refine V.goto (tgt := 111) dX8_taken_93 (by decide) ?_
          refine V.ri dX8_taken_111 rfl ?_
          exact ⟨by simp only [mz_tak0]; (repeat' split) <;> first | rfl | contradiction | simp_all, rfl, rfl⟩
        · refine V.iload_n (j := 3) rfl dX8_taken_77 ?_
          refine V.bipush (v := nI 7) (by decide) dX8_taken_78 ?_
          refine V.icmp_ne (tgt := 112) dX8_taken_80 (by decide) (fun c7 => ?_) (fun c7 => ?_)
          · refine V.iload_n (j := 3) rfl dX8_taken_112 ?_
            refine V.bipush (v := nI 9) (by decide) dX8_taken_113 ?_
            refine V.icmp_ne (tgt := 131) dX8_taken_115 (by decide) (fun c8 => ?_) (fun c8 => ?_)
            · refine V.iconst (v := (-1)) (by decide) dX8_taken_131 ?_
              refine V.ri dX8_taken_132 rfl ?_
              exact ⟨by simp only [mz_tak0]; (repeat' split) <;> first | rfl | contradiction | simp_all, rfl, rfl⟩
            · refine V.iload_n (j := 2) rfl dX8_taken_118 ?_
              refine V.if_ne (tgt := 131) dX8_taken_119 (by decide) (fun z => absurd z (by decide)) (fun _ => ?_)
              refine V.aload_n (j := 0) rfl dX8_taken_122 ?_
              refine V.getr (q := m_first) dX8_taken_123 fX8_16 rfl rfl ?_
              refine V.iload_n (j := 1) rfl dX8_taken_126 ?_
              refine V.lda (v := A m_first s) dX8_taken_127 rfl (by omega) (by decide) rfl ?_
              refine V.goto (tgt := 132) dX8_taken_128 (by decide) ?_
              refine V.ri dX8_taken_132 rfl ?_
              exact ⟨by simp only [mz_tak0]; (repeat' split) <;> first | rfl | contradiction | simp_all, rfl, rfl⟩
          · refine V.iload_n (j := 2) rfl dX8_taken_83 ?_
            refine V.if_ne (tgt := 96) dX8_taken_84 (by decide) (fun z => absurd z (by decide)) (fun _ => ?_)
            refine V.aload_n (j := 0) rfl dX8_taken_87 ?_
            refine V.getr (q := m_first) dX8_taken_88 fX8_16 rfl rfl ?_
            refine V.iload_n (j := 1) rfl dX8_taken_91 ?_
            refine V.lda (v := A m_first s) dX8_taken_92 rfl (by omega) (by decide) rfl ?_
            refine V.goto (tgt := 111) dX8_taken_93 (by decide) ?_
            refine V.ri dX8_taken_111 rfl ?_
            exact ⟨by simp only [mz_tak0]; (repeat' split) <;> first | rfl | contradiction | simp_all, rfl, rfl⟩
      · refine V.iload_n (j := 3) rfl dX8_taken_37 ?_
        refine V.iconst (v := nI 5) (by decide) dX8_taken_38 ?_
        refine V.icmp_ge (tgt := 71) dX8_taken_39 (by decide) (fun c11 => ?_) (fun c11 => ?_)
        · refine V.iload_n (j := 3) rfl dX8_taken_71 ?_
          refine V.bipush (v := nI 6) (by decide) dX8_taken_72 ?_
          refine V.icmp_eq (tgt := 83) dX8_taken_74 (by decide) (fun c12 => ?_) (fun c12 => ?_)
          · refine V.iload_n (j := 2) rfl dX8_taken_83 ?_
            refine V.if_ne (tgt := 96) dX8_taken_84 (by decide) (fun z => absurd z (by decide)) (fun _ => ?_)
            refine V.aload_n (j := 0) rfl dX8_taken_87 ?_
            refine V.getr (q := m_first) dX8_taken_88 fX8_16 rfl rfl ?_
            refine V.iload_n (j := 1) rfl dX8_taken_91 ?_
            refine V.lda (v := A m_first s) dX8_taken_92 rfl (by omega) (by decide) rfl ?_
            refine V.goto (tgt := 111) dX8_taken_93 (by decide) ?_
            refine V.ri dX8_taken_111 rfl ?_
            exact ⟨by simp only [mz_tak0]; (repeat' split) <;> first | rfl | contradiction | simp_all, rfl, rfl⟩
          · refine V.iload_n (j := 3) rfl dX8_taken_77 ?_
            refine V.bipush (v := nI 7) (by decide) dX8_taken_78 ?_
            refine V.icmp_ne (tgt := 112) dX8_taken_80 (by decide) (fun c14 => ?_) (fun c14 => ?_)
            · refine V.iload_n (j := 3) rfl dX8_taken_112 ?_
              refine V.bipush (v := nI 9) (by decide) dX8_taken_113 ?_
              refine V.icmp_ne (tgt := 131) dX8_taken_115 (by decide) (fun c15 => ?_) (fun c15 => ?_)
              · refine V.iconst (v := (-1)) (by decide) dX8_taken_131 ?_
                refine V.ri dX8_taken_132 rfl ?_
                exact ⟨by simp only [mz_tak0]; (repeat' split) <;> first | rfl | contradiction | simp_all, rfl, rfl⟩
              · refine V.iload_n (j := 2) rfl dX8_taken_118 ?_
                refine V.if_ne (tgt := 131) dX8_taken_119 (by decide) (fun z => absurd z (by decide)) (fun _ => ?_)
                refine V.aload_n (j := 0) rfl dX8_taken_122 ?_
                refine V.getr (q := m_first) dX8_taken_123 fX8_16 rfl rfl ?_
                refine V.iload_n (j := 1) rfl dX8_taken_126 ?_
                refine V.lda (v := A m_first s) dX8_taken_127 rfl (by omega) (by decide) rfl ?_
                refine V.goto (tgt := 132) dX8_taken_128 (by decide) ?_
                refine V.ri dX8_taken_132 rfl ?_
                exact ⟨by simp only [mz_tak0]; (repeat' split) <;> first | rfl | contradiction | simp_all, rfl, rfl⟩
            · refine V.iload_n (j := 2) rfl dX8_taken_83 ?_
              refine V.if_ne (tgt := 96) dX8_taken_84 (by decide) (fun z => absurd z (by decide)) (fun _ => ?_)
              refine V.aload_n (j := 0) rfl dX8_taken_87 ?_
              refine V.getr (q := m_first) dX8_taken_88 fX8_16 rfl rfl ?_
              refine V.iload_n (j := 1) rfl dX8_taken_91 ?_
              refine V.lda (v := A m_first s) dX8_taken_92 rfl (by omega) (by decide) rfl ?_
              refine V.goto (tgt := 111) dX8_taken_93 (by decide) ?_
              refine V.ri dX8_taken_111 rfl ?_
              exact ⟨by simp only [mz_tak0]; (repeat' split) <;> first | rfl | contradiction | simp_all, rfl, rfl⟩
        · refine V.iload_n (j := 2) rfl dX8_taken_42 ?_
          refine V.if_ne (tgt := 55) dX8_taken_43 (by decide) (fun z => absurd z (by decide)) (fun _ => ?_)
          refine V.aload_n (j := 0) rfl dX8_taken_46 ?_
          refine V.getr (q := m_second) dX8_taken_47 fX8_19 rfl rfl ?_
          refine V.iload_n (j := 1) rfl dX8_taken_50 ?_
          refine V.lda (v := A m_second s) dX8_taken_51 rfl (by omega) (by decide) rfl ?_
          refine V.goto (tgt := 70) dX8_taken_52 (by decide) ?_
          refine V.ri dX8_taken_70 rfl ?_
          exact ⟨by simp only [mz_tak0]; (repeat' split) <;> first | rfl | contradiction | simp_all, rfl, rfl⟩
    · refine V.iload_n (j := 2) rfl dX8_taken_17 ?_
      refine V.if_ne (tgt := 30) dX8_taken_18 (by decide) (fun z => absurd z (by decide)) (fun _ => ?_)
      refine V.aload_n (j := 0) rfl dX8_taken_21 ?_
      refine V.getr (q := m_second) dX8_taken_22 fX8_19 rfl rfl ?_
      refine V.iload_n (j := 1) rfl dX8_taken_25 ?_
      refine V.lda (v := A m_second s) dX8_taken_26 rfl (by omega) (by decide) rfl ?_
      refine V.goto (tgt := 31) dX8_taken_27 (by decide) ?_
      refine V.ri dX8_taken_31 rfl ?_
      exact ⟨by simp only [mz_tak0]; (repeat' split) <;> first | rfl | contradiction | simp_all, rfl, rfl⟩
set_option maxRecDepth 100000 in
set_option maxHeartbeats 4000000 in
theorem md_taken1 {G : am_G} (I A : Nat → Nat → Int32) (s : Nat) (hs : s < 60) : Cm G MX8_taken 0 0 [.ref mM, .int (nI s), .int (nI 1)] I A (fun r I' A' => r = some (.int (mz_tak1 (A m_ops) (A m_second) (A m_third) s)) ∧ I = I' ∧ A = A') := by
  refine Cm.of (by decide) (Nat.le_of_ble_eq_true rfl) rfl ?_
  show V G MX8_taken (am_R 0 0 0 0) _ 0 0 0 [(0, .ref mM), (1, .int (nI s)), (2, .int (nI 1))] [] (hp I A)
  refine V.aload_n (j := 0) rfl dX8_taken_0 ?_
  refine V.getr (q := m_ops) dX8_taken_1 fX8_13 rfl rfl ?_
  refine V.iload_n (j := 1) rfl dX8_taken_4 ?_
  refine V.lda (v := A m_ops s) dX8_taken_5 rfl (by omega) (by decide) rfl ?_
  refine V.istore_n (ls' := [(0, .ref mM), (1, .int (nI s)), (2, .int (nI 1)), (3, .int (A m_ops s))]) dX8_taken_6 (by decide) rfl ?_
  refine V.iload_n (j := 3) rfl dX8_taken_7 ?_
  refine V.iconst (v := nI 1) (by decide) dX8_taken_8 ?_
  refine V.icmp_eq (tgt := 17) dX8_taken_9 (by decide) (fun c1 => ?_) (fun c1 => ?_)
  · refine V.iload_n (j := 2) rfl dX8_taken_17 ?_
    refine V.if_ne (tgt := 30) dX8_taken_18 (by decide) (fun _ => ?_) (fun z => absurd z (by decide))
    refine V.iconst (v := (-1)) (by decide) dX8_taken_30 ?_
    refine V.ri dX8_taken_31 rfl ?_
    exact ⟨by simp only [mz_tak1]; (repeat' split) <;> first | rfl | contradiction | simp_all, rfl, rfl⟩
  · refine V.iload_n (j := 3) rfl dX8_taken_12 ?_
    refine V.iconst (v := nI 5) (by decide) dX8_taken_13 ?_
    refine V.icmp_ne (tgt := 32) dX8_taken_14 (by decide) (fun c3 => ?_) (fun c3 => ?_)
    · refine V.iload_n (j := 3) rfl dX8_taken_32 ?_
      refine V.iconst (v := nI 1) (by decide) dX8_taken_33 ?_
      refine V.icmp_le (tgt := 71) dX8_taken_34 (by decide) (fun c4 => ?_) (fun c4 => ?_)
      · refine V.iload_n (j := 3) rfl dX8_taken_71 ?_
        refine V.bipush (v := nI 6) (by decide) dX8_taken_72 ?_
        refine V.icmp_eq (tgt := 83) dX8_taken_74 (by decide) (fun c5 => ?_) (fun c5 => ?_)
        · refine V.iload_n (j := 2) rfl dX8_taken_83 ?_
          refine V.if_ne (tgt := 96) dX8_taken_84 (by decide) (fun _ => ?_) (fun z => absurd z (by decide))
          refine V.iload_n (j := 2) rfl dX8_taken_96 ?_
          refine V.iconst (v := nI 1) (by decide) dX8_taken_97 ?_
          refine V.icmp_ne (tgt := 110) dX8_taken_98 (by decide) (fun z => absurd z (by decide)) (fun _ => ?_)
          refine V.aload_n (j := 0) rfl dX8_taken_101 ?_
          refine V.getr (q := m_second) dX8_taken_102 fX8_19 rfl rfl ?_
          refine V.iload_n (j := 1) rfl dX8_taken_105 ?_
          refine V.lda (v := A m_second s) dX8_taken_106 rfl (by omega) (by decide) rfl ?_
          refine V.goto (tgt := 111) dX8_taken_107 (by decide) ?_
          refine V.ri dX8_taken_111 rfl ?_
          exact ⟨by simp only [mz_tak1]; (repeat' split) <;> first | rfl | contradiction | simp_all, rfl, rfl⟩
        · refine V.iload_n (j := 3) rfl dX8_taken_77 ?_
          refine V.bipush (v := nI 7) (by decide) dX8_taken_78 ?_
          refine V.icmp_ne (tgt := 112) dX8_taken_80 (by decide) (fun c8 => ?_) (fun c8 => ?_)
          · refine V.iload_n (j := 3) rfl dX8_taken_112 ?_
            refine V.bipush (v := nI 9) (by decide) dX8_taken_113 ?_
            refine V.icmp_ne (tgt := 131) dX8_taken_115 (by decide) (fun c9 => ?_) (fun c9 => ?_)
            · refine V.iconst (v := (-1)) (by decide) dX8_taken_131 ?_
              refine V.ri dX8_taken_132 rfl ?_
              exact ⟨by simp only [mz_tak1]; (repeat' split) <;> first | rfl | contradiction | simp_all, rfl, rfl⟩
            · refine V.iload_n (j := 2) rfl dX8_taken_118 ?_
              refine V.if_ne (tgt := 131) dX8_taken_119 (by decide) (fun _ => ?_) (fun z => absurd z (by decide))
              refine V.iconst (v := (-1)) (by decide) dX8_taken_131 ?_
              refine V.ri dX8_taken_132 rfl ?_
              exact ⟨by simp only [mz_tak1]; (repeat' split) <;> first | rfl | contradiction | simp_all, rfl, rfl⟩
          · refine V.iload_n (j := 2) rfl dX8_taken_83 ?_
            refine V.if_ne (tgt := 96) dX8_taken_84 (by decide) (fun _ => ?_) (fun z => absurd z (by decide))
            refine V.iload_n (j := 2) rfl dX8_taken_96 ?_
            refine V.iconst (v := nI 1) (by decide) dX8_taken_97 ?_
            refine V.icmp_ne (tgt := 110) dX8_taken_98 (by decide) (fun z => absurd z (by decide)) (fun _ => ?_)
            refine V.aload_n (j := 0) rfl dX8_taken_101 ?_
            refine V.getr (q := m_second) dX8_taken_102 fX8_19 rfl rfl ?_
            refine V.iload_n (j := 1) rfl dX8_taken_105 ?_
            refine V.lda (v := A m_second s) dX8_taken_106 rfl (by omega) (by decide) rfl ?_
            refine V.goto (tgt := 111) dX8_taken_107 (by decide) ?_
            refine V.ri dX8_taken_111 rfl ?_
            exact ⟨by simp only [mz_tak1]; (repeat' split) <;> first | rfl | contradiction | simp_all, rfl, rfl⟩
      · refine V.iload_n (j := 3) rfl dX8_taken_37 ?_
        refine V.iconst (v := nI 5) (by decide) dX8_taken_38 ?_
        refine V.icmp_ge (tgt := 71) dX8_taken_39 (by decide) (fun c13 => ?_) (fun c13 => ?_)
        · refine V.iload_n (j := 3) rfl dX8_taken_71 ?_
          refine V.bipush (v := nI 6) (by decide) dX8_taken_72 ?_
          refine V.icmp_eq (tgt := 83) dX8_taken_74 (by decide) (fun c14 => ?_) (fun c14 => ?_)
          · refine V.iload_n (j := 2) rfl dX8_taken_83 ?_
            refine V.if_ne (tgt := 96) dX8_taken_84 (by decide) (fun _ => ?_) (fun z => absurd z (by decide))
            refine V.iload_n (j := 2) rfl dX8_taken_96 ?_
            refine V.iconst (v := nI 1) (by decide) dX8_taken_97 ?_
            refine V.icmp_ne (tgt := 110) dX8_taken_98 (by decide) (fun z => absurd z (by decide)) (fun _ => ?_)
            refine V.aload_n (j := 0) rfl dX8_taken_101 ?_
            refine V.getr (q := m_second) dX8_taken_102 fX8_19 rfl rfl ?_
            refine V.iload_n (j := 1) rfl dX8_taken_105 ?_
            refine V.lda (v := A m_second s) dX8_taken_106 rfl (by omega) (by decide) rfl ?_
            refine V.goto (tgt := 111) dX8_taken_107 (by decide) ?_
            refine V.ri dX8_taken_111 rfl ?_
            exact ⟨by simp only [mz_tak1]; (repeat' split) <;> first | rfl | contradiction | simp_all, rfl, rfl⟩
          · refine V.iload_n (j := 3) rfl dX8_taken_77 ?_
            refine V.bipush (v := nI 7) (by decide) dX8_taken_78 ?_
            refine V.icmp_ne (tgt := 112) dX8_taken_80 (by decide) (fun c17 => ?_) (fun c17 => ?_)
            · refine V.iload_n (j := 3) rfl dX8_taken_112 ?_
              refine V.bipush (v := nI 9) (by decide) dX8_taken_113 ?_
              refine V.icmp_ne (tgt := 131) dX8_taken_115 (by decide) (fun c18 => ?_) (fun c18 => ?_)
              · refine V.iconst (v := (-1)) (by decide) dX8_taken_131 ?_
                refine V.ri dX8_taken_132 rfl ?_
                exact ⟨by simp only [mz_tak1]; (repeat' split) <;> first | rfl | contradiction | simp_all, rfl, rfl⟩
              · refine V.iload_n (j := 2) rfl dX8_taken_118 ?_
                refine V.if_ne (tgt := 131) dX8_taken_119 (by decide) (fun _ => ?_) (fun z => absurd z (by decide))
                refine V.iconst (v := (-1)) (by decide) dX8_taken_131 ?_
                refine V.ri dX8_taken_132 rfl ?_
                exact ⟨by simp only [mz_tak1]; (repeat' split) <;> first | rfl | contradiction | simp_all, rfl, rfl⟩
            · refine V.iload_n (j := 2) rfl dX8_taken_83 ?_
              refine V.if_ne (tgt := 96) dX8_taken_84 (by decide) (fun _ => ?_) (fun z => absurd z (by decide))
              refine V.iload_n (j := 2) rfl dX8_taken_96 ?_
              refine V.iconst (v := nI 1) (by decide) dX8_taken_97 ?_
              refine V.icmp_ne (tgt := 110) dX8_taken_98 (by decide) (fun z => absurd z (by decide)) (fun _ => ?_)
              refine V.aload_n (j := 0) rfl dX8_taken_101 ?_
              refine V.getr (q := m_second) dX8_taken_102 fX8_19 rfl rfl ?_
              refine V.iload_n (j := 1) rfl dX8_taken_105 ?_
              refine V.lda (v := A m_second s) dX8_taken_106 rfl (by omega) (by decide) rfl ?_
              refine V.goto (tgt := 111) dX8_taken_107 (by decide) ?_
              refine V.ri dX8_taken_111 rfl ?_
              exact ⟨by simp only [mz_tak1]; (repeat' split) <;> first | rfl | contradiction | simp_all, rfl, rfl⟩
        · refine V.iload_n (j := 2) rfl dX8_taken_42 ?_
          refine V.if_ne (tgt := 55) dX8_taken_43 (by decide) (fun _ => ?_) (fun z => absurd z (by decide))
          refine V.iload_n (j := 2) rfl dX8_taken_55 ?_
          refine V.iconst (v := nI 1) (by decide) dX8_taken_56 ?_
          refine V.icmp_ne (tgt := 69) dX8_taken_57 (by decide) (fun z => absurd z (by decide)) (fun _ => ?_)
          refine V.aload_n (j := 0) rfl dX8_taken_60 ?_
          refine V.getr (q := m_third) dX8_taken_61 fX8_22 rfl rfl ?_
          refine V.iload_n (j := 1) rfl dX8_taken_64 ?_
          refine V.lda (v := A m_third s) dX8_taken_65 rfl (by omega) (by decide) rfl ?_
          refine V.goto (tgt := 70) dX8_taken_66 (by decide) ?_
          refine V.ri dX8_taken_70 rfl ?_
          exact ⟨by simp only [mz_tak1]; (repeat' split) <;> first | rfl | contradiction | simp_all, rfl, rfl⟩
    · refine V.iload_n (j := 2) rfl dX8_taken_17 ?_
      refine V.if_ne (tgt := 30) dX8_taken_18 (by decide) (fun _ => ?_) (fun z => absurd z (by decide))
      refine V.iconst (v := (-1)) (by decide) dX8_taken_30 ?_
      refine V.ri dX8_taken_31 rfl ?_
      exact ⟨by simp only [mz_tak1]; (repeat' split) <;> first | rfl | contradiction | simp_all, rfl, rfl⟩
set_option maxRecDepth 100000 in
set_option maxHeartbeats 4000000 in
theorem md_liveAt {G : am_G} (I A : Nat → Nat → Int32) (ns : Nat) (hn : I mM 2 = nI ns) (hns : ns ≤ 60) (x : Int32) (hx : ¬ x < 0) : Cm G MX8_liveAt 0 0 [.ref mM, .int x] I A (fun r I' A' => r = some (.int (mz_at ns (A m_before) x)) ∧ I = I' ∧ A = A') := by
  refine Cm.of (by decide) (Nat.le_of_ble_eq_true rfl) rfl ?_
  show V G MX8_liveAt (am_R 0 0 0 0) _ 0 0 0 [(0, .ref mM), (1, .int x)] [] (hp I A)
  refine V.iload_n (j := 1) rfl dX8_liveAt_0 ?_
  refine V.aload_n (j := 0) rfl dX8_liveAt_1 ?_
  refine V.geti (v := nI ns) dX8_liveAt_2 fX8_95 rfl rfl hn ?_
  refine V.icmp_ge (tgt := 17) dX8_liveAt_5 (by decide) (fun c1 => ?_) (fun c1 => ?_)
  · refine V.iconst (v := nI 0) (by decide) dX8_liveAt_17 ?_
    refine V.ri dX8_liveAt_18 rfl ?_
    exact ⟨by (first | rw [mz_at, if_pos c1] | rw [mz_at, if_neg c1, nI_clamp (by omega)]), rfl, rfl⟩
  · obtain ⟨j, hj, rfl⟩ := mz_nat (nv := ns) (by omega) ⟨hx, c1⟩
    refine V.aload_n (j := 0) rfl dX8_liveAt_8 ?_
    refine V.getr (q := m_before) dX8_liveAt_9 fX8_31 rfl rfl ?_
    refine V.iload_n (j := 1) rfl dX8_liveAt_12 ?_
    refine V.lda (v := A m_before j) dX8_liveAt_13 rfl (by omega) (by decide) rfl ?_
    refine V.goto (tgt := 18) dX8_liveAt_14 (by decide) ?_
    refine V.ri dX8_liveAt_18 rfl ?_
    exact ⟨by (first | rw [mz_at, if_pos c1] | rw [mz_at, if_neg c1, nI_clamp (by omega)]), rfl, rfl⟩
set_option maxRecDepth 100000 in
set_option maxHeartbeats 4000000 in
theorem md_taking {G : am_G} (I A : Nat → Nat → Int32) (s : Nat) (hs : s < 60) : Cm G MX8_taking 1 23 [.ref mM, .int (nI s)] I A (fun r I' A' => r = some (.int (mz_taking (A m_ops) (A m_first) (A m_second) (A m_third) s)) ∧ I = I' ∧ A = A') := by
  refine Cm.of (by decide) (Nat.le_of_ble_eq_true rfl) rfl ?_
  show V G MX8_taking (am_R 1 23 0 0) _ 0 0 0 [(0, .ref mM), (1, .int (nI s))] [] (hp I A)
  refine V.iconst (v := nI 0) (by decide) dX8_taking_0 ?_
  refine V.istore_n (ls' := [(0, .ref mM), (1, .int (nI s)), (2, .int (nI 0))]) dX8_taking_1 (by decide) rfl ?_
  refine V.iconst (v := nI 0) (by decide) dX8_taking_2 ?_
  refine V.istore_n (ls' := [(0, .ref mM), (1, .int (nI s)), (2, .int (nI 0)), (3, .int (nI 0))]) dX8_taking_3 (by decide) rfl ?_
  refine V.iload_n (j := 3) rfl dX8_taking_4 ?_
  refine V.iconst (v := nI 2) (by decide) dX8_taking_5 ?_
  refine V.icmp_ge (tgt := 40) dX8_taking_6 (by decide) (fun z => absurd z (by decide)) (fun _ => ?_)
  refine V.aload_n (j := 0) rfl dX8_taking_9 ?_
  refine V.iload_n (j := 1) rfl dX8_taking_10 ?_
  refine V.iload_n (j := 3) rfl dX8_taking_11 ?_
  refine V.cV (As := [.int (nI s), .int (nI 0)]) (st := []) dX8_taking_12 sX8_98 iX8_taken lX8_taken rfl rfl (md_taken0 I A s hs) ⟨by decide, by decide⟩ (Nat.le_of_ble_eq_true rfl) rfl (fun r I' A' hq => ?_)
  obtain ⟨rfl, rfl, rfl⟩ := hq
  refine V.st (st' := [.int (mz_tak0 (A m_ops) (A m_first) (A m_second) s)]) rfl ?_
  refine V.istore (ls' := [(0, .ref mM), (1, .int (nI s)), (2, .int (nI 0)), (3, .int (nI 0)), (4, .int (mz_tak0 (A m_ops) (A m_first) (A m_second) s))]) dX8_taking_15 (by decide) rfl ?_
  refine V.iload_n (j := 2) rfl dX8_taking_17 ?_
  refine V.iload (j := 4) rfl dX8_taking_18 ?_
  refine V.iconst (v := (-1)) (by decide) dX8_taking_20 ?_
  have K2 : V G MX8_taking (am_R 1 23 0 0) (am_Fin G 0 0 (Pm (fun r I' A' => r = some (.int (mz_taking (A m_ops) (A m_first) (A m_second) (A m_third) s)) ∧ I = I' ∧ A = A'))) 0 0 32 [(0, .ref mM), (1, .int (nI s)), (2, .int (nI 0)), (3, .int (nI 0)), (4, .int (mz_tak0 (A m_ops) (A m_first) (A m_second) s))] [.int (mz_bit (mz_tak0 (A m_ops) (A m_first) (A m_second) s)), .int (nI 0)] (hp I A) := by
    refine V.ior dX8_taking_32 ?_
    refine V.istore_n (ls' := [(0, .ref mM), (1, .int (nI s)), (2, .int ((nI 0) ||| (mz_bit (mz_tak0 (A m_ops) (A m_first) (A m_second) s)))), (3, .int (nI 0)), (4, .int (mz_tak0 (A m_ops) (A m_first) (A m_second) s))]) dX8_taking_33 (by decide) rfl ?_
    refine V.iincN (ls' := [(0, .ref mM), (1, .int (nI s)), (2, .int ((nI 0) ||| (mz_bit (mz_tak0 (A m_ops) (A m_first) (A m_second) s)))), (3, .int (nI 1)), (4, .int (mz_tak0 (A m_ops) (A m_first) (A m_second) s))]) dX8_taking_34 (j := 3) rfl (by decide) rfl ?_
    refine V.goto (tgt := 4) dX8_taking_37 (by decide) ?_
    refine V.iload_n (j := 3) rfl dX8_taking_4 ?_
    refine V.iconst (v := nI 2) (by decide) dX8_taking_5 ?_
    refine V.icmp_ge (tgt := 40) dX8_taking_6 (by decide) (fun z => absurd z (by decide)) (fun _ => ?_)
    refine V.aload_n (j := 0) rfl dX8_taking_9 ?_
    refine V.iload_n (j := 1) rfl dX8_taking_10 ?_
    refine V.iload_n (j := 3) rfl dX8_taking_11 ?_
    refine V.cV (As := [.int (nI s), .int (nI 1)]) (st := []) dX8_taking_12 sX8_98 iX8_taken lX8_taken rfl rfl (md_taken1 I A s hs) ⟨by decide, by decide⟩ (Nat.le_of_ble_eq_true rfl) rfl (fun r I' A' hq => ?_)
    obtain ⟨rfl, rfl, rfl⟩ := hq
    refine V.st (st' := [.int (mz_tak1 (A m_ops) (A m_second) (A m_third) s)]) rfl ?_
    refine V.istore (ls' := [(0, .ref mM), (1, .int (nI s)), (2, .int ((nI 0) ||| (mz_bit (mz_tak0 (A m_ops) (A m_first) (A m_second) s)))), (3, .int (nI 1)), (4, .int (mz_tak1 (A m_ops) (A m_second) (A m_third) s))]) dX8_taking_15 (by decide) rfl ?_
    refine V.iload_n (j := 2) rfl dX8_taking_17 ?_
    refine V.iload (j := 4) rfl dX8_taking_18 ?_
    refine V.iconst (v := (-1)) (by decide) dX8_taking_20 ?_
    have K4 : V G MX8_taking (am_R 1 23 0 0) (am_Fin G 0 0 (Pm (fun r I' A' => r = some (.int (mz_taking (A m_ops) (A m_first) (A m_second) (A m_third) s)) ∧ I = I' ∧ A = A'))) 0 0 32 [(0, .ref mM), (1, .int (nI s)), (2, .int ((nI 0) ||| (mz_bit (mz_tak0 (A m_ops) (A m_first) (A m_second) s)))), (3, .int (nI 1)), (4, .int (mz_tak1 (A m_ops) (A m_second) (A m_third) s))] [.int (mz_bit (mz_tak1 (A m_ops) (A m_second) (A m_third) s)), .int ((nI 0) ||| (mz_bit (mz_tak0 (A m_ops) (A m_first) (A m_second) s)))] (hp I A) := by
      refine V.ior dX8_taking_32 ?_
      refine V.istore_n (ls' := [(0, .ref mM), (1, .int (nI s)), (2, .int (((nI 0) ||| (mz_bit (mz_tak0 (A m_ops) (A m_first) (A m_second) s))) ||| (mz_bit (mz_tak1 (A m_ops) (A m_second) (A m_third) s)))), (3, .int (nI 1)), (4, .int (mz_tak1 (A m_ops) (A m_second) (A m_third) s))]) dX8_taking_33 (by decide) rfl ?_
      refine V.iincN (ls' := [(0, .ref mM), (1, .int (nI s)), (2, .int (((nI 0) ||| (mz_bit (mz_tak0 (A m_ops) (A m_first) (A m_second) s))) ||| (mz_bit (mz_tak1 (A m_ops) (A m_second) (A m_third) s)))), (3, .int (nI 2)), (4, .int (mz_tak1 (A m_ops) (A m_second) (A m_third) s))]) dX8_taking_34 (j := 3) rfl (by decide) rfl ?_
      refine V.goto (tgt := 4) dX8_taking_37 (by decide) ?_
      refine V.iload_n (j := 3) rfl dX8_taking_4 ?_
      refine V.iconst (v := nI 2) (by decide) dX8_taking_5 ?_
      refine V.icmp_ge (tgt := 40) dX8_taking_6 (by decide) (fun _ => ?_) (fun z => absurd z (by decide))
      refine V.iload_n (j := 2) rfl dX8_taking_40 ?_
      refine V.ri dX8_taking_41 rfl ?_
      exact ⟨rfl, rfl, rfl⟩
    refine V.icmp_ne (tgt := 28) dX8_taking_21 (by decide) (fun c6 => ?_) (fun c6 => ?_)
    · refine V.iconst (v := nI 1) (by decide) dX8_taking_28 ?_
      refine V.iload (j := 4) rfl dX8_taking_29 ?_
      refine V.ishl dX8_taking_31 ?_
      exact V.st (by simp_all [mz_bit]) K4
    · refine V.iconst (v := nI 0) (by decide) dX8_taking_24 ?_
      refine V.goto (tgt := 32) dX8_taking_25 (by decide) ?_
      exact V.st (by simp_all [mz_bit]) K4
  refine V.icmp_ne (tgt := 28) dX8_taking_21 (by decide) (fun c7 => ?_) (fun c7 => ?_)
  · refine V.iconst (v := nI 1) (by decide) dX8_taking_28 ?_
    refine V.iload (j := 4) rfl dX8_taking_29 ?_
    refine V.ishl dX8_taking_31 ?_
    exact V.st (by simp_all [mz_bit]) K2
  · refine V.iconst (v := nI 0) (by decide) dX8_taking_24 ?_
    refine V.goto (tgt := 32) dX8_taking_25 (by decide) ?_
    exact V.st (by simp_all [mz_bit]) K2
