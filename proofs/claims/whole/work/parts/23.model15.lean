/-- every item that leads, leads to a number of a step -/
theorem mz_lay_at {c : Nat → Int32} {n : Nat} {o x y z : Int32} : mz_lay c n o x y z (4 * n) = o ∧ mz_lay c n o x y z (4 * n + 1) = x ∧ mz_lay c n o x y z (4 * n + 2) = y ∧ mz_lay c n o x y z (4 * n + 3) = z := by
  refine ⟨?_, ?_, ?_, ?_⟩ <;> simp [mz_lay, upd]
theorem mz_lay_lo {c : Nat → Int32} {n j : Nat} {o x y z : Int32} (h : j < 4 * n) : mz_lay c n o x y z j = c j := by
  simp [mz_lay, upd, show ¬ j = 4 * n by omega, show ¬ j = 4 * n + 1 by omega, show ¬ j = 4 * n + 2 by omega, show ¬ j = 4 * n + 3 by omega]
theorem mz_tok_c {c c' : Nat → Int32} {k : Nat} (h : mz_tok c k) (e : ∀ j, 4 * k ≤ j → j < 4 * k + 4 → c' j = c j) : mz_tok c' k := by
  have ho : mz_of0 c k ≤ 3 := by unfold mz_of0; split <;> omega
  have e1 : mz_of0 c' k = mz_of0 c k := by
    unfold mz_of0
    rw [e (4 * k) (Nat.le_refl _) (by omega)]
  unfold mz_tok
  rw [e (4 * k) (Nat.le_refl _) (by omega), e1, e (4 * k + mz_of0 c k) (by omega) (by omega)]
  exact h
theorem mz_lay_tok {c : Nat → Int32} {n : Nat} {o x y z : Int32} (h : ∀ j, j < n → mz_tok c j) (h7 : o = nI 7 → ∃ t, t ≤ 60 ∧ z = nI t) (h8 : o = nI 8 → ∃ t, t ≤ 60 ∧ x = nI t) : ∀ j, j < n + 1 → mz_tok (mz_lay c n o x y z) j := by
  intro j hj
  by_cases hjn : j = n
  · subst hjn
    obtain ⟨a1, a2, a3, a4⟩ := mz_lay_at (c := c) (n := j) (o := o) (x := x) (y := y) (z := z)
    intro q
    rw [a1] at q
    unfold mz_of0
    rw [a1]
    by_cases q7 : o = nI 7
    · rw [if_pos q7, a4]; exact h7 q7
    · rw [if_neg q7, a2]; exact h8 (q.resolve_left q7)
  · exact mz_tok_c (h j (by omega)) (fun i h1 h2 => mz_lay_lo (by omega))
def mz_Fok (F : mz_FS) : Prop := ∀ j, j < F.2.2.2.2 → mz_tok F.2.2.2.1 j
theorem mz_ft_ok {cl hm : Nat → Int32} {v : Nat} {F : mz_FS} (h : mz_Fok F) : mz_Fok (mz_ft cl hm v F) := by
  unfold mz_ft
  split
  · exact h
  · exact mz_lay_tok h (fun q => absurd q (by decide)) (fun q => absurd q (by decide))
theorem mz_f1_ok {cl hm : Nat → Int32} {v : Int32} {F : mz_FS} (h : mz_Fok F) : mz_Fok (mz_f1 cl hm v F) := by
  unfold mz_f1
  split
  · exact h
  · split
    · exact h
    · exact mz_ft_ok h
theorem mz_kp_ok {cl hm c : Nat → Int32} {v : Int32} {n : Nat} (h : ∀ j, j < n → mz_tok c j) : ∀ j, j < (mz_kp cl hm v c n).2 → mz_tok (mz_kp cl hm v c n).1 j := by
  unfold mz_kp
  split
  · exact h
  · split
    · exact h
    · exact mz_lay_tok h (fun q => absurd q (by decide)) (fun q => absurd q (by decide))
theorem mz_mk_ok {op fa fb fc cl hm fe it c : Nat → Int32} {nv s n : Nat} (hsw : mz_sw nv (op s) (fa s) (fb s) (fc s)) (h : ∀ j, j < n → mz_tok c j) : ∀ j, j < (mz_mk op fa fb fc cl hm s fe it c n).2 → mz_tok (mz_mk op fa fb fc cl hm s fe it c n).1 j := by
  by_cases hn : mz_ndl op fa fb cl hm s
  · rw [mz_mk_t hn]; exact h
  · rw [mz_mk_f hn]
    have hF : mz_Fok (mz_f2 op fa fb fc cl hm s (0, fe, it, c, n)) := mz_f1_ok (mz_f1_ok h)
    obtain ⟨k, h1, h2, -, -, -, -, h7, h8⟩ := hsw
    unfold mz_mkN
    refine mz_kp_ok (mz_lay_tok hF (fun q => ?_) (fun q => ?_))
    · rw [h2, nI_eq (by omega) (by omega)] at q
      subst q
      rw [h2, nI_clamp (by omega)]
      exact h7 rfl
    · rw [h2, nI_eq (by omega) (by omega)] at q
      subst q
      rw [h2, nI_clamp (by omega)]
      exact h8 rfl
theorem mz_cds_ok {op fa fb fc cl hm : Nat → Int32} {nv ns : Nat} (hsw : ∀ s, s < ns → mz_sw nv (op s) (fa s) (fb s) (fc s)) : ∀ (m s : Nat) (fe it c : Nat → Int32) (n : Nat) (f c' : Nat → Int32) (n' : Nat) (f' : Nat → Int32), s + m = ns → (∀ j, j < n → mz_tok c j) → mz_cds op fa fb fc cl hm m s fe it c n f c' n' f' → ∀ j, j < n' → mz_tok c' j
  | 0, s, fe, it, c, n, f, c', n', f', _, h, q => by
    obtain ⟨rfl, rfl, -⟩ := q
    exact h
  | m + 1, s, fe, it, c, n, f, c', n', f', hs, h, q => by
    obtain ⟨fe', it', q⟩ := q
    exact mz_cds_ok hsw m (s + 1) fe' it' _ _ _ c' n' f' (by omega) (mz_mk_ok (hsw s (by omega)) h) q
/-- the code is laid a second time, from place 1600 on -/
def mz_cp : Nat → Nat → (Nat → Int32) → Nat → Int32
  | 0, _, c => c
  | m + 1, k, c => mz_cp m (k + 1) (upd c (1600 + k) (c k))
/-- needless items are taken away one after another -/
def mz_tids : Nat → (Nat → Int32) → (Nat → Int32) → Nat → Prop
  | 0, c, c', n' => c' = c ∧ n' = 0
  | n + 1, c, c', n' => (mz_no (fun k => mz_gone c (n + 1) k) (n + 1) ∧ c' = c ∧ n' = n + 1) ∨ ∃ i, i < n + 1 ∧ mz_gone c (n + 1) i ∧ mz_no (fun k => mz_gone c (n + 1) k) i ∧ mz_tids n (mz_take c n i) c' n'
set_option maxRecDepth 100000 in
set_option maxHeartbeats 4000000 in
theorem ml_make3 {G : am_G} {Fn : Array Value → State → List Frame → State → Prop} (I A : Nat → Nat → Int32) (n : Nat) (hn : A m_items 0 = nI n) (hn4 : n < 390) : ∀ (m : Nat) (k : Nat) (c : Nat → Int32), k + m = 4 * n → V G MX8_makeCode (am_R 4 95 0 0) Fn 0 0 198 [(0, .ref mM)] [] (hp I (upA A m_code (mz_cp m k c))) → V G MX8_makeCode (am_R 4 95 0 0) Fn 0 0 164 [(0, .ref mM), (1, .int (nI k))] [] (hp I (upA A m_code (c))) := by
  intro m
  induction m with
  | zero =>
    intro k c hi0 hk
    refine V.iload_n (j := 1) rfl dX8_makeCode_164 ?_
    refine V.iconst (v := nI 4) (by decide) dX8_makeCode_165 ?_
    refine V.aload_n (j := 0) rfl dX8_makeCode_166 ?_
    refine V.getr (q := m_items) dX8_makeCode_167 fX8_52 rfl rfl ?_
    refine V.iconst (v := nI 0) (by decide) dX8_makeCode_170 ?_
    refine V.lda (v := nI n) dX8_makeCode_171 rfl (by decide) (by decide) hn ?_
    refine V.imulN dX8_makeCode_172 ?_
    refine V.icmp_geN (tgt := 198) dX8_makeCode_173 (by decide) (by omega) (by omega) (fun c1 => ?_) (fun c1 => ?_)
    · refine V.fewer [0] rfl ?_
      exact hk
    · exact absurd c1 (by omega)
  | succ m ih =>
    intro k c hi0 hk
    refine V.iload_n (j := 1) rfl dX8_makeCode_164 ?_
    refine V.iconst (v := nI 4) (by decide) dX8_makeCode_165 ?_
    refine V.aload_n (j := 0) rfl dX8_makeCode_166 ?_
    refine V.getr (q := m_items) dX8_makeCode_167 fX8_52 rfl rfl ?_
    refine V.iconst (v := nI 0) (by decide) dX8_makeCode_170 ?_
    refine V.lda (v := nI n) dX8_makeCode_171 rfl (by decide) (by decide) hn ?_
    refine V.imulN dX8_makeCode_172 ?_
    refine V.icmp_geN (tgt := 198) dX8_makeCode_173 (by decide) (by omega) (by omega) (fun c2 => ?_) (fun c2 => ?_)
    · exact absurd c2 (by omega)
    · refine V.aload_n (j := 0) rfl dX8_makeCode_176 ?_
      refine V.getr (q := m_code) dX8_makeCode_177 fX8_49 rfl rfl ?_
      refine V.sipush (v := nI 1600) (by decide) dX8_makeCode_180 ?_
      refine V.iload_n (j := 1) rfl dX8_makeCode_183 ?_
      refine V.iaddN dX8_makeCode_184 ?_
      refine V.aload_n (j := 0) rfl dX8_makeCode_185 ?_
      refine V.getr (q := m_code) dX8_makeCode_186 fX8_49 rfl rfl ?_
      refine V.iload_n (j := 1) rfl dX8_makeCode_189 ?_
      refine V.lda (v := c k) dX8_makeCode_190 rfl (by omega) (by decide) rfl ?_
      refine V.sta (g := upd c (1600 + k) (c k)) dX8_makeCode_191 rfl (by omega) (by decide) rfl ?_
      refine V.hpe (A' := (upA A m_code (upd c (1600 + k) (c k)))) rfl upA_u ?_
      refine V.iincN (ls' := [(0, .ref mM), (1, .int (nI (k + 1)))]) dX8_makeCode_192 (j := 1) rfl (by decide) rfl ?_
      refine V.goto (tgt := 164) dX8_makeCode_195 (by decide) ?_
      exact ih (k + 1) _ (by omega) hk
set_option maxRecDepth 100000 in
set_option maxHeartbeats 4000000 in
theorem ml_make4 {G : am_G} {Fn : Array Value → State → List Frame → State → Prop} (I A : Nat → Nat → Int32) (t : Nat → Int32) : ∀ (n : Nat) (c : Nat → Int32) (x : Int32), n < 390 → ((∃ j0, x = nI j0 ∧ j0 < n ∧ mz_gone c n j0 ∧ mz_no (fun k => mz_gone c n k) j0) ∨ (x = (-1) ∧ mz_no (fun k => mz_gone c n k) n)) → (∀ c' n', mz_tids n c c' n' → V G MX8_makeCode (am_R 4 95 0 0) Fn 0 0 221 [(0, .ref mM)] [] (hp I (upA (upA A m_items (upd t 1 (nI n'))) m_code c'))) → V G MX8_makeCode (am_R 4 95 0 0) Fn 0 0 203 [(0, .ref mM), (1, .int x)] [] (hp I (upA (upA A m_items (upd t 1 (nI n))) m_code c)) := by
  intro n
  induction n with
  | zero =>
    intro c x hn hd hk
    rcases hd with ⟨i, -, h, -⟩ | ⟨rfl, -⟩
    · exact absurd h (Nat.not_lt_zero _)
    · refine V.iload_n (j := 1) rfl dX8_makeCode_203 ?_
      refine V.iconst (v := (-1)) (by decide) dX8_makeCode_204 ?_
      refine V.icmp_eq (tgt := 221) dX8_makeCode_205 (by decide) (fun _ => ?_) (fun z => absurd rfl z)
      refine V.fewer [0] rfl ?_
      exact hk c 0 ⟨rfl, rfl⟩
  | succ n ih =>
    intro c x hn hd hk
    rcases hd with ⟨i, rfl, h1, h2, h3⟩ | ⟨rfl, h1⟩
    · refine V.iload_n (j := 1) rfl dX8_makeCode_203 ?_
      refine V.iconst (v := (-1)) (by decide) dX8_makeCode_204 ?_
      refine V.icmp_eq (tgt := 221) dX8_makeCode_205 (by decide) (fun z => absurd z (nI_nm1 (by omega))) (fun _ => ?_)
      refine V.aload_n (j := 0) rfl dX8_makeCode_208 ?_
      refine V.iload_n (j := 1) rfl dX8_makeCode_209 ?_
      refine V.cV (As := [.int (nI i)]) (st := []) dX8_makeCode_210 sX8_157 iX8_take lX8_take rfl rfl (md_take I (upA (upA A m_items (upd t 1 (nI (n + 1)))) m_code c) n rfl (by omega) i (by omega)) ⟨by decide, by decide⟩ (Nat.le_of_ble_eq_true rfl) rfl (fun r I' A' hq => ?_)
      obtain ⟨rfl, rfl, rfl⟩ := hq
      refine V.st (st' := []) rfl ?_
      refine V.hpe (A' := (upA (upA A m_items (upd t 1 (nI n))) m_code (mz_take c n i))) rfl (by rw [upA_r2 (a := m_items) (b := m_code) (by decide), upA_u, show ((upA (upA A m_items (upd t 1 (nI (n + 1)))) m_code c)) m_items = upd t 1 (nI (n + 1)) from rfl, upd_u]; rfl) ?_
      refine V.aload_n (j := 0) rfl dX8_makeCode_213 ?_
      refine V.cV (As := []) (st := []) dX8_makeCode_214 sX8_153 iX8_needless lX8_needless rfl rfl (md_needless I (upA (upA A m_items (upd t 1 (nI n))) m_code (mz_take c n i)) n rfl (by omega)) ⟨by decide, by decide⟩ (Nat.le_of_ble_eq_true rfl) rfl (fun r I' A' hq => ?_)
      obtain ⟨hr, rfl, rfl⟩ := hq
      have hr2 : ∃ y : Int32, r = some (.int y) ∧ ((∃ j0, y = nI j0 ∧ j0 < n ∧ mz_gone (mz_take c n i) n j0 ∧ mz_no (fun k => mz_gone (mz_take c n i) n k) j0) ∨ (y = (-1) ∧ mz_no (fun k => mz_gone (mz_take c n i) n k) n)) := by
        rcases hr with ⟨j, e, h4⟩ | ⟨e, h4⟩
        · exact ⟨nI j, e, Or.inl ⟨j, rfl, h4⟩⟩
        · exact ⟨-1, e, Or.inr ⟨rfl, h4⟩⟩
      obtain ⟨y, rfl, hy⟩ := hr2
      refine V.st (st' := [.int y]) rfl ?_
      refine V.istore_n (ls' := [(0, .ref mM), (1, .int y)]) dX8_makeCode_217 (by decide) rfl ?_
      refine V.goto (tgt := 203) dX8_makeCode_218 (by decide) ?_
      exact ih _ y (by omega) hy (fun c' n' q => hk c' n' (Or.inr ⟨i, h1, h2, h3, q⟩))
    · refine V.iload_n (j := 1) rfl dX8_makeCode_203 ?_
      refine V.iconst (v := (-1)) (by decide) dX8_makeCode_204 ?_
      refine V.icmp_eq (tgt := 221) dX8_makeCode_205 (by decide) (fun _ => ?_) (fun z => absurd rfl z)
      refine V.fewer [0] rfl ?_
      exact hk c (n + 1) (Or.inl ⟨h1, rfl, rfl⟩)
