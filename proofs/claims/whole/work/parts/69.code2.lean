/-! the code of the component and that of the reference -/
def cz_ce (C C' : cz_CN) : Prop := C.2 = C'.2 ∧ ∀ j, j < 4 * C.2 → C.1 j = C'.1 j
theorem cz_ce_lay {C C' : cz_CN} {o x y z : Int32} (h : cz_ce C C') : cz_ce (mz_lay C.1 C.2 o x y z, C.2 + 1) (mz_lay C'.1 C'.2 o x y z, C'.2 + 1) := by
  obtain ⟨h1, h2⟩ := h
  rw [← h1]
  refine ⟨rfl, fun j hj => ?_⟩
  have hj : j < 4 * (C.2 + 1) := hj
  show mz_lay C.1 C.2 o x y z j = mz_lay C'.1 C.2 o x y z j
  by_cases q : j < 4 * C.2
  · rw [mz_lay_lo q, mz_lay_lo q]; exact h2 j q
  · obtain ⟨a1, a2, a3, a4⟩ := mz_lay_at (c := C.1) (n := C.2) (o := o) (x := x) (y := y) (z := z)
    obtain ⟨b1, b2, b3, b4⟩ := mz_lay_at (c := C'.1) (n := C.2) (o := o) (x := x) (y := y) (z := z)
    rcases (show j = 4 * C.2 ∨ j = 4 * C.2 + 1 ∨ j = 4 * C.2 + 2 ∨ j = 4 * C.2 + 3 by omega) with rfl | rfl | rfl | rfl
    · rw [a1, b1]
    · rw [a2, b2]
    · rw [a3, b3]
    · rw [a4, b4]
theorem cz_ce_br {cl hm : Nat → Int32} {v : Int32} {w : Nat} {C C' : cz_CN} (h : cz_ce C C') : cz_ce (cz_br cl hm v w C) (cz_br cl hm v w C') := by
  unfold cz_br
  split
  · exact h
  · split
    · exact h
    · exact cz_ce_lay h
theorem cz_ce_C2 {cl hm : Nat → Int32} {f g : Int32} {C C' : cz_CN} (h : cz_ce C C') : cz_ce (cz_C2 cl hm f g C) (cz_C2 cl hm f g C') := by
  unfold cz_C2
  split
  · exact cz_ce_br h
  · exact cz_ce_br (cz_ce_br h)
theorem cz_ce_kp {cl hm : Nat → Int32} {v : Int32} {C C' : cz_CN} (h : cz_ce C C') : cz_ce (mz_kp cl hm v C.1 C.2) (mz_kp cl hm v C'.1 C'.2) := by
  unfold mz_kp
  split
  · exact h
  · split
    · exact h
    · exact cz_ce_lay h
theorem cz_ce_ts {cl hm : Nat → Int32} {k : Nat} {a b c f g an : Int32} {C C' : cz_CN} (h : cz_ce C C') : cz_ce (cz_ts cl hm k a b c f g an C) (cz_ts cl hm k a b c f g an C') := by
  unfold cz_ts
  exact cz_ce_kp (C := (_, _)) (C' := (_, _)) (cz_ce_lay (cz_ce_C2 h))
theorem cz_mk_ce {nv s n : Nat} {op fa fb fc cl hm fe it fe' it' c c' : Nat → Int32} (hnv : nv ≤ 24) (hsw : mz_sw nv (op s) (fa s) (fb s) (fc s)) (h : ∀ j, j < 4 * n → c j = c' j) : cz_ce (mz_mk op fa fb fc cl hm s fe it c n) (mz_mk op fa fb fc cl hm s fe' it' c' n) := by
  by_cases hn : mz_ndl op fa fb cl hm s
  · rw [mz_mk_t hn, mz_mk_t hn]; exact ⟨rfl, h⟩
  · obtain ⟨k, hk, ek, -⟩ := id hsw
    rw [mz_mk_f hn, mz_mk_f hn, ← cz_ts_mk hnv hsw ek hk, ← cz_ts_mk hnv hsw ek hk]
    exact cz_ce_ts ⟨rfl, h⟩
theorem cz_cds_c {nv ns : Nat} {op fa fb fc cl hm : Nat → Int32} (hnv : nv ≤ 24) (hsw : ∀ s, s < ns → mz_sw nv (op s) (fa s) (fb s) (fc s)) : ∀ (m s : Nat) (fe it fe' it' c c' f f' : Nat → Int32) (n : Nat) (c1 c2 f1 f2 : Nat → Int32) (n1 n2 : Nat), s + m = ns → (∀ j, j < 4 * n → c j = c' j) → cz_eq s f f' → mz_cds op fa fb fc cl hm m s fe it c n f c1 n1 f1 → mz_cds op fa fb fc cl hm m s fe' it' c' n f' c2 n2 f2 → n1 = n2 ∧ (∀ j, j < 4 * n1 → c1 j = c2 j) ∧ cz_eq ns f1 f2
  | 0, s, fe, it, fe', it', c, c', f, f', n, c1, c2, f1, f2, n1, n2, hs, hc, hf, h1, h2 => by
    obtain ⟨rfl, rfl, rfl⟩ := h1
    obtain ⟨rfl, rfl, rfl⟩ := h2
    exact ⟨rfl, hc, by rw [show ns = s by omega]; exact hf⟩
  | m + 1, s, fe, it, fe', it', c, c', f, f', n, c1, c2, f1, f2, n1, n2, hs, hc, hf, h1, h2 => by
    obtain ⟨g1, i1, h1⟩ := h1
    obtain ⟨g2, i2, h2⟩ := h2
    obtain ⟨e1, e2⟩ := cz_mk_ce (fe := fe) (it := it) (fe' := fe') (it' := it') (cl := cl) (hm := hm) hnv (hsw s (by omega)) hc
    rw [← e1] at h2
    exact cz_cds_c hnv hsw m (s + 1) g1 i1 g2 i2 _ _ _ _ _ c1 c2 f1 f2 n1 n2 (by omega) e2 (fun j hj => by
      by_cases q : j = s
      · subst q; rw [pk_us, pk_us]
      · rw [pk_un q, pk_un q]; exact hf j (by omega)) h1 h2
theorem cz_rts_c {ns n : Nat} {f f' c c' : Nat → Int32} (hns : ns ≤ 60) (hc : ∀ j, j < 4 * n → c j = c' j) (hf : cz_eq ns f f') (ht : ∀ k, k < n → mz_tok c k) : ∀ j, j < 4 * n → mz_rts ns n f n 0 c j = mz_rts ns n f' n 0 c' j := by
  have tg : ∀ x, x ≤ 60 → (if nI ns ≤ nI x then nI n else f (nI x).toNatClampNeg) = (if nI ns ≤ nI x then nI n else f' (nI x).toNatClampNeg) := by
    intro x hx
    by_cases q : ns ≤ x
    · rw [if_pos ((nI_leI (by omega) (by omega)).mpr q), if_pos ((nI_leI (by omega) (by omega)).mpr q)]
    · rw [if_neg (fun z => q ((nI_leI (by omega) (by omega)).mp z)), if_neg (fun z => q ((nI_leI (by omega) (by omega)).mp z)), nI_clamp (by omega), hf x (by omega)]
  have item : ∀ i, i < n → ∀ r, r < 4 → mz_rts ns n f n 0 c (4 * i + r) = mz_rts ns n f' n 0 c' (4 * i + r) := by
    intro i hi r hr
    have h1 := pz_rts_at (ns := ns) (n := n) (f := f) n 0 c (Nat.zero_le i) (by omega) (⟨rfl, rfl, rfl, rfl⟩ : pz_at c i _ _ _ _)
    have h2 := pz_rts_at (ns := ns) (n := n) (f := f') n 0 c' (Nat.zero_le i) (by omega) (⟨rfl, rfl, rfl, rfl⟩ : pz_at c' i _ _ _ _)
    rw [← hc _ (by omega), ← hc _ (by omega), ← hc _ (by omega), ← hc _ (by omega)] at h2
    have htk := ht i hi
    have e8 : (if c (4 * i) = nI 8 then (if nI ns ≤ c (4 * i + 1) then nI n else f (c (4 * i + 1)).toNatClampNeg) else c (4 * i + 1)) = (if c (4 * i) = nI 8 then (if nI ns ≤ c (4 * i + 1) then nI n else f' (c (4 * i + 1)).toNatClampNeg) else c (4 * i + 1)) := by
      by_cases q : c (4 * i) = nI 8
      · obtain ⟨x, hx, ex⟩ := htk (Or.inr q)
        rw [show mz_of0 c i = 1 from if_neg (by rw [q]; decide)] at ex
        rw [if_pos q, if_pos q, ex, tg x hx]
      · rw [if_neg q, if_neg q]
    have e7 : (if c (4 * i) = nI 7 then (if nI ns ≤ c (4 * i + 3) then nI n else f (c (4 * i + 3)).toNatClampNeg) else c (4 * i + 3)) = (if c (4 * i) = nI 7 then (if nI ns ≤ c (4 * i + 3) then nI n else f' (c (4 * i + 3)).toNatClampNeg) else c (4 * i + 3)) := by
      by_cases q : c (4 * i) = nI 7
      · obtain ⟨x, hx, ex⟩ := htk (Or.inl q)
        rw [show mz_of0 c i = 3 from if_pos q] at ex
        rw [if_pos q, if_pos q, ex, tg x hx]
      · rw [if_neg q, if_neg q]
    rw [e8, e7] at h1
    rcases (show r = 0 ∨ r = 1 ∨ r = 2 ∨ r = 3 by omega) with rfl | rfl | rfl | rfl
    · rw [Nat.add_zero, h1.1, h2.1]
    · rw [h1.2.1, h2.2.1]
    · rw [h1.2.2.1, h2.2.2.1]
    · rw [h1.2.2.2, h2.2.2.2]
  intro j hj
  have := item (j / 4) (by omega) (j % 4) (by omega)
  rw [show 4 * (j / 4) + j % 4 = j by omega] at this
  exact this
/-! tidied -/
def tz_all (c c' : Nat → Int32) (n : Nat) : Prop := ∀ t, t < n → tz_eq c c' t t
theorem tz_led {c c' : Nat → Int32} {n k : Nat} (h : tz_all c c' n) : mz_led c n k ↔ mz_led c' n k := by
  constructor
  · rintro ⟨t, h1, h2⟩; exact ⟨t, h1, by rw [← (tz_leads (h t h1)).1]; exact h2⟩
  · rintro ⟨t, h1, h2⟩; exact ⟨t, h1, by rw [(tz_leads (h t h1)).1]; exact h2⟩
theorem tz_gone {c c' : Nat → Int32} {n i : Nat} (h : tz_all c c' n) (hi : i < n) : mz_gone c n i ↔ mz_gone c' n i := by
  have h1 := h i hi
  unfold mz_gone
  have e1 : mz_P1 c i ↔ mz_P1 c' i := by
    unfold mz_P1
    rw [tz_0 h1, (tz_leads h1).1]
  have e2 : 0 < i → (mz_P2 c n i ↔ mz_P2 c' n i) := fun h0 => by
    have h2 := h (i - 1) (by omega)
    rw [cz_P2_e h0, cz_P2_e h0, tz_led h]
    unfold cz_on
    dsimp only
    rw [tz_0 h1, tz_0 h2, h1 1 (by omega), h1 2 (by omega), h2 1 (by omega), h2 2 (by omega)]
  constructor
  · rintro (z | ⟨z0, z⟩)
    · exact Or.inl (e1.mp z)
    · exact Or.inr ⟨z0, (e2 z0).mp z⟩
  · rintro (z | ⟨z0, z⟩)
    · exact Or.inl (e1.mpr z)
    · exact Or.inr ⟨z0, (e2 z0).mpr z⟩
theorem tz_take_c {c c' : Nat → Int32} {n i : Nat} (h : tz_all c c' (n + 1)) (hi : i ≤ n) : tz_all (mz_take c n i) (mz_take c' n i) n := by
  intro t ht
  obtain ⟨s, h1, h2⟩ := tz_take (c := c) hi ht
  obtain ⟨s', h3, h4⟩ := tz_take (c := c') hi ht
  have h5 := h (if t < i then t else t + 1) (by split <;> omega)
  have h6 : tz_eq s s' t t := fun r hr => by rw [h1 r hr, h3 r hr]; exact h5 r hr
  have h7 := tz_dc (i := i) h6
  exact fun r hr => by rw [h2 r hr, h4 r hr]; exact h7 r hr
theorem tz_tids_c : ∀ (n : Nat) (c c' c1 c2 : Nat → Int32) (n1 n2 : Nat), tz_all c c' n → mz_tids n c c1 n1 → mz_tids n c' c2 n2 → n1 = n2 ∧ tz_all c1 c2 n1
  | 0, c, c', c1, c2, n1, n2, h, h1, h2 => by
    obtain ⟨rfl, rfl⟩ := h1
    obtain ⟨rfl, rfl⟩ := h2
    exact ⟨rfl, h⟩
  | n + 1, c, c', c1, c2, n1, n2, h, h1, h2 => by
    rcases h1 with ⟨z1, rfl, rfl⟩ | ⟨i, hi, z1, z2, h1⟩
    · rcases h2 with ⟨y1, rfl, rfl⟩ | ⟨j, hj, y1, y2, h2⟩
      · exact ⟨rfl, h⟩
      · exact absurd ((tz_gone h hj).mpr y1) (z1 j hj)
    · rcases h2 with ⟨y1, rfl, rfl⟩ | ⟨j, hj, y1, y2, h2⟩
      · exact absurd ((tz_gone h hi).mp z1) (y1 i hi)
      · have e : i = j := by
          by_cases q : i < j
          · exact absurd ((tz_gone h hi).mp z1) (y2 i q)
          · by_cases q2 : j < i
            · exact absurd ((tz_gone h hj).mpr y1) (z2 j q2)
            · omega
        subst e
        exact tz_tids_c n _ _ c1 c2 n1 n2 (tz_take_c h (by omega)) h1 h2
/-! every item is well formed, slots too -/
theorem mz_set_h3 {nv ns : Nat} {op fa fb cl rg wy od : Nat → Int32} (hnv : nv ≤ 24) (hirr : ∀ t, t < nv → ¬ bg_t (wy t) t = true) : ∀ (m i : Nat) (hm hm' : Nat → Int32), mz_set nv ns op fa fb cl rg wy od m i hm hm' → (∀ v, mz_h3 (hm v) → mz_h3 (hm' v)) ∧ ∀ j t, i ≤ j → j < i + m → t < 2 ^ 31 → od j = nI t → mz_h3 (hm' t)
  | 0, i, hm, hm', h => by
    have h : hm' = hm := h
    subst h
    exact ⟨fun _ h => h, fun j t h1 h2 => by omega⟩
  | m + 1, i, hm, hm', h => by
    obtain ⟨t, cc, R, x, ht, hcc, hR, et, ec, eR, hx, h⟩ := h
    obtain ⟨h1, h2⟩ := mz_set_h3 hnv hirr m (i + 1) _ hm' h
    have hg : mz_h3 (nI x) := ⟨x, mz_home_rg3 hnv hR ht (hirr t ht) hx, rfl⟩
    refine ⟨fun v hv => h1 v ?_, fun j u h3 h4 h5 h6 => ?_⟩
    · by_cases q : v = t
      · subst q; rw [pk_us]; exact hg
      · rw [pk_un q]; exact hv
    · by_cases q : j = i
      · subst q
        have e : t = u := (nI_eq (by omega) h5).mp (et.symm.trans h6)
        subst e
        exact h1 t (by rw [pk_us]; exact hg)
      · exact h2 j u (by omega) (by omega) h5 h6
theorem mz_W_irr {nv ns : Nat} {A : Nat → Nat → Int32} {bh : Nat → Int32} (hnv : nv ≤ 24) (han : ∀ s, s < ns → mz_anew (A m_ops) (A m_first) s = (-1) ∨ ∃ a, a < nv ∧ mz_anew (A m_ops) (A m_first) s = nI a) (t : Nat) (ht : t < nv) : bg_lo nv (mz_W nv ns A bh t) ∧ ¬ bg_t (mz_W nv ns A bh t) t = true := by
  constructor
  · intro i hi
    rw [mz_W_bit hnv han ht] at hi
    obtain ⟨y, -, hb⟩ := hi
    exact (mz_wB_sym hb).2.2.2
  · intro hi
    rw [mz_W_bit hnv han ht] at hi
    obtain ⟨y, -, hb⟩ := hi
    exact (mz_wB_sym hb).2.1 rfl
theorem mz_stl_h3 {nv ns : Nat} {A A' : Nat → Nat → Int32} (hnv : nv ≤ 24) (han : ∀ s, s < ns → mz_anew (A m_ops) (A m_first) s = (-1) ∨ ∃ a, a < nv ∧ mz_anew (A m_ops) (A m_first) s = nI a) (h : mz_stl nv ns A A') : ∀ v, v < nv → mz_h3 (A' m_homes v) := by
  obtain ⟨k, hm, -, h2, rfl⟩ := h
  intro v hv
  have hc := mz_sort_cov (mz_G nv ns A) nv 0 (A m_order) (fun t ht => absurd ht (Nat.not_lt_zero _))
  rw [Nat.zero_add] at hc
  obtain ⟨j, h3, -, h4⟩ := hc v hv
  exact (mz_set_h3 hnv (fun t ht => (mz_W_irr hnv han t ht).2) nv 0 _ hm h2).2 j v (Nat.zero_le _) (by omega) (by omega) h4
def mz_i24 (c : Nat → Int32) (ba i : Nat) : Prop := c (ba + 4 * i) = nI 11 ∨ c (ba + 4 * i) = nI 12 → ∃ q, q < 24 ∧ c (ba + 4 * i + 2) = nI q
def mz_C24 (C : cz_CN) : Prop := ∀ i, i < C.2 → mz_i24 C.1 0 i
theorem mz_C24_lay {C : cz_CN} {o x y z : Int32} (h : mz_C24 C) (hy : o = nI 11 ∨ o = nI 12 → ∃ q, q < 24 ∧ y = nI q) : mz_C24 (mz_lay C.1 C.2 o x y z, C.2 + 1) := by
  intro i hi
  have hi : i < C.2 + 1 := hi
  show mz_i24 (mz_lay C.1 C.2 o x y z) 0 i
  unfold mz_i24
  rw [Nat.zero_add]
  by_cases q : i = C.2
  · subst q
    obtain ⟨a1, a2, a3, a4⟩ := mz_lay_at (c := C.1) (n := C.2) (o := o) (x := x) (y := y) (z := z)
    rw [a1, a3]
    exact hy
  · rw [mz_lay_lo (by omega), mz_lay_lo (by omega)]
    have := h i (by omega)
    unfold mz_i24 at this
    rw [Nat.zero_add] at this
    exact this
theorem mz_h3_sl {x : Int32} (h : mz_h3 x) (h2 : ¬ x < nI 100) : ∃ q, q < 24 ∧ x - nI 100 = nI q := by
  obtain ⟨q, h3, h4⟩ := h
  rw [h4, nI_ltI (by omega) (by omega)] at h2
  exact ⟨q - 100, by omega, by rw [h4, pk_sub (by omega)]⟩
section C24
variable {nv : Nat} {cl hm : Nat → Int32}
theorem mz_C24_br (hnv : nv ≤ 24) (h3 : ∀ v, v < nv → mz_h3 (hm v)) {v : Int32} {w : Nat} {C : cz_CN} (hv : v = (-1) ∨ ∃ a, a < nv ∧ v = nI a) (h : mz_C24 C) : mz_C24 (cz_br cl hm v w C) := by
  rcases hv with rfl | ⟨a, ha, rfl⟩
  · rw [cz_br_m]; exact h
  · by_cases q : hm a < nI 100
    · rw [cz_br_r (by omega) q]; exact h
    · rw [cz_br_s (by omega) q]; exact mz_C24_lay h (fun _ => mz_h3_sl (h3 a ha) q)
theorem mz_C24_kp (hnv : nv ≤ 24) (h3 : ∀ v, v < nv → mz_h3 (hm v)) {v : Int32} {C : cz_CN} (hv : v = (-1) ∨ ∃ a, a < nv ∧ v = nI a) (h : mz_C24 C) : mz_C24 (mz_kp cl hm v C.1 C.2) := by
  rcases hv with rfl | ⟨a, ha, rfl⟩
  · rw [mz_kp_m]; exact h
  · by_cases q : hm a < nI 100
    · rw [mz_kp_r (by omega) q]; exact h
    · rw [mz_kp_s (by omega) q]; exact mz_C24_lay h (fun _ => mz_h3_sl (h3 a ha) q)
theorem mz_C24_mk {op fa fb fc fe it c : Nat → Int32} {s n : Nat} (hnv : nv ≤ 24) (h3 : ∀ v, v < nv → mz_h3 (hm v)) (hsw : mz_sw nv (op s) (fa s) (fb s) (fc s)) (h : mz_C24 (c, n)) : mz_C24 (mz_mk op fa fb fc cl hm s fe it c n) := by
  by_cases hn : mz_ndl op fa fb cl hm s
  · rw [mz_mk_t hn]; exact h
  · obtain ⟨k, hk, ek, -⟩ := id hsw
    rw [mz_mk_f hn, ← cz_ts_mk hnv hsw ek hk]
    unfold cz_ts
    refine mz_C24_kp (C := (_, _)) hnv h3 (mz_sw_anew (fb := fb) (fc := fc) hsw) (mz_C24_lay ?_ (fun z => ?_))
    · unfold cz_C2
      split
      · exact mz_C24_br hnv h3 (mz_sw_tak0 hsw) h
      · exact mz_C24_br hnv h3 (mz_sw_tak1 hsw) (mz_C24_br hnv h3 (mz_sw_tak0 hsw) h)
    · rcases z with z | z <;> (rw [nI_eq (by omega) (by omega)] at z; omega)
theorem mz_C24_cds {ns : Nat} {op fa fb fc : Nat → Int32} (hnv : nv ≤ 24) (h3 : ∀ v, v < nv → mz_h3 (hm v)) (hsw : ∀ s, s < ns → mz_sw nv (op s) (fa s) (fb s) (fc s)) : ∀ (m s : Nat) (fe it c : Nat → Int32) (n : Nat) (f c' : Nat → Int32) (n' : Nat) (f' : Nat → Int32), s + m = ns → mz_C24 (c, n) → mz_cds op fa fb fc cl hm m s fe it c n f c' n' f' → mz_C24 (c', n')
  | 0, s, fe, it, c, n, f, c', n', f', _, h, q => by
    obtain ⟨rfl, rfl, rfl⟩ := q
    exact h
  | m + 1, s, fe, it, c, n, f, c', n', f', hs, h, q => by
    obtain ⟨fe', it', q⟩ := q
    exact mz_C24_cds hnv h3 hsw m (s + 1) fe' it' _ _ _ c' n' f' (by omega) (mz_C24_mk hnv h3 (hsw s (by omega)) h) q
end C24
/-- an item that is well formed, its slot too -/
def mz_i2 (c : Nat → Int32) (ba i : Nat) : Prop := mz_iw c ba i ∧ mz_i24 c ba i
theorem mz_i2_c {c c' : Nat → Int32} {ba ba' i i' : Nat} (h : mz_i2 c ba i) (e : ∀ r, r < 4 → c' (ba' + 4 * i' + r) = c (ba + 4 * i + r)) : mz_i2 c' ba' i' := by
  have e0 : c' (ba' + 4 * i') = c (ba + 4 * i) := e 0 (by omega)
  obtain ⟨h1, h2⟩ := h
  refine ⟨?_, ?_⟩
  · rw [mz_iw_ik] at h1 ⊢
    rw [e0, e 1 (by omega), e 2 (by omega), e 3 (by omega)]
    exact h1
  · unfold mz_i24 at h2 ⊢
    rw [e0, e 2 (by omega)]
    exact h2
/-- a target is changed: still well formed -/
theorem mz_i2_t {c c' : Nat → Int32} {ba i : Nat} (h : mz_i2 c ba i) (e0 : c' (ba + 4 * i) = c (ba + 4 * i)) (e2 : c' (ba + 4 * i + 2) = c (ba + 4 * i + 2)) (e1 : ¬ c (ba + 4 * i) = nI 8 → c' (ba + 4 * i + 1) = c (ba + 4 * i + 1)) (e3 : ¬ c (ba + 4 * i) = nI 7 → c' (ba + 4 * i + 3) = c (ba + 4 * i + 3)) (t8 : c (ba + 4 * i) = nI 8 → ∃ x, x ≤ 400 ∧ c' (ba + 4 * i + 1) = nI x) (t7 : c (ba + 4 * i) = nI 7 → ∃ x, x ≤ 400 ∧ c' (ba + 4 * i + 3) = nI x) : mz_i2 c' ba i := by
  obtain ⟨⟨k, hk, ek, h3, h4, h5, h6, h7⟩, h8⟩ := h
  have n8 : ¬ k = 8 → ¬ c (ba + 4 * i) = nI 8 := fun z q => z ((nI_eq (by omega) (by omega)).mp (ek.symm.trans q))
  have n7 : ¬ k = 7 → ¬ c (ba + 4 * i) = nI 7 := fun z q => z ((nI_eq (by omega) (by omega)).mp (ek.symm.trans q))
  refine ⟨⟨k, hk, by rw [e0]; exact ek, fun z => ?_, fun z => ?_, fun z => ?_, fun z => ?_, fun z => ?_⟩, ?_⟩
  · rw [e1 (n8 (by omega))]; exact h3 z
  · rw [e2]; exact h4 z
  · rw [e3 (n7 (by omega))]; exact h5 z
  · subst z; exact t7 ek
  · subst z; exact t8 ek
  · unfold mz_i24 at h8 ⊢
    rw [e0, e2]
    exact h8
theorem mz_i2_rts {ns n : Nat} {f c : Nat → Int32} (hns : ns ≤ 60) (hn : n ≤ 240) (hf : ∀ j, j < ns → ∃ x, x ≤ 240 ∧ f j = nI x) (ht : ∀ k, k < n → mz_tok c k) (h : ∀ i, i < n → mz_i2 c 0 i) : ∀ i, i < n → mz_i2 (mz_rts ns n f n 0 c) 0 i := by
  intro i hi
  have tg : ∀ x, x ≤ 60 → ∃ y, y ≤ 400 ∧ (if nI ns ≤ nI x then nI n else f (nI x).toNatClampNeg) = nI y := by
    intro x hx
    by_cases q : ns ≤ x
    · exact ⟨n, by omega, if_pos ((nI_leI (by omega) (by omega)).mpr q)⟩
    · obtain ⟨y, hy, ey⟩ := hf x (by omega)
      exact ⟨y, by omega, by rw [if_neg (fun z => q ((nI_leI (by omega) (by omega)).mp z)), nI_clamp (by omega), ey]⟩
  obtain ⟨h1, h2, h3, h4⟩ := pz_rts_at (ns := ns) (n := n) (f := f) n 0 c (Nat.zero_le i) (by omega) (⟨rfl, rfl, rfl, rfl⟩ : pz_at c i _ _ _ _)
  have htk := ht i hi
  refine mz_i2_t (h i hi) ?_ ?_ (fun q => ?_) (fun q => ?_) (fun q => ?_) (fun q => ?_)
  · rw [Nat.zero_add]; exact h1
  · rw [Nat.zero_add]; exact h3
  · rw [Nat.zero_add] at q ⊢; rw [h2, if_neg q]
  · rw [Nat.zero_add] at q ⊢; rw [h4, if_neg q]
  · rw [Nat.zero_add] at q ⊢
    obtain ⟨x, hx, ex⟩ := htk (Or.inr q)
    rw [show mz_of0 c i = 1 from if_neg (by rw [q]; decide)] at ex
    rw [h2, if_pos q, ex]
    exact tg x hx
  · rw [Nat.zero_add] at q ⊢
    obtain ⟨x, hx, ex⟩ := htk (Or.inl q)
    rw [show mz_of0 c i = 3 from if_pos q] at ex
    rw [h4, if_pos q, ex]
    exact tg x hx
theorem mz_cp_at : ∀ (m k : Nat) (c : Nat → Int32) (j : Nat), k + m ≤ 1600 → mz_cp m k c j = if 1600 + k ≤ j ∧ j < 1600 + k + m then c (j - 1600) else c j
  | 0, k, c, j, _ => by rw [if_neg (by omega)]; rfl
  | m + 1, k, c, j, h => by
    show mz_cp m (k + 1) (upd c (1600 + k) (c k)) j = _
    rw [mz_cp_at m (k + 1) _ j (by omega)]
    by_cases q : 1600 + (k + 1) ≤ j ∧ j < 1600 + (k + 1) + m
    · rw [if_pos q, if_pos (by omega), pk_un (by omega)]
    · rw [if_neg q]
      by_cases q2 : j = 1600 + k
      · subst q2; rw [pk_us, if_pos (by omega)]; exact congrArg c (by omega)
      · rw [pk_un q2, if_neg (by omega)]
theorem mz_i2_take {c : Nat → Int32} {n i : Nat} (hn : n < 1000) (hi : i ≤ n) (h : ∀ t, t < n + 1 → mz_i2 c 1600 t) : ∀ t, t < n → mz_i2 (mz_take c n i) 1600 t := by
  intro t ht
  obtain ⟨s, h1, h2⟩ := tz_take (c := c) hi ht
  have hs : mz_i2 s 1600 t := mz_i2_c (h (if t < i then t else t + 1) (by split <;> omega)) h1
  have hd : mz_i2 (mz_dc s i t) 1600 t := by
    unfold mz_dc
    by_cases q : mz_leads s t ≤ nI i
    · rw [if_pos q]; exact hs
    · rw [if_neg q]
      have hj : s (1600 + 4 * t) = nI 7 ∨ s (1600 + 4 * t) = nI 8 := Classical.byContradiction fun z => q (by rw [cz_ld_n z]; exact cz_m1_le (by omega))
      have ho : mz_off s t = 1 ∨ mz_off s t = 3 := by unfold mz_off; split <;> omega
      have hx : ∃ x, x ≤ 400 ∧ s (1600 + 4 * t + mz_off s t) = nI x := by
        obtain ⟨⟨k, hk, ek, -, -, -, h6, h7⟩, -⟩ := hs
        rcases hj with z | z
        · rw [show mz_off s t = 3 from if_pos z]
          exact h6 ((nI_eq (by omega) (by omega)).mp (ek.symm.trans z))
        · rw [show mz_off s t = 1 from if_neg (by rw [z]; decide)]
          exact h7 ((nI_eq (by omega) (by omega)).mp (ek.symm.trans z))
      obtain ⟨x, hx, ex⟩ := hx
      have hxi : i < x := by
        rw [cz_ld_e hj, ex, nI_leI (by omega) (by omega)] at q
        omega
      have ev : s (1600 + 4 * t + mz_off s t) - nI 1 = nI (x - 1) := by rw [ex, pk_sub (by omega)]
      refine mz_i2_t hs (pk_un (by omega)) (pk_un (by omega)) (fun z => ?_) (fun z => ?_) (fun z => ?_) (fun z => ?_)
      · have : mz_off s t = 3 := if_pos (hj.resolve_right z)
        exact pk_un (by omega)
      · have : mz_off s t = 1 := if_neg z
        exact pk_un (by omega)
      · have e1 : mz_off s t = 1 := if_neg (by rw [z]; decide)
        exact ⟨x - 1, by omega, by rw [ev, e1, pk_us]⟩
      · have e3 : mz_off s t = 3 := if_pos z
        exact ⟨x - 1, by omega, by rw [ev, e3, pk_us]⟩
  exact mz_i2_c hd h2
theorem mz_i2_tids : ∀ (n : Nat) (c c' : Nat → Int32) (n' : Nat), n < 1000 → (∀ t, t < n → mz_i2 c 1600 t) → mz_tids n c c' n' → (∀ t, t < n' → mz_i2 c' 1600 t) ∧ ∀ j, j < 1600 → c' j = c j
  | 0, c, c', n', _, h, q => by
    obtain ⟨rfl, rfl⟩ := q
    exact ⟨h, fun _ _ => rfl⟩
  | n + 1, c, c', n', hn, h, q => by
    rcases q with ⟨-, rfl, rfl⟩ | ⟨i, hi, -, -, q⟩
    · exact ⟨h, fun _ _ => rfl⟩
    · obtain ⟨h1, h2⟩ := mz_i2_tids n _ c' n' (by omega) (mz_i2_take (by omega) (by omega) h) q
      exact ⟨h1, fun j hj => by rw [h2 j hj, mz_take_o hj]⟩
