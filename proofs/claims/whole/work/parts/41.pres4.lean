/-! bits -/
theorem bg_hi (x : Int32) {i : Nat} (h : 32 ≤ i) : bg_t x i = false := by
  unfold bg_t
  exact BitVec.getLsbD_of_ge _ _ h
theorem bg_b32 : ∀ v : Fin 32, ∀ i : Fin 32, bg_t (nI 1 <<< (nI v.val &&& 31)) i.val = decide (i.val = v.val) := by decide +kernel
/-- the bit of v -/
theorem bg_bit {v : Nat} (hv : v < 32) (i : Nat) : bg_t (nI 1 <<< (nI v &&& 31)) i = decide (i = v) := by
  by_cases h : i < 32
  · exact bg_b32 ⟨v, hv⟩ ⟨i, h⟩
  · rw [bg_hi _ (by omega)]
    exact (decide_eq_false (by omega)).symm
theorem bg_m1 {i : Nat} (h : i < 32) : bg_t (-1) i = true := (by decide +kernel : ∀ i : Fin 32, bg_t (-1) i.val = true) ⟨i, h⟩
theorem bg_xor (x y : Int32) (i : Nat) : bg_t (x ^^^ y) i = (bg_t x i ^^ bg_t y i) := by simp [bg_t]
theorem bg_not (x : Int32) {i : Nat} (h : i < 32) : bg_t (x ^^^ (-1)) i = !bg_t x i := by rw [bg_xor, bg_m1 h]; cases bg_t x i <;> rfl
theorem bg_sh (w : Int32) {u : Nat} (hu : u < 32) : (w >>> (nI u &&& 31)) &&& nI 1 = if bg_t w u = true then nI 1 else nI 0 := by
  have e : (nI u &&& 31) = nI u := (by decide +kernel : ∀ u : Fin 32, (nI u.val &&& 31) = nI u.val) ⟨u, hu⟩
  rw [e]
  apply bg_ext
  intro i hi
  rw [bg_and]
  have h1 : ∀ i : Nat, bg_t (nI 1) i = decide (i = 0) := fun i => by
    by_cases h : i < 32
    · exact (by decide +kernel : ∀ i : Fin 32, bg_t (nI 1) i.val = decide (i.val = 0)) ⟨i, h⟩
    · rw [bg_hi _ (by omega)]; exact (decide_eq_false (by omega)).symm
  by_cases h0 : i = 0
  · subst h0
    rw [h1]
    have h2 : bg_t (w >>> nI u) 0 = bg_t w u := by
      unfold bg_t
      rw [Int32.toBitVec_shiftRight]
      have e3 : BitVec.smod (nI u).toBitVec 32 = BitVec.ofNat 32 u := (by decide +kernel : ∀ u : Fin 32, BitVec.smod (nI u.val).toBitVec 32 = BitVec.ofNat 32 u.val) ⟨u, hu⟩
      rw [e3]
      simp [BitVec.getElem_sshiftRight, Nat.mod_eq_of_lt (show u < 4294967296 by omega), hu]
    rw [h2]
    cases bg_t w u <;> rfl
  · rw [h1, decide_eq_false h0, Bool.and_false]
    split
    · rw [h1, decide_eq_false h0]
    · rw [bg_0]
theorem bg_sh1 {w : Int32} {u : Nat} (hu : u < 32) : (w >>> (nI u &&& 31)) &&& nI 1 = nI 1 ↔ bg_t w u = true := by
  rw [bg_sh w hu]
  split
  · exact ⟨fun _ => ‹_›, fun _ => rfl⟩
  · exact ⟨fun z => absurd z (by decide), fun z => absurd z ‹_›⟩
theorem bg_sh0 {w : Int32} {u : Nat} (hu : u < 32) : (w >>> (nI u &&& 31)) &&& nI 1 = 0 ↔ ¬ bg_t w u = true := by
  rw [bg_sh w hu]
  split
  · exact ⟨fun z => absurd z (by decide), fun z => absurd ‹_› z⟩
  · exact ⟨fun _ => ‹_›, fun _ => rfl⟩
theorem mz_bit_n {v : Nat} (hv : v < 32) (i : Nat) : bg_t (mz_bit (nI v)) i = decide (i = v) := by
  unfold mz_bit
  rw [if_neg (nI_nm1 (by omega)), bg_bit hv]
theorem mz_bit_m (i : Nat) : bg_t (mz_bit (-1)) i = false := by
  unfold mz_bit
  rw [if_pos rfl, bg_0]
/-! the flow stands still -/
theorem bg_still {ns : Nat} {op fa fb fc : Nat → Int32} : ∀ (m : Nat) (f g : Nat → Int32) (mo : Int32), (mz_pass ns op fa fb fc m f g mo).2.2 = 0 → mo = 0 ∧ (mz_pass ns op fa fb fc m f g mo).1 = f ∧ (mz_pass ns op fa fb fc m f g mo).2.1 = g ∧ ∀ s, s < m → mz_inn ns op fa fb fc f s = f s ∧ mz_out ns op fa fc f s = g s
  | 0, f, g, mo, h => ⟨h, rfl, rfl, fun s hs => absurd hs (Nat.not_lt_zero _)⟩
  | m + 1, f, g, mo, h => by
    obtain ⟨h1, h2, h3, h4⟩ := bg_still m _ _ _ h
    obtain ⟨h5, h6, h7⟩ := bg_mor h1
    have ef : upd f m (mz_inn ns op fa fb fc f m) = f := by rw [h6, upd_i]
    have eg : upd g m (mz_out ns op fa fc f m) = g := by rw [h7, upd_i]
    rw [ef] at h2 h4
    rw [eg] at h3 h4
    refine ⟨h5, ?_, ?_, fun s hs => ?_⟩
    · show (mz_pass ns op fa fb fc m (upd f m (mz_inn ns op fa fb fc f m)) (upd g m (mz_out ns op fa fc f m)) _).1 = f
      rw [ef, eg]
      rw [eg] at h2
      exact h2
    · show (mz_pass ns op fa fb fc m (upd f m (mz_inn ns op fa fb fc f m)) (upd g m (mz_out ns op fa fc f m)) _).2.1 = g
      rw [ef, eg]
      rw [ef] at h3
      exact h3
    · by_cases q : s = m
      · subst q; exact ⟨h6, h7⟩
      · exact h4 s (by omega)
theorem mz_fl_fix {ns k : Nat} {A : Nat → Nat → Int32} (h : mz_fm ns A k = nI 0) : ∀ s, s < ns → mz_inn ns (A m_ops) (A m_first) (A m_second) (A m_third) (mz_fl ns A k).1 s = (mz_fl ns A k).1 s ∧ mz_out ns (A m_ops) (A m_first) (A m_third) (mz_fl ns A k).1 s = (mz_fl ns A k).2 s := by
  obtain ⟨-, h2, h3, h4⟩ := bg_still _ _ _ _ h
  intro s hs
  have := h4 s hs
  unfold mz_fl mz_it
  dsimp only
  rw [h2, h3]
  exact this
section FIX
variable {nv ns : Nat} {op fa fb fc bf bh : Nat → Int32}
/-- what is live before a step that may come next is live behind -/
theorem fx_suc (hnv : nv ≤ 24) (hns : ns ≤ 60) (hsw : ∀ s, s < ns → mz_sw nv (op s) (fa s) (fb s) (fc s)) (hfx : ∀ s, s < ns → mz_inn ns op fa fb fc bf s = bf s ∧ mz_out ns op fa fc bf s = bh s) {s s' v : Nat} (hs : s < ns) (hs' : s' < ns) (h : pz_suc op fa fc s s') (hl : bg_t (bf s') v = true) : bg_t (bh s) v = true := by
  rw [← (hfx s hs).2]
  have hat : mz_at ns bf (nI s') = bf s' := by
    unfold mz_at
    rw [if_neg (by rw [nI_leI (by omega) (by omega)]; omega), nI_clamp (by omega)]
  unfold mz_out
  rw [bg_or, Bool.or_eq_true]
  rcases h with ⟨h8, h10, rfl⟩ | ⟨h7, e⟩ | ⟨h8, e⟩
  · left; rw [if_neg h8, if_neg h10, hat]; exact hl
  · right; rw [if_pos h7, e, hat]; exact hl
  · left; rw [if_pos h8, e, hat]; exact hl
theorem fx_keep (hnv : nv ≤ 24) (hns : ns ≤ 60) (hsw : ∀ s, s < ns → mz_sw nv (op s) (fa s) (fb s) (fc s)) (hfx : ∀ s, s < ns → mz_inn ns op fa fb fc bf s = bf s ∧ mz_out ns op fa fc bf s = bh s) {s v : Nat} (hs : s < ns) (hv : v < 32) (hl : bg_t (bh s) v = true) (ha : ¬ mz_anew op fa s = nI v) : bg_t (bf s) v = true := by
  rw [← (hfx s hs).1]
  unfold mz_inn
  rw [bg_or, Bool.or_eq_true, (hfx s hs).2]
  right
  rcases mz_sw_anew (op := op) (fa := fa) (fb := fb) (fc := fc) (hsw s hs) with e | ⟨a, ha', e⟩
  · rw [if_pos e]; exact hl
  · rw [e, if_neg (nI_nm1 (by omega)), bg_and, hl, bg_not _ hv, bg_bit (by omega)]
    rw [e, nI_eq (by omega) (by omega)] at ha
    rw [decide_eq_false (fun z => ha z.symm)]
    rfl
theorem fx_take (hnv : nv ≤ 24) (hns : ns ≤ 60) (hsw : ∀ s, s < ns → mz_sw nv (op s) (fa s) (fb s) (fc s)) (hfx : ∀ s, s < ns → mz_inn ns op fa fb fc bf s = bf s ∧ mz_out ns op fa fc bf s = bh s) {s v : Nat} (hs : s < ns) (h : pz_T op fa fb fc s v) : bg_t (bf s) v = true := by
  rw [← (hfx s hs).1]
  unfold mz_inn
  rw [bg_or, Bool.or_eq_true]
  left
  unfold mz_taking
  obtain ⟨h, h31⟩ := h
  rw [bg_or, bg_or, bg_0, Bool.false_or, Bool.or_eq_true]
  rcases h with h | h
  · left
    rcases mz_sw_tak0 (hsw s hs) with e | ⟨a, ha, e⟩
    · rw [h] at e; exact absurd e (nI_nm1 h31)
    · have hva : v = a := (nI_eq h31 (by omega)).mp (h.symm.trans e)
      rw [h, mz_bit_n (by omega)]
      exact decide_eq_true rfl
  · right
    rcases mz_sw_tak1 (hsw s hs) with e | ⟨a, ha, e⟩
    · rw [h] at e; exact absurd e (nI_nm1 h31)
    · have hva : v = a := (nI_eq h31 (by omega)).mp (h.symm.trans e)
      rw [h, mz_bit_n (by omega)]
      exact decide_eq_true rfl
end FIX
/-! which values are in each other's way, bit by bit -/
theorem mz_wU_bit {c : Prop} {v u : Nat} {w : Nat → Int32} (hv : v < 32) (hu : u < 32) (hne : ¬ u = v) (x i : Nat) : bg_t (mz_wU c v u w x) i = true ↔ bg_t (w x) i = true ∨ (c ∧ ((x = v ∧ i = u) ∨ (x = u ∧ i = v))) := by
  by_cases hc : c
  · rw [← mz_wU_t hc]
    by_cases hx : x = u
    · subst hx
      rw [pk_us, pk_un hne, bg_or, bg_bit hv, Bool.or_eq_true, decide_eq_true_iff]
      constructor
      · rintro (h | h)
        · exact Or.inl h
        · exact Or.inr ⟨hc, Or.inr ⟨rfl, h⟩⟩
      · rintro (h | ⟨-, ⟨h, -⟩ | ⟨-, h⟩⟩)
        · exact Or.inl h
        · exact absurd h hne
        · exact Or.inr h
    · rw [pk_un hx]
      by_cases hx2 : x = v
      · subst hx2
        rw [pk_us, bg_or, bg_bit hu, Bool.or_eq_true, decide_eq_true_iff]
        constructor
        · rintro (h | h)
          · exact Or.inl h
          · exact Or.inr ⟨hc, Or.inl ⟨rfl, h⟩⟩
        · rintro (h | ⟨-, ⟨-, h⟩ | ⟨h, -⟩⟩)
          · exact Or.inl h
          · exact Or.inr h
          · exact absurd h hx
      · rw [pk_un hx2]
        constructor
        · exact Or.inl
        · rintro (h | ⟨-, ⟨h, -⟩ | ⟨h, -⟩⟩)
          · exact h
          · exact absurd h hx2
          · exact absurd h hx
  · rw [← mz_wU_f hc]
    constructor
    · exact Or.inl
    · rintro (h | h)
      · exact h
      · exact absurd h.1 hc
theorem mz_wL_bit {op fb cl bh : Nat → Int32} {s v : Nat} (hv : v < 32) (x i : Nat) : ∀ (m u : Nat) (w : Nat → Int32), u + m ≤ 32 → (bg_t (mz_wL op fb cl bh s v m u w x) i = true ↔ bg_t (w x) i = true ∨ ∃ y, u ≤ y ∧ y < u + m ∧ mz_cC op fb cl bh s v y ∧ ((x = v ∧ i = y) ∨ (x = y ∧ i = v)))
  | 0, u, w, _ => by
    constructor
    · exact Or.inl
    · rintro (h | ⟨y, h1, h2, -⟩)
      · exact h
      · omega
  | m + 1, u, w, hm => by
    show bg_t (mz_wL op fb cl bh s v m (u + 1) (mz_wU (mz_cC op fb cl bh s v u) v u w) x) i = true ↔ _
    rw [mz_wL_bit hv x i m (u + 1) _ (by omega)]
    by_cases hne : u = v
    · have hc : ¬ mz_cC op fb cl bh s v u := fun z => z.1 hne
      rw [← mz_wU_f hc]
      constructor
      · rintro (h | ⟨y, h1, h2, h3⟩)
        · exact Or.inl h
        · exact Or.inr ⟨y, by omega, by omega, h3⟩
      · rintro (h | ⟨y, h1, h2, h3⟩)
        · exact Or.inl h
        · refine Or.inr ⟨y, ?_, by omega, h3⟩
          have : ¬ y = u := fun z => hc (z ▸ h3.1)
          omega
    · rw [mz_wU_bit hv (by omega) hne]
      constructor
      · rintro ((h | h) | ⟨y, h1, h2, h3⟩)
        · exact Or.inl h
        · exact Or.inr ⟨u, by omega, by omega, h⟩
        · exact Or.inr ⟨y, by omega, by omega, h3⟩
      · rintro (h | ⟨y, h1, h2, h3⟩)
        · exact Or.inl (Or.inl h)
        · by_cases q : y = u
          · subst q; exact Or.inl (Or.inr h3)
          · exact Or.inr ⟨y, by omega, by omega, h3⟩
/-- step s puts a and y into each other's way: seen from x, bit i -/
def mz_wB (nv : Nat) (op fa fb cl bh : Nat → Int32) (s x i : Nat) : Prop := ∃ a y, a < nv ∧ y < nv ∧ mz_anew op fa s = nI a ∧ mz_cC op fb cl bh s a y ∧ ((x = a ∧ i = y) ∨ (x = y ∧ i = a))
theorem mz_mW_bit {nv : Nat} {op fa fb cl bh w : Nat → Int32} {s : Nat} (hnv : nv ≤ 24) (han : mz_anew op fa s = (-1) ∨ ∃ a, a < nv ∧ mz_anew op fa s = nI a) (x i : Nat) : bg_t (mz_mW nv op fa fb cl bh s w x) i = true ↔ bg_t (w x) i = true ∨ mz_wB nv op fa fb cl bh s x i := by
  rcases han with e | ⟨a, ha, e⟩
  · rw [← mz_mW_m e]
    constructor
    · exact Or.inl
    · rintro (h | ⟨a, y, ha, -, h2, -⟩)
      · exact h
      · rw [e] at h2; exact absurd h2.symm (nI_nm1 (by omega))
  · rw [← mz_mW_n e (by omega), mz_wL_bit (by omega) x i nv 0 w (by omega)]
    constructor
    · rintro (h | ⟨y, -, h1, h2, h3⟩)
      · exact Or.inl h
      · exact Or.inr ⟨a, y, ha, by omega, e, h2, h3⟩
    · rintro (h | ⟨a', y, ha', hy, h1, h2, h3⟩)
      · exact Or.inl h
      · have : a = a' := (nI_eq (by omega) (by omega)).mp (e.symm.trans h1)
        subst this
        exact Or.inr ⟨y, by omega, by omega, h2, h3⟩
theorem mz_meetW_bit {nv ns : Nat} {op fa fb cl bh : Nat → Int32} (hnv : nv ≤ 24) (han : ∀ s, s < ns → mz_anew op fa s = (-1) ∨ ∃ a, a < nv ∧ mz_anew op fa s = nI a) (x i : Nat) : ∀ (m s : Nat) (w : Nat → Int32), s + m ≤ ns → (bg_t (mz_meetW nv op fa fb cl bh m s w x) i = true ↔ bg_t (w x) i = true ∨ ∃ y, s ≤ y ∧ y < s + m ∧ mz_wB nv op fa fb cl bh y x i)
  | 0, s, w, _ => by
    constructor
    · exact Or.inl
    · rintro (h | ⟨y, h1, h2, -⟩)
      · exact h
      · omega
  | m + 1, s, w, hm => by
    show bg_t (mz_meetW nv op fa fb cl bh m (s + 1) (mz_mW nv op fa fb cl bh s w) x) i = true ↔ _
    rw [mz_meetW_bit hnv han x i m (s + 1) _ (by omega), mz_mW_bit hnv (han s (by omega))]
    constructor
    · rintro ((h | h) | ⟨y, h1, h2, h3⟩)
      · exact Or.inl h
      · exact Or.inr ⟨s, by omega, by omega, h⟩
      · exact Or.inr ⟨y, by omega, by omega, h3⟩
    · rintro (h | ⟨y, h1, h2, h3⟩)
      · exact Or.inl (Or.inl h)
      · by_cases q : y = s
        · subst q; exact Or.inl (Or.inr h3)
        · exact Or.inr ⟨y, by omega, by omega, h3⟩
/-- the ways of values that there are -/
theorem mz_W_bit {nv ns : Nat} {A : Nat → Nat → Int32} {bh : Nat → Int32} (hnv : nv ≤ 24) (han : ∀ s, s < ns → mz_anew (A m_ops) (A m_first) s = (-1) ∨ ∃ a, a < nv ∧ mz_anew (A m_ops) (A m_first) s = nI a) {x : Nat} (hx : x < nv) (i : Nat) : bg_t (mz_W nv ns A bh x) i = true ↔ ∃ y, y < ns ∧ mz_wB nv (A m_ops) (A m_first) (A m_second) (A m_classes) bh y x i := by
  unfold mz_W
  rw [mz_meetW_bit hnv han x i ns 0 _ (by omega), mz_fill_at, if_pos (by omega), bg_0]
  constructor
  · rintro (h | ⟨y, -, h2, h3⟩)
    · cases h
    · exact ⟨y, by omega, h3⟩
  · rintro ⟨y, h2, h3⟩
    exact Or.inr ⟨y, by omega, by omega, h3⟩
theorem mz_wB_sym {nv : Nat} {op fa fb cl bh : Nat → Int32} {s x i : Nat} (h : mz_wB nv op fa fb cl bh s x i) : mz_wB nv op fa fb cl bh s i x ∧ ¬ i = x ∧ x < nv ∧ i < nv := by
  obtain ⟨a, y, ha, hy, h1, h2, h3⟩ := h
  have hne := h2.1
  refine ⟨⟨a, y, ha, hy, h1, h2, by omega⟩, by omega, by omega, by omega⟩
/-- homes of values in each other's way are apart, as far as they are given -/
def mz_apart (nv : Nat) (W hm : Nat → Int32) : Prop := ∀ u v, u < nv → v < nv → bg_t (W u) v = true → ¬ hm u = (-1) → ¬ hm v = (-1) → ¬ hm u = hm v
theorem mz_home_F {R x : Nat} {J F : Nat → Prop} (h : mz_home R J F x) : F x := by
  rcases h with ⟨-, ⟨-, h⟩, -⟩ | ⟨-, ⟨-, h, -⟩ | ⟨-, -, h, -⟩⟩ <;> exact h
theorem mz_set_apart {nv ns : Nat} {op fa fb cl rg W od : Nat → Int32} (hnv : nv ≤ 24) (hsym : ∀ u v, u < nv → v < nv → bg_t (W u) v = true → bg_t (W v) u = true ∧ ¬ u = v) : ∀ (m i : Nat) (hm hm' : Nat → Int32), mz_apart nv W hm → mz_set nv ns op fa fb cl rg W od m i hm hm' → mz_apart nv W hm'
  | 0, i, hm, hm', h0, h => by
    have h : hm' = hm := h
    subst h
    exact h0
  | m + 1, i, hm, hm', h0, h => by
    obtain ⟨t, cc, R, x, ht, hcc, hR, et, ec, eR, hx, h⟩ := h
    refine mz_set_apart hnv hsym m (i + 1) _ hm' ?_ h
    have hF : mz_free nv (W t) hm (nI x) := mz_home_F hx
    have hf : ∀ u, u < nv → bg_t (W t) u = true → ¬ hm u = nI x := by
      intro u hu hb
      rcases hF u hu with q | q
      · exact absurd hb ((bg_sh0 (by omega)).mp q)
      · exact q
    intro u v hu hv hb h1 h2
    have hs := hsym u v hu hv hb
    by_cases qu : u = t
    · subst qu
      have qv : ¬ v = u := fun z => hs.2 z.symm
      rw [pk_us, pk_un qv]
      exact fun z => hf v hv hb z.symm
    · by_cases qv : v = t
      · subst qv
        rw [pk_us, pk_un qu]
        exact hf u hu hs.1
      · rw [pk_un qu] at h1 ⊢
        rw [pk_un qv] at h2 ⊢
        exact h0 u v hu hv hb h1 h2
theorem mz_none_at : ∀ (m v : Nat) (f : Nat → Int32) (s : Nat), mz_none m v f s = if v ≤ s ∧ s < v + m then (-1) else f s
  | 0, v, f, s => by rw [if_neg (by omega)]; rfl
  | m + 1, v, f, s => by
    show mz_none m (v + 1) (upd f v (-1)) s = _
    rw [mz_none_at m (v + 1) _ s]
    by_cases q : s = v
    · subst q
      rw [if_neg (by omega), if_pos (by omega), pk_us]
    · by_cases h : v ≤ s ∧ s < v + (m + 1)
      · rw [if_pos h, if_pos (by omega)]
      · rw [if_neg h, if_neg (by omega), pk_un q]
theorem mz_stl_apart {nv ns : Nat} {A A' : Nat → Nat → Int32} (hnv : nv ≤ 24) (han : ∀ s, s < ns → mz_anew (A m_ops) (A m_first) s = (-1) ∨ ∃ a, a < nv ∧ mz_anew (A m_ops) (A m_first) s = nI a) (h : mz_stl nv ns A A') : ∀ u v, u < nv → v < nv → bg_t (A' m_way u) v = true → ¬ A' m_homes u = A' m_homes v := by
  have hg := mz_stl_hg hnv h
  obtain ⟨k, hm, -, h2, rfl⟩ := h
  have hsym : ∀ u v, u < nv → v < nv → bg_t (mz_W nv ns A (mz_fl ns A k).2 u) v = true → bg_t (mz_W nv ns A (mz_fl ns A k).2 v) u = true ∧ ¬ u = v := by
    intro u v hu hv hb
    rw [mz_W_bit hnv han hu] at hb
    obtain ⟨y, hy, hb⟩ := hb
    have := mz_wB_sym hb
    rw [mz_W_bit hnv han hv]
    exact ⟨⟨y, hy, this.1⟩, fun z => this.2.1 z.symm⟩
  have hap := mz_set_apart hnv hsym nv 0 (mz_N nv A) hm (fun u v hu hv hb h1 h2 => absurd (by unfold mz_N; rw [mz_none_at, if_pos (by omega)]) h1) h2
  intro u v hu hv hb
  have hne : ∀ x, x < nv → ¬ hm x = (-1) := by
    intro x hx z
    obtain ⟨q, hq, e⟩ := hg x hx
    have e : hm x = nI q := e
    rw [e] at z
    exact nI_nm1 (by omega) z
  exact hap u v hu hv hb (hne u hu) (hne v hv)
theorem mz_stl_lv {nv ns : Nat} {A A' : Nat → Nat → Int32} (hnv : nv ≤ 24) (hns : ns ≤ 60) (hsw : ∀ s, s < ns → mz_sw nv (A m_ops s) (A m_first s) (A m_second s) (A m_third s)) (h : mz_stl nv ns A A') : pz_lv nv ns (A m_ops) (A m_first) (A m_second) (A m_third) (A m_classes) (A' m_homes) (fun s v => s < ns ∧ bg_t (A' m_before s) v = true) := by
  have han : ∀ s, s < ns → mz_anew (A m_ops) (A m_first) s = (-1) ∨ ∃ a, a < nv ∧ mz_anew (A m_ops) (A m_first) s = nI a := fun s hs => mz_sw_anew (hsw s hs)
  have hap := mz_stl_apart hnv han h
  obtain ⟨k, hm, hk, h2, rfl⟩ := h
  have hfx := mz_fl_fix hk
  refine ⟨fun s v hs hT => ⟨hs, fx_take hnv hns hsw hfx hs hT⟩, fun s s' v hs hv hsuc hl ha => ⟨hs, fx_keep hnv hns hsw hfx hs (by omega) (fx_suc hnv hns hsw hfx hs hl.1 hsuc hl.2) ha⟩, fun s a v hs ha hv han2 hl hne hmv hz => ?_, fun s v hs hl => by have := hl.1; omega⟩
  refine hap a v ha hv ?_ hz.2.symm
  show bg_t (mz_W nv ns A (mz_fl ns A k).2 a) v = true
  rw [mz_W_bit hnv han ha]
  have h6 : ¬ A m_ops s = nI 8 ∧ ¬ A m_ops s = nI 10 := by
    constructor <;>
    · intro e
      unfold mz_anew at han2
      rw [e, if_pos (by decide)] at han2
      exact nI_nm1 (by omega) han2.symm
  exact ⟨s, hs, a, v, ha, hv, han2, ⟨hne, hz.1, (bg_sh1 (by omega)).mpr (fx_suc hnv hns hsw hfx hs hl.1 (Or.inl ⟨h6.1, h6.2, rfl⟩) hl.2), fun z => hmv ⟨z.1, z.2.symm⟩⟩, Or.inl ⟨rfl, rfl⟩⟩
