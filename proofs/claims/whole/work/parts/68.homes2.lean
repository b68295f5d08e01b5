/-! the homes of the component and those of the reference -/
def mz_h3 (x : Int32) : Prop := ∃ h, (h < 8 ∨ (100 ≤ h ∧ h ≤ 123)) ∧ x = nI h
theorem mz_hasfree3 {nv t : Nat} (hnv : nv ≤ 24) (ht : t < nv) {w : Int32} {hm : Nat → Int32} (hirr : ¬ bg_t w t = true) : ∃ k, 100 ≤ k ∧ k ≤ 123 ∧ mz_free nv w hm (nI k) := by
  obtain ⟨k, h1, h2⟩ := pg_gap (nv - 1) (fun u => (hm (if u < t then u else u + 1)).toNatClampNeg - 100)
  refine ⟨100 + k, by omega, by omega, fun u hu => ?_⟩
  by_cases q : u = t
  · subst q; exact Or.inl ((bg_sh0 (by omega)).mpr hirr)
  · refine Or.inr fun z => ?_
    by_cases q2 : u < t
    · have h3 := h2 u (by omega)
      rw [if_pos q2, z, nI_clamp (by omega)] at h3
      omega
    · have h3 := h2 (u - 1) (by omega)
      rw [if_neg (by omega), show u - 1 + 1 = u by omega, z, nI_clamp (by omega)] at h3
      omega
theorem mz_home_rg3 {nv R x t : Nat} {J : Nat → Prop} {w : Int32} {hm : Nat → Int32} (hnv : nv ≤ 24) (hR : R ≤ 8) (ht : t < nv) (hirr : ¬ bg_t w t = true) (h : mz_home R J (fun k => mz_free nv w hm (nI k)) x) : x < 8 ∨ (100 ≤ x ∧ x ≤ 123) := by
  rcases h with ⟨h, -⟩ | ⟨-, ⟨h, -⟩ | ⟨-, h1, -, h2⟩⟩
  · exact Or.inl (by omega)
  · exact Or.inl (by omega)
  · obtain ⟨k, k1, k2, k3⟩ := mz_hasfree3 (hm := hm) hnv ht hirr
    by_cases q : x ≤ 123
    · exact Or.inr ⟨h1, q⟩
    · exact absurd k3 (h2 k k1 (by omega))
theorem cz_po_bit {sl : Bool} {fr so : Int32} {pl : Nat → Int32} {k : Nat} (hk : k < 32) : ∀ (m v : Nat) (b : Int32), (∀ u, v ≤ u → u < v + m → cz_pc sl pl so u → ∃ h, h < 32 ∧ pl u - fr = nI h) → (bg_t (cz_po sl fr pl so m v b) k = true ↔ bg_t b k = true ∨ ∃ u, v ≤ u ∧ u < v + m ∧ cz_pc sl pl so u ∧ pl u - fr = nI k)
  | 0, v, b, _ => by
    constructor
    · exact Or.inl
    · rintro (h | ⟨u, h1, h2, -⟩)
      · exact h
      · omega
  | m + 1, v, b, hh => by
    show bg_t (cz_po sl fr pl so m (v + 1) _) k = true ↔ _
    rw [cz_po_bit hk m (v + 1) _ (fun u h1 h2 => hh u (by omega) (by omega))]
    by_cases q : cz_pc sl pl so v
    · rw [if_pos q]
      obtain ⟨h, h1, h2⟩ := hh v (Nat.le_refl _) (by omega) q
      rw [bg_or, h2, bg_bit h1, Bool.or_eq_true, decide_eq_true_iff]
      constructor
      · rintro ((z | z) | ⟨u, z1, z2, z3⟩)
        · exact Or.inl z
        · exact Or.inr ⟨v, Nat.le_refl _, by omega, q, by rw [h2, z]⟩
        · exact Or.inr ⟨u, by omega, by omega, z3⟩
      · rintro (z | ⟨u, z1, z2, z3, z4⟩)
        · exact Or.inl (Or.inl z)
        · by_cases e : u = v
          · subst e
            rw [h2, nI_eq (by omega) (by omega)] at z4
            exact Or.inl (Or.inr z4.symm)
          · exact Or.inr ⟨u, by omega, by omega, z3, z4⟩
    · rw [if_neg q]
      constructor
      · rintro (z | ⟨u, z1, z2, z3⟩)
        · exact Or.inl z
        · exact Or.inr ⟨u, by omega, by omega, z3⟩
      · rintro (z | ⟨u, z1, z2, z3, z4⟩)
        · exact Or.inl z
        · have e : ¬ u = v := fun e => q (e ▸ z3)
          exact Or.inr ⟨u, by omega, by omega, z3, z4⟩
section HOMES2
variable {nv : Nat} {pl : Nat → Int32}
/-- homes as far as they are given -/
def cz_hs (nv : Nat) (pl : Nat → Int32) : Prop := ∀ u, u < nv → pl u = (-1) ∨ mz_h3 (pl u)
theorem cz_lt100 {h : Nat} (hh : h < 2 ^ 31) : nI h < nI 100 ↔ h < 100 := nI_ltI hh (by omega)
theorem cz_po0 (hnv : nv ≤ 24) (hp : cz_hs nv pl) {so : Int32} (hso : bg_lo nv so) {k : Nat} (hk : k < 32) : bg_t (cz_po false (nI 0) pl so 24 0 (nI 0)) k = true ↔ k < 100 ∧ ∃ u, u < nv ∧ bg_t so u = true ∧ pl u = nI k := by
  have e0 : ∀ x : Int32, x - nI 0 = x := fun x => Int32.sub_zero x
  rw [cz_po_bit hk 24 0 _ (fun u _ _ hc => by
    have hu := hso u hc.1
    rcases hp u hu with z | ⟨h, hh, z⟩
    · exact absurd z hc.2.1
    · refine ⟨h, ?_, by rw [e0, z]⟩
      have h3 := hc.2.2
      rw [z, cz_lt100 (by omega)] at h3
      have : ¬ (¬ h < 100) := fun q => absurd (h3.mp q) (by decide)
      omega), bg_0]
  constructor
  · rintro (h | ⟨u, -, h2, h3, h4⟩)
    · cases h
    · rw [e0] at h4
      exact ⟨by omega, u, hso u h3.1, h3.1, h4⟩
  · rintro ⟨h1, u, h2, h3, h4⟩
    refine Or.inr ⟨u, Nat.zero_le _, by omega, ⟨h3, by rw [h4]; exact nI_nm1 (by omega), ?_⟩, by rw [e0, h4]⟩
    rw [h4, cz_lt100 (by omega)]
    exact ⟨fun z => absurd h1 z, fun z => absurd z (by decide)⟩
theorem cz_po1 (hnv : nv ≤ 24) (hp : cz_hs nv pl) {so : Int32} (hso : bg_lo nv so) {k : Nat} (hk : k < 32) : bg_t (cz_po true (nI 100) pl so 24 0 (nI 0)) k = true ↔ ∃ u, u < nv ∧ bg_t so u = true ∧ pl u = nI (100 + k) := by
  have hv : ∀ u, cz_pc true pl so u → ∃ h, 100 ≤ h ∧ h ≤ 123 ∧ pl u = nI h := fun u hc => by
    have hu := hso u hc.1
    rcases hp u hu with z | ⟨h, hh, z⟩
    · exact absurd z hc.2.1
    · have h3 := hc.2.2
      rw [z, cz_lt100 (by omega)] at h3
      have := h3.mpr rfl
      exact ⟨h, by omega, by omega, z⟩
  rw [cz_po_bit hk 24 0 _ (fun u _ _ hc => by
    obtain ⟨h, h1, h2, h3⟩ := hv u hc
    exact ⟨h - 100, by omega, by rw [h3, pk_sub h1]⟩), bg_0]
  constructor
  · rintro (h | ⟨u, -, h2, h3, h4⟩)
    · cases h
    · obtain ⟨h, z1, z2, z3⟩ := hv u h3
      refine ⟨u, hso u h3.1, h3.1, ?_⟩
      rw [z3, pk_sub z1, nI_eq (by omega) (by omega)] at h4
      rw [z3]
      exact congrArg nI (by omega)
  · rintro ⟨u, h2, h3, h4⟩
    refine Or.inr ⟨u, Nat.zero_le _, by omega, ⟨h3, by rw [h4]; exact nI_nm1 (by omega), ?_⟩, by rw [h4, pk_sub (by omega)]; exact congrArg nI (by omega)⟩
    rw [h4, cz_lt100 (by omega)]
    exact ⟨fun _ => rfl, fun _ => by omega⟩
theorem cz_mask : ∀ R : Fin 9, ∀ k : Fin 32, bg_t ((nI 1 <<< (nI R.val &&& 31)) - (nI 1)) k.val = decide (k.val < R.val) := by decide +kernel
theorem cz_fr_bit (hnv : nv ≤ 24) (hp : cz_hs nv pl) {wy : Int32} (hwy : bg_lo nv wy) {R k : Nat} (hR : R ≤ 8) (hk : k < 32) : bg_t (cz_fr pl (nI R) wy) k = true ↔ k < R ∧ ∀ u, u < nv → bg_t wy u = true → ¬ pl u = nI k := by
  unfold cz_fr
  rw [bg_and, bg_not _ hk, Bool.and_eq_true, cz_mask ⟨R, by omega⟩ ⟨k, hk⟩, decide_eq_true_iff]
  constructor
  · rintro ⟨h1, h2⟩
    have h1 : k < R := h1
    refine ⟨h1, fun u hu hb z => ?_⟩
    rw [(cz_po0 hnv hp hwy hk).mpr ⟨by omega, u, hu, hb, z⟩] at h2
    cases h2
  · rintro ⟨h1, h2⟩
    refine ⟨h1, ?_⟩
    cases hb : bg_t (cz_po false (nI 0) pl wy 24 0 (nI 0)) k with
    | false => rfl
    | true =>
      obtain ⟨-, u, hu, hb2, z⟩ := (cz_po0 hnv hp hwy hk).mp hb
      exact absurd z (h2 u hu hb2)
theorem cz_sr_bit (hnv : nv ≤ 24) (hp : cz_hs nv pl) {wy jv : Int32} (hwy : bg_lo nv wy) (hjv : bg_lo nv jv) {R k : Nat} (hR : R ≤ 8) (hk : k < 32) : bg_t (cz_sr pl (nI R) wy jv) k = true ↔ (k < R ∧ ∀ u, u < nv → bg_t wy u = true → ¬ pl u = nI k) ∧ ∃ u, u < nv ∧ bg_t jv u = true ∧ pl u = nI k := by
  unfold cz_sr
  rw [bg_and, Bool.and_eq_true, cz_fr_bit hnv hp hwy hR hk, cz_po0 hnv hp hjv hk]
  constructor
  · rintro ⟨h1, -, h2⟩; exact ⟨h1, h2⟩
  · rintro ⟨h1, h2⟩; exact ⟨h1, by omega, h2⟩
theorem cz_lo_u {b : Int32} {x : Nat} (hx : x < 32) (h1 : bg_t b x = true) (h2 : ∀ j, j < x → ¬ bg_t b j = true) : cz_lo b 32 0 = x := by
  rcases cz_lo_s (b := b) 32 0 with ⟨-, h3⟩ | ⟨-, -, h4, h5⟩
  · exact absurd h1 (h3 x (Nat.zero_le _) (by omega))
  · by_cases q : cz_lo b 32 0 < x
    · exact absurd h4 (h2 _ q)
    · by_cases q2 : x < cz_lo b 32 0
      · exact absurd h1 (h5 x (Nat.zero_le _) q2)
      · omega
theorem bg_zero {b : Int32} (h : ∀ i, i < 32 → ¬ bg_t b i = true) : b = 0 := bg_ext (y := nI 0) fun i hi => by
  rw [bg_0]
  cases hb : bg_t b i with
  | false => rfl
  | true => exact absurd hb (h i hi)
theorem bg_nz {b : Int32} {i : Nat} (h : bg_t b i = true) : ¬ b = 0 := fun z => by
  rw [z, show (0 : Int32) = nI 0 from rfl, bg_0] at h
  cases h
/-- placeFor finds what the reference finds -/
theorem cz_pf_e (hnv : nv ≤ 24) (hp : cz_hs nv pl) {wy jv : Int32} (hwy : bg_lo nv wy) (hjv : bg_lo nv jv) {R x : Nat} (hR : R ≤ 8) {J F : Nat → Prop} (hF : ∀ k, F k ↔ ∀ u, u < nv → bg_t wy u = true → ¬ pl u = nI k) (hJ : ∀ k, k < R → (J k ↔ ∃ u, u < nv ∧ bg_t jv u = true ∧ pl u = nI k)) (hx : x < 8 ∨ (100 ≤ x ∧ x ≤ 123)) (h : mz_home R J F x) : cz_pf pl (nI R) wy jv = x := by
  have sb : ∀ k, k < 32 → (bg_t (cz_sr pl (nI R) wy jv) k = true ↔ k < R ∧ J k ∧ F k) := fun k hk => by
    rw [cz_sr_bit hnv hp hwy hjv hR hk]
    constructor
    · rintro ⟨⟨h1, h2⟩, h3⟩; exact ⟨h1, (hJ k h1).mpr h3, (hF k).mpr h2⟩
    · rintro ⟨h1, h2, h3⟩; exact ⟨⟨h1, (hF k).mp h3⟩, (hJ k h1).mp h2⟩
  have fb : ∀ k, k < 32 → (bg_t (cz_fr pl (nI R) wy) k = true ↔ k < R ∧ F k) := fun k hk => by
    rw [cz_fr_bit hnv hp hwy hR hk, hF k]
  unfold cz_pf
  rcases h with ⟨h1, h2, h3⟩ | ⟨hn, ⟨h1, h2, h3⟩ | ⟨h0, h1, h2, h3⟩⟩
  · have hb := (sb x (by omega)).mpr ⟨h1, h2⟩
    rw [if_pos (bg_nz hb)]
    exact cz_lo_u (by omega) hb (fun j hj z => h3 j hj ((sb j (by omega)).mp z).2)
  · have hz : cz_sr pl (nI R) wy jv = 0 := bg_zero fun i hi z => by
      obtain ⟨z1, z2⟩ := (sb i hi).mp z
      exact hn i z1 z2
    have hb := (fb x (by omega)).mpr ⟨h1, h2⟩
    rw [if_neg (fun z => z hz), if_pos (bg_nz hb)]
    exact cz_lo_u (by omega) hb (fun j hj z => h3 j hj ((fb j (by omega)).mp z).2)
  · have hz : cz_sr pl (nI R) wy jv = 0 := bg_zero fun i hi z => by
      obtain ⟨z1, z2⟩ := (sb i hi).mp z
      exact hn i z1 z2
    have hz2 : cz_fr pl (nI R) wy = 0 := bg_zero fun i hi z => by
      obtain ⟨z1, z2⟩ := (fb i hi).mp z
      exact h0 i z1 z2
    rw [if_neg (fun z => z hz), if_neg (fun z => z hz2)]
    have lb : ∀ k, k < 32 → (bg_t ((cz_po true (nI 100) pl wy 24 0 (nI 0)) ^^^ (-1)) k = true ↔ F (100 + k)) := fun k hk => by
      rw [bg_not _ hk, hF]
      constructor
      · intro z u hu hb e
        rw [(cz_po1 hnv hp hwy hk).mpr ⟨u, hu, hb, e⟩] at z
        cases z
      · intro z
        cases hb : bg_t (cz_po true (nI 100) pl wy 24 0 (nI 0)) k with
        | false => rfl
        | true =>
          obtain ⟨u, hu, hb2, e⟩ := (cz_po1 hnv hp hwy hk).mp hb
          exact absurd e (z u hu hb2)
    rw [cz_lo_u (x := x - 100) (by omega) ((lb (x - 100) (by omega)).mpr (by rw [show 100 + (x - 100) = x by omega]; exact h2)) (fun j hj z => h3 (100 + j) (by omega) (by omega) ((lb j (by omega)).mp z))]
    omega
end HOMES2
/-! joined values -/
theorem cz_j1_bit {nv s : Nat} {op fa fb fc cl j : Nat → Int32} (hnv : nv ≤ 24) (hsw : mz_sw nv (op s) (fa s) (fb s) (fc s)) (x i : Nat) (hx : x < nv) (hi : i < 32) : bg_t (cz_j1 op fa fb cl s j x) i = true ↔ bg_t (j x) i = true ∨ (mz_jn op fa fb (nI x) (nI i) s ∧ i < nv ∧ cl x = cl i) := by
  by_cases ho : op s = nI 1
  · obtain ⟨k, hk, ek, h3, h4, -⟩ := hsw
    have hk1 : k = 1 := (nI_eq (by omega) (by omega)).mp (ek.symm.trans ho)
    obtain ⟨a, ha, ea⟩ := h3 (by omega)
    obtain ⟨b, hb, eb⟩ := h4 (by omega)
    have hjn : mz_jn op fa fb (nI x) (nI i) s ↔ (a = x ∧ b = i) ∨ (a = i ∧ b = x) := by
      unfold mz_jn
      rw [ea, eb, nI_eq (by omega) (by omega), nI_eq (by omega) (by omega), nI_eq (by omega) (by omega), nI_eq (by omega) (by omega)]
      exact ⟨fun z => z.2, fun z => ⟨ho, z⟩⟩
    unfold cz_j1
    rw [ea, eb, nI_clamp (by omega), nI_clamp (by omega), hjn]
    by_cases hc : cl a = cl b
    · rw [if_pos ⟨ho, hc⟩]
      by_cases q : x = b
      · subst q
        rw [pk_us, bg_or, bg_bit (by omega), Bool.or_eq_true, decide_eq_true_iff]
        by_cases q2 : x = a
        · subst q2
          rw [pk_us, bg_or, bg_bit (by omega), Bool.or_eq_true, decide_eq_true_iff]
          constructor
          · rintro ((z | z) | z)
            · exact Or.inl z
            · exact Or.inr ⟨by omega, by omega, by rw [z]⟩
            · exact Or.inr ⟨by omega, by omega, by rw [z]⟩
          · rintro (z | ⟨z, -, -⟩)
            · exact Or.inl (Or.inl z)
            · exact Or.inr (by omega)
        · rw [pk_un q2]
          constructor
          · rintro (z | z)
            · exact Or.inl z
            · exact Or.inr ⟨by omega, by omega, by rw [z, hc]⟩
          · rintro (z | ⟨z, -, -⟩)
            · exact Or.inl z
            · exact Or.inr (by omega)
      · rw [pk_un q]
        by_cases q2 : x = a
        · subst q2
          rw [pk_us, bg_or, bg_bit (by omega), Bool.or_eq_true, decide_eq_true_iff]
          constructor
          · rintro (z | z)
            · exact Or.inl z
            · exact Or.inr ⟨by omega, by omega, by rw [z, hc]⟩
          · rintro (z | ⟨z, -, -⟩)
            · exact Or.inl z
            · exact Or.inr (by omega)
        · rw [pk_un q2]
          constructor
          · exact Or.inl
          · rintro (z | ⟨z, -, -⟩)
            · exact z
            · omega
    · rw [if_neg (fun z => hc z.2)]
      constructor
      · exact Or.inl
      · rintro (z | ⟨z, -, z2⟩)
        · exact z
        · exfalso
          rcases z with ⟨e1, e2⟩ | ⟨e1, e2⟩
          · subst e1; subst e2; exact hc z2
          · subst e1; subst e2; exact hc z2.symm
  · unfold cz_j1
    rw [if_neg (fun z => ho z.1)]
    constructor
    · exact Or.inl
    · rintro (z | ⟨z, -⟩)
      · exact z
      · exact absurd z.1 ho
theorem cz_jj_bit {nv ns : Nat} {op fa fb fc cl : Nat → Int32} (hnv : nv ≤ 24) (hsw : ∀ s, s < ns → mz_sw nv (op s) (fa s) (fb s) (fc s)) (x i : Nat) (hx : x < nv) (hi : i < 32) : ∀ (m s : Nat) (j : Nat → Int32), s + m ≤ ns → (bg_t (cz_jj op fa fb cl m s j x) i = true ↔ bg_t (j x) i = true ∨ ((∃ y, s ≤ y ∧ y < s + m ∧ mz_jn op fa fb (nI x) (nI i) y) ∧ i < nv ∧ cl x = cl i))
  | 0, s, j, _ => by
    constructor
    · exact Or.inl
    · rintro (h | ⟨⟨y, h1, h2, -⟩, -⟩)
      · exact h
      · omega
  | m + 1, s, j, hm => by
    show bg_t (cz_jj op fa fb cl m (s + 1) (cz_j1 op fa fb cl s j) x) i = true ↔ _
    rw [cz_jj_bit hnv hsw x i hx hi m (s + 1) _ (by omega), cz_j1_bit hnv (hsw s (by omega)) x i hx hi]
    constructor
    · rintro ((h | ⟨h1, h2⟩) | ⟨⟨y, h1, h2, h3⟩, h4⟩)
      · exact Or.inl h
      · exact Or.inr ⟨⟨s, by omega, by omega, h1⟩, h2⟩
      · exact Or.inr ⟨⟨y, by omega, by omega, h3⟩, h4⟩
    · rintro (h | ⟨⟨y, h1, h2, h3⟩, h4⟩)
      · exact Or.inl (Or.inl h)
      · by_cases q : y = s
        · subst q; exact Or.inl (Or.inr ⟨h3, h4⟩)
        · exact Or.inr ⟨⟨y, by omega, by omega, h3⟩, h4⟩
/-- the homes are the reference's -/
theorem cz_set_e {nv ns : Nat} {op fa fb cl rg W O wy jn od : Nat → Int32} (hnv : nv ≤ 24) (hwy : cz_eq nv wy W) (hod : cz_eq nv od O) (hW : ∀ t, t < nv → bg_lo nv (W t) ∧ ¬ bg_t (W t) t = true) (hij : mz_ij nv nv O) (hjn : ∀ t u, t < nv → u < 32 → (bg_t (jn t) u = true ↔ mz_joined ns op fa fb (nI t) (nI u) ∧ u < nv ∧ cl t = cl u)) :
    ∀ (m i : Nat) (pl hm hm' : Nat → Int32), i + m = nv → cz_eq nv pl hm → cz_hs nv hm → (∀ j t, i ≤ j → j < nv → t < nv → O j = nI t → hm t = (-1)) → mz_set nv ns op fa fb cl rg W O m i hm hm' → cz_eq nv (cz_set cl rg wy jn od m i pl) hm' ∧ ∀ u, nv ≤ u → hm' u = hm u ∧ cz_set cl rg wy jn od m i pl u = pl u
  | 0, i, pl, hm, hm', _, h, _, _, hs => by
    have hs : hm' = hm := hs
    subst hs
    exact ⟨h, fun u _ => ⟨rfl, rfl⟩⟩
  | m + 1, i, pl, hm, hm', him, h, hhs, hun, hs => by
    obtain ⟨t, cc, R, x, ht, hcc, hR, et, ec, eR, hx, hs⟩ := hs
    have eod : od i = nI t := by rw [hod i (by omega), et]
    obtain ⟨hWl, hWi⟩ := hW t ht
    have hrg := mz_home_rg3 hnv hR ht hWi hx
    have hp : cz_hs nv pl := fun u hu => by rw [h u hu]; exact hhs u hu
    have hut := hun i t (Nat.le_refl _) (by omega) ht et
    have hpf : cz_pf pl (nI R) (wy t) (jn t) = x := by
      refine cz_pf_e hnv hp (by rw [hwy t ht]; exact hWl) (fun u hu => ?_) hR (fun k => ?_) (fun k hk => ?_) hrg hx
      · have h32 : u < 32 := Classical.byContradiction fun z => by rw [bg_hi _ (by omega)] at hu; cases hu
        exact ((hjn t u ht h32).mp hu).2.1
      · constructor
        · intro z u hu hb e
          rw [hwy t ht] at hb
          rcases z u hu with q | q
          · exact absurd hb ((bg_sh0 (by omega)).mp q)
          · exact q (by rw [← h u hu]; exact e)
        · intro z u hu
          by_cases hb : bg_t (W t) u = true
          · exact Or.inr (by rw [← h u hu]; exact z u hu (by rw [hwy t ht]; exact hb))
          · exact Or.inl ((bg_sh0 (by omega)).mpr hb)
      · constructor
        · rintro ⟨u, hu, h1, h2, h3, h4⟩
          exact ⟨u, hu, (hjn t u ht (by omega)).mpr ⟨h4, hu, by rw [h2, ec]⟩, by rw [h u hu, h3]⟩
        · rintro ⟨u, hu, h1, h2⟩
          obtain ⟨h3, -, h4⟩ := (hjn t u ht (by omega)).mp h1
          rw [h u hu] at h2
          refine ⟨u, hu, fun z => ?_, by rw [← h4, ec], h2, h3⟩
          rw [z, hut] at h2
          exact nI_nm1 (by omega) h2.symm
    show cz_eq nv (cz_set cl rg wy jn od m (i + 1) _) hm' ∧ _
    have estep : cz_set cl rg wy jn od (m + 1) i pl = cz_set cl rg wy jn od m (i + 1) (upd pl t (nI x)) := by
      show cz_set cl rg wy jn od m (i + 1) _ = _
      rw [eod, nI_clamp (by omega), ec, nI_clamp (by omega), eR, hpf]
    obtain ⟨r1, r2⟩ := cz_set_e hnv hwy hod hW hij hjn m (i + 1) (upd pl t (nI x)) (upd hm t (nI x)) hm' (by omega) (cz_eq_upd h rfl) (fun u hu => by
        by_cases q : u = t
        · subst q; rw [pk_us]; exact Or.inr ⟨x, hrg, rfl⟩
        · rw [pk_un q]; exact hhs u hu) (fun j t' h1 h2 h3 h4 => by
        have hne : ¬ t' = t := fun z => by
          subst z
          exact hij i j (by omega) h2 (by omega) (by omega) (by omega) (by rw [et, h4])
        rw [pk_un hne]
        exact hun j t' (by omega) h2 h3 h4) hs
    refine ⟨by rw [show cz_set cl rg wy jn od m (i + 1) _ = _ from estep]; exact r1, fun u hu => ?_⟩
    rw [estep]
    obtain ⟨r3, r4⟩ := r2 u hu
    rw [r3, r4, pk_un (by omega), pk_un (by omega)]
    exact ⟨rfl, rfl⟩
