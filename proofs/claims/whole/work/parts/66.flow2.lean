/-! the flow of the component and that of the reference come to the same -/
section FLOW2
variable {ns : Nat} {op fa fb fc : Nat → Int32}
theorem cz_pass_e : ∀ (m : Nat) (f g : Nat → Int32) (mo : Int32), (mz_pass ns op fa fb fc m f g mo).1 = cz_pass ns op fa fb fc m f
  | 0, f, g, mo => rfl
  | m + 1, f, g, mo => cz_pass_e m _ _ _
theorem cz_it_e {f g : Nat → Int32} : ∀ k, (mz_it ns op fa fb fc f g k).1 = cz_it ns op fa fb fc f k
  | 0 => rfl
  | k + 1 => by
    show (mz_pass ns op fa fb fc ns (mz_it ns op fa fb fc f g k).1 (mz_it ns op fa fb fc f g k).2 (nI 0)).1 = _
    rw [cz_pass_e, cz_it_e k]
    rfl
def cz_eq (n : Nat) (f g : Nat → Int32) : Prop := ∀ s, s < n → f s = g s
theorem cz_at_c {f f' : Nat → Int32} (hns : ns ≤ 60) (h : cz_eq ns f f') {x : Int32} (hx : ¬ x < 0) : mz_at ns f x = mz_at ns f' x := by
  unfold mz_at
  by_cases q : nI ns ≤ x
  · rw [if_pos q, if_pos q]
  · rw [if_neg q, if_neg q]
    obtain ⟨j, hj, rfl⟩ := mz_nat (nv := ns) (by omega) ⟨hx, q⟩
    rw [nI_clamp (by omega)]
    exact h j hj
theorem cz_out_c {f f' : Nat → Int32} (hns : ns ≤ 60) (h8 : ∀ s, s < ns → op s = nI 8 → ¬ fa s < 0) (h7 : ∀ s, s < ns → op s = nI 7 → ¬ fc s < 0) (h : cz_eq ns f f') {s : Nat} (hs : s < ns) : mz_out ns op fa fc f s = mz_out ns op fa fc f' s := by
  unfold mz_out
  have e1 : (if op s = nI 8 then mz_at ns f (fa s) else if op s = nI 10 then nI 0 else mz_at ns f (nI (s + 1))) = (if op s = nI 8 then mz_at ns f' (fa s) else if op s = nI 10 then nI 0 else mz_at ns f' (nI (s + 1))) := by
    by_cases q : op s = nI 8
    · rw [if_pos q, if_pos q, cz_at_c hns h (h8 s hs q)]
    · rw [if_neg q, if_neg q, cz_at_c hns h (x := nI (s + 1)) (nI_pos (by omega))]
  have e2 : (if op s = nI 7 then mz_at ns f (fc s) else nI 0) = (if op s = nI 7 then mz_at ns f' (fc s) else nI 0) := by
    by_cases q : op s = nI 7
    · rw [if_pos q, if_pos q, cz_at_c hns h (h7 s hs q)]
    · rw [if_neg q, if_neg q]
  rw [e1, e2]
theorem cz_inn_c {f f' : Nat → Int32} (hns : ns ≤ 60) (h8 : ∀ s, s < ns → op s = nI 8 → ¬ fa s < 0) (h7 : ∀ s, s < ns → op s = nI 7 → ¬ fc s < 0) (h : cz_eq ns f f') {s : Nat} (hs : s < ns) : mz_inn ns op fa fb fc f s = mz_inn ns op fa fb fc f' s := by
  unfold mz_inn
  rw [cz_out_c hns h8 h7 h hs]
theorem cz_eq_upd {n s : Nat} {f f' : Nat → Int32} {x y : Int32} (h : cz_eq n f f') (hxy : x = y) : cz_eq n (upd f s x) (upd f' s y) := by
  intro t ht
  by_cases q : t = s
  · subst q; rw [pk_us, pk_us]; exact hxy
  · rw [pk_un q, pk_un q]; exact h t ht
theorem cz_pass_c (hns : ns ≤ 60) (h8 : ∀ s, s < ns → op s = nI 8 → ¬ fa s < 0) (h7 : ∀ s, s < ns → op s = nI 7 → ¬ fc s < 0) : ∀ (m : Nat) (f f' : Nat → Int32), m ≤ ns → cz_eq ns f f' → cz_eq ns (cz_pass ns op fa fb fc m f) (cz_pass ns op fa fb fc m f')
  | 0, f, f', _, h => h
  | m + 1, f, f', hm, h => cz_pass_c hns h8 h7 m _ _ (by omega) (cz_eq_upd h (cz_inn_c hns h8 h7 h (by omega)))
theorem cz_it_c (hns : ns ≤ 60) (h8 : ∀ s, s < ns → op s = nI 8 → ¬ fa s < 0) (h7 : ∀ s, s < ns → op s = nI 7 → ¬ fc s < 0) {f f' : Nat → Int32} (h : cz_eq ns f f') : ∀ k, cz_eq ns (cz_it ns op fa fb fc f k) (cz_it ns op fa fb fc f' k)
  | 0 => h
  | k + 1 => cz_pass_c hns h8 h7 ns _ _ (Nat.le_refl _) (cz_it_c hns h8 h7 h k)
theorem cz_gr_0 : ∀ (m : Nat) (f : Nat → Int32) (g : Int32), cz_gr ns op fa fb fc m f g = 0 → g = 0 ∧ cz_pass ns op fa fb fc m f = f ∧ ∀ s, s < m → mz_inn ns op fa fb fc f s = f s
  | 0, f, g, h => ⟨h, rfl, fun s hs => absurd hs (Nat.not_lt_zero _)⟩
  | m + 1, f, g, h => by
    obtain ⟨h1, h2, h3⟩ := cz_gr_0 m _ _ h
    unfold cz_g1 at h1
    by_cases q : g = 0
    · rw [if_neg (fun z => z q)] at h1
      by_cases q2 : mz_inn ns op fa fb fc f m = f m
      · have ef : upd f m (mz_inn ns op fa fb fc f m) = f := by rw [q2, upd_i]
        rw [ef] at h2 h3
        refine ⟨q, ?_, fun s hs => ?_⟩
        · show cz_pass ns op fa fb fc m (upd f m (mz_inn ns op fa fb fc f m)) = f
          rw [ef]; exact h2
        · by_cases e : s = m
          · subst e; exact q2
          · exact h3 s (by omega)
      · rw [if_neg q2] at h1; exact absurd h1 (by decide)
    · rw [if_pos q] at h1; exact absurd h1 (by decide)
theorem cz_it_st {f : Nat → Int32} {k : Nat} (h : cz_pass ns op fa fb fc ns (cz_it ns op fa fb fc f k) = cz_it ns op fa fb fc f k) : ∀ d, cz_it ns op fa fb fc f (k + d) = cz_it ns op fa fb fc f k
  | 0 => rfl
  | d + 1 => by
    show cz_pass ns op fa fb fc ns (cz_it ns op fa fb fc f (k + d)) = _
    rw [cz_it_st h d, h]
/-- where both stand still, they are the same -/
theorem cz_same (hns : ns ≤ 60) (h8 : ∀ s, s < ns → op s = nI 8 → ¬ fa s < 0) (h7 : ∀ s, s < ns → op s = nI 7 → ¬ fc s < 0) {f f' : Nat → Int32} (h : cz_eq ns f f') {k k' : Nat} (hk : cz_pass ns op fa fb fc ns (cz_it ns op fa fb fc f k) = cz_it ns op fa fb fc f k) (hk' : cz_pass ns op fa fb fc ns (cz_it ns op fa fb fc f' k') = cz_it ns op fa fb fc f' k') : cz_eq ns (cz_it ns op fa fb fc f (k + 1)) (cz_it ns op fa fb fc f' (k' + 1)) := by
  rw [cz_it_st hk 1, cz_it_st hk' 1, ← cz_it_st hk k', ← cz_it_st hk' k, Nat.add_comm k' k]
  exact cz_it_c hns h8 h7 h (k + k')
/-! it ends soon: no bit but those of values is ever set -/
def bg_lo (n : Nat) (x : Int32) : Prop := ∀ i, bg_t x i = true → i < n
theorem bg_lo_or {n : Nat} {x y : Int32} (hx : bg_lo n x) (hy : bg_lo n y) : bg_lo n (x ||| y) := fun i h => by
  rw [bg_or, Bool.or_eq_true] at h
  exact h.elim (hx i) (hy i)
theorem bg_lo_and {n : Nat} {x y : Int32} (hx : bg_lo n x) : bg_lo n (x &&& y) := fun i h => by
  rw [bg_and, Bool.and_eq_true] at h
  exact hx i h.1
theorem bg_lo_0 {n : Nat} : bg_lo n (nI 0) := fun i h => by rw [bg_0] at h; cases h
theorem bg_lo_bit {nv : Nat} (hnv : nv ≤ 24) {x : Int32} (h : x = (-1) ∨ ∃ a, a < nv ∧ x = nI a) : bg_lo nv (mz_bit x) := by
  intro i hi
  rcases h with rfl | ⟨a, ha, rfl⟩
  · rw [mz_bit_m] at hi; cases hi
  · rw [mz_bit_n (by omega), decide_eq_true_iff] at hi
    omega
theorem bg_lo_at {nv : Nat} {f : Nat → Int32} (hns : ns ≤ 60) (h : ∀ s, s < ns → bg_lo nv (f s)) {x : Int32} (hx : ¬ x < 0) : bg_lo nv (mz_at ns f x) := by
  unfold mz_at
  by_cases q : nI ns ≤ x
  · rw [if_pos q]; exact bg_lo_0
  · rw [if_neg q]
    obtain ⟨j, hj, rfl⟩ := mz_nat (nv := ns) (by omega) ⟨hx, q⟩
    rw [nI_clamp (by omega)]
    exact h j hj
theorem bg_lo_out {nv : Nat} {f : Nat → Int32} (hns : ns ≤ 60) (h8 : ∀ s, s < ns → op s = nI 8 → ¬ fa s < 0) (h7 : ∀ s, s < ns → op s = nI 7 → ¬ fc s < 0) (h : ∀ s, s < ns → bg_lo nv (f s)) {s : Nat} (hs : s < ns) : bg_lo nv (mz_out ns op fa fc f s) := by
  unfold mz_out
  refine bg_lo_or ?_ ?_
  · by_cases q : op s = nI 8
    · rw [if_pos q]; exact bg_lo_at hns h (h8 s hs q)
    · rw [if_neg q]
      by_cases q2 : op s = nI 10
      · rw [if_pos q2]; exact bg_lo_0
      · rw [if_neg q2]; exact bg_lo_at hns h (nI_pos (by omega))
  · by_cases q : op s = nI 7
    · rw [if_pos q]; exact bg_lo_at hns h (h7 s hs q)
    · rw [if_neg q]; exact bg_lo_0
theorem bg_lo_inn {nv : Nat} (hnv : nv ≤ 24) {f : Nat → Int32} (hns : ns ≤ 60) (hsw : ∀ s, s < ns → mz_sw nv (op s) (fa s) (fb s) (fc s)) (h8 : ∀ s, s < ns → op s = nI 8 → ¬ fa s < 0) (h7 : ∀ s, s < ns → op s = nI 7 → ¬ fc s < 0) (h : ∀ s, s < ns → bg_lo nv (f s)) {s : Nat} (hs : s < ns) : bg_lo nv (mz_inn ns op fa fb fc f s) := by
  unfold mz_inn mz_taking
  refine bg_lo_or (bg_lo_or (bg_lo_or bg_lo_0 (bg_lo_bit hnv (mz_sw_tak0 (hsw s hs)))) (bg_lo_bit hnv (mz_sw_tak1 (hsw s hs)))) ?_
  have ho := bg_lo_out (nv := nv) (f := f) hns h8 h7 h hs
  by_cases q : mz_anew op fa s = (-1)
  · rw [if_pos q]; exact ho
  · rw [if_neg q]; exact bg_lo_and ho
theorem bg_lo_pass {nv : Nat} (hnv : nv ≤ 24) (hns : ns ≤ 60) (hsw : ∀ s, s < ns → mz_sw nv (op s) (fa s) (fb s) (fc s)) (h8 : ∀ s, s < ns → op s = nI 8 → ¬ fa s < 0) (h7 : ∀ s, s < ns → op s = nI 7 → ¬ fc s < 0) : ∀ (m : Nat) (f : Nat → Int32), m ≤ ns → (∀ s, s < ns → bg_lo nv (f s)) → ∀ s, s < ns → bg_lo nv (cz_pass ns op fa fb fc m f s)
  | 0, f, _, h => h
  | m + 1, f, hm, h => bg_lo_pass hnv hns hsw h8 h7 m _ (by omega) (fun s hs => by
      by_cases q : s = m
      · subst q; rw [pk_us]; exact bg_lo_inn hnv hns hsw h8 h7 h hs
      · rw [pk_un q]; exact h s hs)
theorem bg_lo_it {nv : Nat} (hnv : nv ≤ 24) (hns : ns ≤ 60) (hsw : ∀ s, s < ns → mz_sw nv (op s) (fa s) (fb s) (fc s)) (h8 : ∀ s, s < ns → op s = nI 8 → ¬ fa s < 0) (h7 : ∀ s, s < ns → op s = nI 7 → ¬ fc s < 0) {f : Nat → Int32} (h : ∀ s, s < ns → bg_lo nv (f s)) : ∀ k s, s < ns → bg_lo nv (cz_it ns op fa fb fc f k s)
  | 0 => h
  | k + 1 => bg_lo_pass hnv hns hsw h8 h7 ns _ (Nat.le_refl _) (bg_lo_it hnv hns hsw h8 h7 h k)
def bg_mm (f : Nat → Int32) : Nat → Nat
  | 0 => 0
  | n + 1 => bg_mm f n + bg_z (f n) 24
theorem bg_mm_le (f : Nat → Int32) : ∀ n, bg_mm f n ≤ 24 * n
  | 0 => Nat.le_refl _
  | n + 1 => by
    have h1 := bg_mm_le f n
    have h2 := bg_z_le (f n) 24
    unfold bg_mm
    omega
theorem bg_mm_mono {f f' : Nat → Int32} : ∀ n, bg_r n f f' → bg_mm f' n ≤ bg_mm f n
  | 0, _ => Nat.le_refl _
  | n + 1, h => by
    have h1 := bg_mm_mono n (fun s hs => h s (by omega))
    have h2 := bg_z_mono (h n (by omega)) 24
    unfold bg_mm
    omega
theorem bg_mm_lt {f f' : Nat → Int32} : ∀ n s, s < n → bg_r n f f' → bg_lo 24 (f' s) → ¬ f s = f' s → bg_mm f' n < bg_mm f n
  | 0, s, hs, _, _, _ => absurd hs (Nat.not_lt_zero _)
  | n + 1, s, hs, h, hl, hne => by
    have h2 := bg_z_mono (h n (by omega)) 24
    have h1 := bg_mm_mono n (fun s hs => h s (by omega))
    unfold bg_mm
    by_cases q : s = n
    · subst q
      have h3 : ∃ i, bg_t (f s) i = false ∧ bg_t (f' s) i = true := by
        apply Classical.byContradiction
        intro z
        apply hne
        apply bg_ext
        intro i hi
        cases hx : bg_t (f s) i with
        | true => rw [h s (by omega) i hx]
        | false =>
          cases hy : bg_t (f' s) i with
          | false => rfl
          | true => exact absurd ⟨i, hx, hy⟩ z
      obtain ⟨i, h4, h5⟩ := h3
      have := bg_z_lt (h s (by omega)) 24 i (hl i h5) h4 h5
      omega
    · have := bg_mm_lt n s (by omega) (fun s hs => h s (by omega)) hl hne
      omega
theorem cz_keep : ∀ (m : Nat) (f : Nat → Int32) (s : Nat), m ≤ s → cz_pass ns op fa fb fc m f s = f s
  | 0, f, s, _ => rfl
  | m + 1, f, s, h => (cz_keep m _ s (by omega)).trans (pk_un (by omega))
theorem cz_moved : ∀ (m : Nat) (f : Nat → Int32) (g : Int32), g = 0 → ¬ cz_gr ns op fa fb fc m f g = 0 → ∃ s, s < m ∧ ¬ f s = cz_pass ns op fa fb fc m f s
  | 0, f, g, h0, h => absurd h0 h
  | m + 1, f, g, h0, h => by
    by_cases q : mz_inn ns op fa fb fc f m = f m
    · have hg : cz_g1 ns op fa fb fc f m g = 0 := by unfold cz_g1; rw [if_neg (fun z => z h0), if_pos q]; rfl
      obtain ⟨s, h1, h2⟩ := cz_moved m _ _ hg h
      refine ⟨s, by omega, fun z => h2 ?_⟩
      rw [pk_un (by omega)]
      exact z
    · refine ⟨m, by omega, fun z => q ?_⟩
      have e : cz_pass ns op fa fb fc (m + 1) f m = mz_inn ns op fa fb fc f m := (cz_keep m _ m (Nat.le_refl _)).trans pk_us
      rw [← e]
      exact z.symm
/-- the component's passes come to an end within their number -/
theorem cz_ends {nv : Nat} (hnv : nv ≤ 24) (hns : ns ≤ 60) (hsw : ∀ s, s < ns → mz_sw nv (op s) (fa s) (fb s) (fc s)) (h8 : ∀ s, s < ns → op s = nI 8 → ¬ fa s < 0) (h7 : ∀ s, s < ns → op s = nI 7 → ¬ fc s < 0) {f : Nat → Int32} (hf : ∀ s, s < ns → f s = nI 0) : ∃ k, k ≤ 1440 ∧ cz_mo ns op fa fb fc f k = nI 0 ∧ ∀ j, j < k → ¬ cz_mo ns op fa fb fc f j = nI 0 := by
  have up : ∀ k, bg_r ns (cz_it ns op fa fb fc f k) (cz_it ns op fa fb fc f (k + 1)) := by
    have up2 : ∀ k, bg_r ns (mz_it ns op fa fb fc f f k).1 (mz_it ns op fa fb fc f f (k + 1)).1 ∧ bg_r ns (mz_it ns op fa fb fc f f k).2 (mz_it ns op fa fb fc f f (k + 1)).2 := by
      intro k
      induction k with
      | zero => exact ⟨fun s hs => by rw [show (mz_it ns op fa fb fc f f 0).1 s = nI 0 from hf s hs]; exact bg_s0 _, fun s hs => by rw [show (mz_it ns op fa fb fc f f 0).2 s = nI 0 from hf s hs]; exact bg_s0 _⟩
      | succ k ih => exact bg_pass hns h8 h7 ns _ _ _ _ _ _ (Nat.le_refl _) ih.1 ih.2
    intro k
    have := (up2 k).1
    rw [cz_it_e, cz_it_e] at this
    exact this
  have lo := bg_lo_it hnv hns hsw h8 h7 (f := f) (fun s hs => by rw [hf s hs]; exact bg_lo_0)
  have key : ∀ k, (∀ j, j < k → ¬ cz_mo ns op fa fb fc f j = nI 0) → bg_mm (cz_it ns op fa fb fc f k) ns + k ≤ 24 * ns := by
    intro k
    induction k with
    | zero => intro _; exact bg_mm_le _ _
    | succ k ih =>
      intro h
      have h1 := ih (fun j hj => h j (by omega))
      obtain ⟨s, h2, h3⟩ := cz_moved ns (cz_it ns op fa fb fc f k) (nI 0) rfl (h k (by omega))
      have h4 := bg_mm_lt ns s h2 (up k) (fun i hi => by have := lo (k + 1) s h2 i hi; omega) h3
      omega
  have hex : ∃ k, cz_mo ns op fa fb fc f k = nI 0 := by
    apply Classical.byContradiction
    intro z
    have := key (24 * ns + 1) (fun j _ q => z ⟨j, q⟩)
    omega
  obtain ⟨k, hk, hmin⟩ := pk_least _ hex
  exact ⟨k, by have := key k hmin; omega, hk, hmin⟩
end FLOW2
/-- the component's flow is the reference's -/
theorem cz_flow {ns k kf : Nat} {A : Nat → Nat → Int32} {f : Nat → Int32} (hns : ns ≤ 60) (h8 : ∀ s, s < ns → A m_ops s = nI 8 → ¬ A m_first s < 0) (h7 : ∀ s, s < ns → A m_ops s = nI 7 → ¬ A m_third s < 0) (hf : ∀ s, s < ns → f s = nI 0) (hkf : cz_mo ns (A m_ops) (A m_first) (A m_second) (A m_third) f kf = nI 0) (hk : mz_fm ns A k = nI 0) : cz_eq ns (cz_it ns (A m_ops) (A m_first) (A m_second) (A m_third) f (kf + 1)) (mz_fl ns A k).1 := by
  unfold mz_fl
  rw [cz_it_e]
  refine cz_same hns h8 h7 (fun s hs => by rw [hf s hs, mz_fill_at, if_pos (by omega)]) (cz_gr_0 _ _ _ hkf).2.1 ?_
  obtain ⟨-, h2, -⟩ := bg_still _ _ _ _ hk
  rw [cz_pass_e, cz_it_e] at h2
  exact h2
