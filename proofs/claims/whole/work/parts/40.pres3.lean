/-! the code as the making lays it -/
theorem pz_at_c {c c' : Nat → Int32} {i : Nat} {o x y z : Int32} (h : pz_at c i o x y z) (e : ∀ j, 4 * i ≤ j → j < 4 * i + 4 → c' j = c j) : pz_at c' i o x y z := by
  unfold pz_at at h ⊢
  rw [e _ (by omega) (by omega), e _ (by omega) (by omega), e _ (by omega) (by omega), e _ (by omega) (by omega)]
  exact h
theorem pz_fet_c {nv p q : Nat} {cl hm c c' fe it : Nat → Int32} {T : Nat → Prop} (h : pz_fet nv cl hm c p q fe it T) (e : ∀ j, 4 * p ≤ j → j < 4 * (p + q) → c' j = c j) : pz_fet nv cl hm c' p q fe it T := by
  rcases h with h | ⟨rfl, u, h1, h2, h3, h4, h5, h6, h7⟩ | ⟨rfl, u, w, r, h1, h2, h3, h4, h5, h6, h7, h8, h9, h10, h11, h12, h13, h14, h15⟩
  · exact Or.inl h
  · exact Or.inr (Or.inl ⟨rfl, u, h1, h2, h3, h4, h5, pz_at_c h6 (fun j a b => e j (by omega) (by omega)), h7⟩)
  · exact Or.inr (Or.inr ⟨rfl, u, w, r, h1, h2, h3, h4, h5, h6, h7, h8, h9, h10, h11, h12, pz_at_c h13 (fun j a b => e j (by omega) (by omega)), pz_at_c h14 (fun j a b => e j (by omega) (by omega)), h15⟩)
theorem pz_lay_at {c : Nat → Int32} {n : Nat} {o x y z : Int32} : pz_at (mz_lay c n o x y z) n o x y z := mz_lay_at
theorem pz_f2_fet {nv s p : Nat} {op fa fb fc cl hm fe it c : Nat → Int32} (hnv : nv ≤ 24) (hsw : mz_sw nv (op s) (fa s) (fb s) (fc s)) : (mz_f2 op fa fb fc cl hm s (0, fe, it, c, p)).2.2.2.2 = p + (mz_f2 op fa fb fc cl hm s (0, fe, it, c, p)).1 ∧ pz_fet nv cl hm (mz_f2 op fa fb fc cl hm s (0, fe, it, c, p)).2.2.2.1 p (mz_f2 op fa fb fc cl hm s (0, fe, it, c, p)).1 (mz_f2 op fa fb fc cl hm s (0, fe, it, c, p)).2.1 (mz_f2 op fa fb fc cl hm s (0, fe, it, c, p)).2.2.1 (pz_T op fa fb fc s) ∧ ∀ j, j < 4 * p → (mz_f2 op fa fb fc cl hm s (0, fe, it, c, p)).2.2.2.1 j = c j := by
  have key : ∀ v, pz_T op fa fb fc s v → (mz_tak0 op fa fb s = nI v ∨ mz_tak1 op fb fc s = nI v) ∧ v < 2 ^ 31 := fun v h => h
  unfold mz_f2
  rcases mz_sw_tak0 hsw with e0 | ⟨a, ha, e0⟩
  · rcases mz_sw_tak1 hsw with e1 | ⟨b, hb, e1⟩
    · rw [e0, e1, mz_f1_m, mz_f1_m]
      refine ⟨rfl, Or.inl ⟨rfl, fun v hv => ?_⟩, fun _ _ => rfl⟩
      have := key v hv
      rw [e0, e1] at this
      rcases this with ⟨h | h, h2⟩ <;> exact absurd h.symm (nI_nm1 h2)
    · by_cases q : hm b < nI 100
      · rw [e0, e1, mz_f1_m, mz_f1_r (by omega) q]
        refine ⟨rfl, Or.inl ⟨rfl, fun v hv => ?_⟩, fun _ _ => rfl⟩
        have := key v hv
        rw [e0, e1] at this
        rcases this with ⟨h | h, h2⟩
        · exact absurd h.symm (nI_nm1 h2)
        · rw [nI_eq (by omega) h2] at h; subst h; exact q
      · rw [e0, e1, mz_f1_m, mz_f1_s (by omega) q, mz_ft0]
        dsimp only
        refine ⟨rfl, Or.inr (Or.inl ⟨rfl, b, hb, ⟨Or.inr e1, by omega⟩, q, pk_us, pk_us, pz_lay_at, fun v hv => ?_⟩), fun j hj => mz_lay_lo hj⟩
        have := key v hv
        rw [e0, e1] at this
        rcases this with ⟨h | h, h2⟩
        · exact absurd h.symm (nI_nm1 h2)
        · rw [nI_eq (by omega) h2] at h; exact Or.inl h.symm
  · rcases mz_sw_tak1 hsw with e1 | ⟨b, hb, e1⟩
    · by_cases q : hm a < nI 100
      · rw [e0, e1, mz_f1_r (by omega) q, mz_f1_m]
        refine ⟨rfl, Or.inl ⟨rfl, fun v hv => ?_⟩, fun _ _ => rfl⟩
        have := key v hv
        rw [e0, e1] at this
        rcases this with ⟨h | h, h2⟩
        · rw [nI_eq (by omega) h2] at h; subst h; exact q
        · exact absurd h.symm (nI_nm1 h2)
      · rw [e0, e1, mz_f1_s (by omega) q, mz_ft0, mz_f1_m]
        dsimp only
        refine ⟨rfl, Or.inr (Or.inl ⟨rfl, a, ha, ⟨Or.inl e0, by omega⟩, q, pk_us, pk_us, pz_lay_at, fun v hv => ?_⟩), fun j hj => mz_lay_lo hj⟩
        have := key v hv
        rw [e0, e1] at this
        rcases this with ⟨h | h, h2⟩
        · rw [nI_eq (by omega) h2] at h; exact Or.inl h.symm
        · exact absurd h.symm (nI_nm1 h2)
    · have kk : ∀ v, pz_T op fa fb fc s v → v = a ∨ v = b := by
        intro v hv
        have := key v hv
        rw [e0, e1] at this
        rcases this with ⟨h | h, h2⟩
        · rw [nI_eq (by omega) h2] at h; exact Or.inl h.symm
        · rw [nI_eq (by omega) h2] at h; exact Or.inr h.symm
      have Ta : pz_T op fa fb fc s a := ⟨Or.inl e0, by omega⟩
      have Tb : pz_T op fa fb fc s b := ⟨Or.inr e1, by omega⟩
      by_cases q : hm a < nI 100
      · by_cases q2 : hm b < nI 100
        · rw [e0, e1, mz_f1_r (by omega) q, mz_f1_r (by omega) q2]
          refine ⟨rfl, Or.inl ⟨rfl, fun v hv => ?_⟩, fun _ _ => rfl⟩
          rcases kk v hv with rfl | rfl <;> assumption
        · rw [e0, e1, mz_f1_r (by omega) q, mz_f1_s (by omega) q2, mz_ft0]
          dsimp only
          refine ⟨rfl, Or.inr (Or.inl ⟨rfl, b, hb, Tb, q2, pk_us, pk_us, pz_lay_at, fun v hv => ?_⟩), fun j hj => mz_lay_lo hj⟩
          rcases kk v hv with rfl | rfl
          · exact Or.inr q
          · exact Or.inl rfl
      · by_cases q2 : hm b < nI 100
        · rw [e0, e1, mz_f1_s (by omega) q, mz_f1_r (by omega) q2, mz_ft0]
          dsimp only
          refine ⟨rfl, Or.inr (Or.inl ⟨rfl, a, ha, Ta, q, pk_us, pk_us, pz_lay_at, fun v hv => ?_⟩), fun j hj => mz_lay_lo hj⟩
          rcases kk v hv with rfl | rfl
          · exact Or.inl rfl
          · exact Or.inr q2
        · by_cases qe : a = b
          · subst qe
            rw [e0, e1, show mz_f1 cl hm (nI a) (0, fe, it, c, p) = _ from (mz_f1_s (by omega) q).trans mz_ft0, mz_f1_s (by omega) q, mz_ft1s pk_us]
            dsimp only
            refine ⟨rfl, Or.inr (Or.inl ⟨rfl, a, ha, Ta, q, pk_us, pk_us, pz_lay_at, fun v hv => ?_⟩), fun j hj => mz_lay_lo hj⟩
            rcases kk v hv with rfl | rfl <;> exact Or.inl rfl
          · rw [e0, e1, mz_f1_s (by omega) q, mz_ft0, mz_f1_s (by omega) q2, mz_ft1d (by omega) (by omega) pk_us qe]
            by_cases qc : cl a = cl b
            · rw [if_pos qc]
              dsimp only
              refine ⟨rfl, Or.inr (Or.inr ⟨rfl, a, b, 9, ha, hb, Ta, Tb, qe, q, q2, Or.inl ⟨qc, rfl⟩, by rw [pk_un (by decide), pk_us], by rw [pk_un (by decide), pk_us], pk_us, pk_us, pz_at_c pz_lay_at (fun j h1 h2 => mz_lay_lo (by omega)), pz_lay_at, fun v hv => ?_⟩), fun j hj => by rw [mz_lay_lo (by omega), mz_lay_lo hj]⟩
              rcases kk v hv with rfl | rfl
              · exact Or.inl rfl
              · exact Or.inr (Or.inl rfl)
            · rw [if_neg qc]
              dsimp only
              refine ⟨rfl, Or.inr (Or.inr ⟨rfl, a, b, 8, ha, hb, Ta, Tb, qe, q, q2, Or.inr ⟨qc, rfl⟩, by rw [pk_un (by decide), pk_us], by rw [pk_un (by decide), pk_us], pk_us, pk_us, pz_at_c pz_lay_at (fun j h1 h2 => mz_lay_lo (by omega)), pz_lay_at, fun v hv => ?_⟩), fun j hj => by rw [mz_lay_lo (by omega), mz_lay_lo hj]⟩
              rcases kk v hv with rfl | rfl
              · exact Or.inl rfl
              · exact Or.inr (Or.inl rfl)
theorem pz_code_c {nv s p p' : Nat} {op fa fb fc cl hm c c' : Nat → Int32} {tg : Int32 → Int32} (h : pz_code nv op fa fb fc cl hm tg c s p p') (e : ∀ j, 4 * p ≤ j → j < 4 * p' → c' j = c j) : pz_code nv op fa fb fc cl hm tg c' s p p' := by
  rcases h with h | ⟨h1, q, fe, it, h2, h3, h4⟩
  · exact Or.inl h
  · have hle : p + q + 1 ≤ p' := by
      rcases h4 with ⟨-, h⟩ | ⟨a, -, -, ⟨-, -, h⟩ | ⟨-, h⟩⟩ <;> omega
    refine Or.inr ⟨h1, q, fe, it, pz_fet_c h2 (fun j a b => e j a (by omega)), pz_at_c h3 (fun j a b => e j (by omega) (by omega)), ?_⟩
    rcases h4 with h | ⟨a, h5, h6, ⟨h7, h8, h9⟩ | h7⟩
    · exact Or.inl h
    · exact Or.inr ⟨a, h5, h6, Or.inl ⟨h7, pz_at_c h8 (fun j a b => e j (by omega) (by omega)), h9⟩⟩
    · exact Or.inr ⟨a, h5, h6, Or.inr h7⟩
theorem pz_mk_code {nv s p : Nat} {op fa fb fc cl hm fe it c : Nat → Int32} (hnv : nv ≤ 24) (hsw : mz_sw nv (op s) (fa s) (fb s) (fc s)) : pz_code nv op fa fb fc cl hm (fun x => x) (mz_mk op fa fb fc cl hm s fe it c p).1 s p (mz_mk op fa fb fc cl hm s fe it c p).2 ∧ p ≤ (mz_mk op fa fb fc cl hm s fe it c p).2 ∧ ∀ j, j < 4 * p → (mz_mk op fa fb fc cl hm s fe it c p).1 j = c j := by
  by_cases hn : mz_ndl op fa fb cl hm s
  · rw [mz_mk_t hn]
    exact ⟨Or.inl ⟨hn, rfl⟩, Nat.le_refl _, fun _ _ => rfl⟩
  · rw [mz_mk_f hn]
    obtain ⟨f1, f2, f3⟩ := pz_f2_fet (s := s) (p := p) (op := op) (fa := fa) (fb := fb) (fc := fc) (cl := cl) (hm := hm) (fe := fe) (it := it) (c := c) hnv hsw
    generalize mz_f2 op fa fb fc cl hm s (0, fe, it, c, p) = F at f1 f2 f3
    obtain ⟨q, fe', it', c', n'⟩ := F
    have f1 : n' = p + q := f1
    subst f1
    unfold mz_mkN
    dsimp only at f2 f3 ⊢
    generalize hx : mz_xyz cl hm fe' it' q (op s).toNatClampNeg (fa s) (fb s) (fc s) = xyz
    have main : pz_at (mz_lay c' (p + q) (op s) xyz.1 xyz.2.1 xyz.2.2) (p + q) (op s) (if op s = nI 8 then xyz.1 else xyz.1) xyz.2.1 (if op s = nI 7 then xyz.2.2 else xyz.2.2) := by
      rw [ite_self, ite_self]; exact pz_lay_at
    rcases mz_sw_anew (op := op) (fa := fa) (fb := fb) (fc := fc) hsw with e | ⟨a, ha, e⟩
    · rw [e, mz_kp_m]
      refine ⟨Or.inr ⟨hn, q, fe', it', pz_fet_c f2 (fun j a b => mz_lay_lo (by omega)), by rw [hx]; exact main, Or.inl ⟨e, rfl⟩⟩, by show p ≤ p + q + 1; omega, fun j hj => by dsimp only; rw [mz_lay_lo (by omega)]; exact f3 j hj⟩
    · by_cases qa : hm a < nI 100
      · rw [e, mz_kp_r (by omega) qa]
        refine ⟨Or.inr ⟨hn, q, fe', it', pz_fet_c f2 (fun j a b => mz_lay_lo (by omega)), by rw [hx]; exact main, Or.inr ⟨a, ha, e, Or.inr ⟨qa, rfl⟩⟩⟩, by show p ≤ p + q + 1; omega, fun j hj => by dsimp only; rw [mz_lay_lo (by omega)]; exact f3 j hj⟩
      · rw [e, mz_kp_s (by omega) qa]
        refine ⟨Or.inr ⟨hn, q, fe', it', pz_fet_c f2 (fun j a b => by dsimp only; rw [mz_lay_lo (by omega), mz_lay_lo (by omega)]), by rw [hx]; exact pz_at_c main (fun j a b => mz_lay_lo (by omega)), Or.inr ⟨a, ha, e, Or.inl ⟨qa, pz_lay_at, rfl⟩⟩⟩, by show p ≤ p + q + 1 + 1; omega, fun j hj => by dsimp only; rw [mz_lay_lo (by omega), mz_lay_lo (by omega)]; exact f3 j hj⟩
theorem pz_cds_code {nv ns : Nat} {op fa fb fc cl hm : Nat → Int32} (hnv : nv ≤ 24) (hsw : ∀ s, s < ns → mz_sw nv (op s) (fa s) (fb s) (fc s)) : ∀ (m s : Nat) (fe it c : Nat → Int32) (n : Nat) (f c' : Nat → Int32) (n' : Nat) (f' : Nat → Int32), s + m = ns → mz_cds op fa fb fc cl hm m s fe it c n f c' n' f' → n ≤ n' ∧ (∀ j, j < 4 * n → c' j = c j) ∧ (∀ j, j < s → f' j = f j) ∧ ∃ P : Nat → Nat, P s = n ∧ P ns = n' ∧ ∀ i, s ≤ i → i < ns → f' i = nI (P i) ∧ P i ≤ P (i + 1) ∧ P (i + 1) ≤ n' ∧ pz_code nv op fa fb fc cl hm (fun x => x) c' i (P i) (P (i + 1))
  | 0, s, fe, it, c, n, f, c', n', f', hs, h => by
    obtain ⟨rfl, rfl, rfl⟩ := h
    exact ⟨Nat.le_refl _, fun _ _ => rfl, fun _ _ => rfl, fun _ => n', rfl, rfl, fun i h1 h2 => by omega⟩
  | m + 1, s, fe, it, c, n, f, c', n', f', hs, h => by
    obtain ⟨fe', it', h⟩ := h
    obtain ⟨k1, k2, k3⟩ := pz_mk_code (s := s) (p := n) (op := op) (fa := fa) (fb := fb) (fc := fc) (cl := cl) (hm := hm) (fe := fe) (it := it) (c := c) hnv (hsw s (by omega))
    obtain ⟨h1, h2, h3, P, p1, p2, p3⟩ := pz_cds_code hnv hsw m (s + 1) fe' it' _ _ _ c' n' f' (by omega) h
    refine ⟨by omega, fun j hj => by rw [h2 j (by omega), k3 j hj], fun j hj => by rw [h3 j (by omega), pk_un (by omega)], fun i => if i = s then n else P i, if_pos rfl, by dsimp only; rw [if_neg (by omega)]; exact p2, fun i a b => ?_⟩
    dsimp only
    by_cases q : i = s
    · subst q
      rw [if_pos rfl, if_neg (by omega), p1]
      exact ⟨by rw [h3 i (by omega), pk_us], k2, h1, pz_code_c k1 (fun j a b => h2 j b)⟩
    · rw [if_neg q, if_neg (by omega)]
      exact p3 i (by omega) b
theorem pz_rt_o {ns n k j : Nat} {f c : Nat → Int32} (h : j < 4 * k ∨ 4 * k + 4 ≤ j) : mz_rt ns n f c k j = c j := by
  unfold mz_rt
  split
  · rw [pk_un]
    unfold mz_of0
    split <;> omega
  · rfl
theorem pz_rt_at {ns n k : Nat} {f c : Nat → Int32} {o x y z : Int32} (h : pz_at c k o x y z) : pz_at (mz_rt ns n f c k) k o (if o = nI 8 then (if nI ns ≤ x then nI n else f x.toNatClampNeg) else x) y (if o = nI 7 then (if nI ns ≤ z then nI n else f z.toNatClampNeg) else z) := by
  obtain ⟨rfl, rfl, rfl, rfl⟩ := h
  unfold mz_rt mz_of0
  by_cases q7 : c (4 * k) = nI 7
  · have q8 : ¬ c (4 * k) = nI 8 := by rw [q7]; decide
    rw [if_pos (Or.inl q7), if_pos q7, if_pos q7, if_neg q8]
    exact ⟨pk_un (by omega), pk_un (by omega), pk_un (by omega), pk_us⟩
  · by_cases q8 : c (4 * k) = nI 8
    · rw [if_pos (Or.inr q8), if_neg q7, if_neg q7, if_pos q8]
      exact ⟨pk_un (by omega), pk_us, pk_un (by omega), pk_un (by omega)⟩
    · rw [if_neg (by intro z; rcases z with z | z; exact q7 z; exact q8 z), if_neg q8, if_neg q7]
      exact ⟨rfl, rfl, rfl, rfl⟩
theorem pz_rts_o {ns n : Nat} {f : Nat → Int32} : ∀ (m k : Nat) (c : Nat → Int32) (j : Nat), j < 4 * k ∨ 4 * (k + m) ≤ j → mz_rts ns n f m k c j = c j
  | 0, k, c, j, h => rfl
  | m + 1, k, c, j, h => by
    show mz_rts ns n f m (k + 1) (mz_rt ns n f c k) j = c j
    rw [pz_rts_o m (k + 1) _ j (by omega), pz_rt_o (by omega)]
theorem pz_rts_at {ns n i : Nat} {f : Nat → Int32} {o x y z : Int32} : ∀ (m k : Nat) (c : Nat → Int32), k ≤ i → i < k + m → pz_at c i o x y z → pz_at (mz_rts ns n f m k c) i o (if o = nI 8 then (if nI ns ≤ x then nI n else f x.toNatClampNeg) else x) y (if o = nI 7 then (if nI ns ≤ z then nI n else f z.toNatClampNeg) else z)
  | 0, k, c, h1, h2, h => by omega
  | m + 1, k, c, h1, h2, h => by
    show pz_at (mz_rts ns n f m (k + 1) (mz_rt ns n f c k)) i _ _ _ _
    by_cases q : i = k
    · subst q
      exact pz_at_c (pz_rt_at h) (fun j a b => pz_rts_o m (i + 1) _ j (by omega))
    · exact pz_rts_at m (k + 1) _ (by omega) (by omega) (pz_at_c h (fun j a b => pz_rt_o (by omega)))
theorem pz_rts_11 {ns n i k : Nat} {f c : Nat → Int32} {x y z : Int32} (hk : k = 11 ∨ k = 12) (hi : i < n) (h : pz_at c i (nI k) x y z) : pz_at (mz_rts ns n f n 0 c) i (nI k) x y z := by
  have h1 := pz_rts_at (ns := ns) (n := n) (f := f) n 0 c (Nat.zero_le _) (by omega) h
  rcases hk with rfl | rfl
  · rw [if_neg (by decide), if_neg (by decide)] at h1; exact h1
  · rw [if_neg (by decide), if_neg (by decide)] at h1; exact h1
theorem pz_rts_code {nv ns n s p p' : Nat} {op fa fb fc cl hm f c : Nat → Int32} (hp : p' ≤ n) (h : pz_code nv op fa fb fc cl hm (fun x => x) c s p p') : pz_code nv op fa fb fc cl hm (fun x => if nI ns ≤ x then nI n else f x.toNatClampNeg) (mz_rts ns n f n 0 c) s p p' := by
  rcases h with h | ⟨h1, q, fe, it, h2, h3, h4⟩
  · exact Or.inl h
  · have hle : p + q + 1 ≤ p' := by
      rcases h4 with ⟨-, h⟩ | ⟨a, -, -, ⟨-, -, h⟩ | ⟨-, h⟩⟩ <;> omega
    refine Or.inr ⟨h1, q, fe, it, ?_, ?_, ?_⟩
    · rcases h2 with h | ⟨rfl, u, h1, h2, h3, h4, h5, h6, h7⟩ | ⟨rfl, u, w, r, h1, h2, h3, h4, h5, h6, h7, h8, h9, h10, h11, h12, h13, h14, h15⟩
      · exact Or.inl h
      · exact Or.inr (Or.inl ⟨rfl, u, h1, h2, h3, h4, h5, pz_rts_11 (Or.inl rfl) (by omega) h6, h7⟩)
      · exact Or.inr (Or.inr ⟨rfl, u, w, r, h1, h2, h3, h4, h5, h6, h7, h8, h9, h10, h11, h12, pz_rts_11 (Or.inl rfl) (by omega) h13, pz_rts_11 (Or.inl rfl) (by omega) h14, h15⟩)
    · rw [ite_self, ite_self] at h3
      exact pz_rts_at n 0 c (Nat.zero_le _) (by omega) h3
    · rcases h4 with h | ⟨a, h5, h6, ⟨h7, h8, h9⟩ | h7⟩
      · exact Or.inl h
      · exact Or.inr ⟨a, h5, h6, Or.inl ⟨h7, pz_rts_11 (Or.inr rfl) (by omega) h8, h9⟩⟩
      · exact Or.inr ⟨a, h5, h6, Or.inr h7⟩
