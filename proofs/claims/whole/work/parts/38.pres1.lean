/-! THE CODE DOES WHAT THE STEPS DO: the run of the code follows the run of the steps, step by step. -/
/-- item i of the code -/
def pz_at (c : Nat → Int32) (i : Nat) (o x y z : Int32) : Prop := c (4 * i) = o ∧ c (4 * i + 1) = x ∧ c (4 * i + 2) = y ∧ c (4 * i + 3) = z
abbrev pz_S : Type := Nat × (Nat → Int32) × (Nat → Int32) × (Nat → Int32) × (Nat → Int32) × Nat
def pz_nx (c : Nat → Int32) (X : pz_S) : pz_S := ((mz_di1 c 0 X.1 X.2.1 X.2.2.1 X.2.2.2.1 X.2.2.2.2.1 X.2.2.2.2.2).2.2.2.2.2, (mz_di1 c 0 X.1 X.2.1 X.2.2.1 X.2.2.2.1 X.2.2.2.2.1 X.2.2.2.2.2).1, (mz_di1 c 0 X.1 X.2.1 X.2.2.1 X.2.2.2.1 X.2.2.2.2.1 X.2.2.2.2.2).2.1, (mz_di1 c 0 X.1 X.2.1 X.2.2.1 X.2.2.2.1 X.2.2.2.2.1 X.2.2.2.2.2).2.2.1, (mz_di1 c 0 X.1 X.2.1 X.2.2.1 X.2.2.2.1 X.2.2.2.2.1 X.2.2.2.2.2).2.2.2.1, (mz_di1 c 0 X.1 X.2.1 X.2.2.1 X.2.2.2.1 X.2.2.2.2.1 X.2.2.2.2.2).2.2.2.2.1)
/-- k items lead from X to Y, and none of them is behind the last -/
def pz_R (n : Nat) (c : Nat → Int32) : Nat → pz_S → pz_S → Prop
  | 0, X, Y => X = Y
  | k + 1, X, Y => X.1 < n ∧ pz_R n c k (pz_nx c X) Y
theorem pz_R_tr {n : Nat} {c : Nat → Int32} {m : Nat} {Y Z : pz_S} : ∀ (k : Nat) (X : pz_S), pz_R n c k X Y → pz_R n c m Y Z → pz_R n c (m + k) X Z
  | 0, X, h1, h2 => by
    have h1 : X = Y := h1
    subst h1
    exact h2
  | k + 1, X, h1, h2 => ⟨h1.1, pz_R_tr k _ h1.2 h2⟩
theorem pz_R_1 {n : Nat} {c : Nat → Int32} {X Y : pz_S} (h : X.1 < n) (e : pz_nx c X = Y) : pz_R n c 1 X Y := ⟨h, e⟩
theorem pz_det {n : Nat} {c : Nat → Int32} {Y : pz_S} (hY : n ≤ Y.1) : ∀ (k : Nat) (X : pz_S) (m j : Nat), pz_R n c k X Y → n ≤ (mz_rnI n c 0 m X.1 j X.2.1 X.2.2.1 X.2.2.2.1 X.2.2.2.2.1 X.2.2.2.2.2).1 → (mz_rnI n c 0 m X.1 j X.2.1 X.2.2.1 X.2.2.2.1 X.2.2.2.2.1 X.2.2.2.2.2).2.2.2.1 = Y.2.2.1 ∧ (mz_rnI n c 0 m X.1 j X.2.1 X.2.2.1 X.2.2.2.1 X.2.2.2.2.1 X.2.2.2.2.2).2.2.2.2.1 = Y.2.2.2.1 ∧ (mz_rnI n c 0 m X.1 j X.2.1 X.2.2.1 X.2.2.2.1 X.2.2.2.2.1 X.2.2.2.2.2).2.2.2.2.2.2 = Y.2.2.2.2.2
  | 0, X, m, j, h, _ => by
    have h : X = Y := h
    subst h
    cases m with
    | zero => exact ⟨rfl, rfl, rfl⟩
    | succ m =>
      unfold mz_rnI
      rw [if_pos hY]
      exact ⟨rfl, rfl, rfl⟩
  | k + 1, X, m, j, h, he => by
    cases m with
    | zero => exact absurd he (Nat.not_le.mpr h.1)
    | succ m =>
      unfold mz_rnI at he ⊢
      rw [if_neg (Nat.not_le.mpr h.1)] at he ⊢
      exact pz_det hY k (pz_nx c X) m (j + 1) h.2 he
section ITEMS
variable {c hd l sd sl : Nat → Int32} {i t : Nat}
theorem pz_n0 {x : Nat} {y z : Int32} (hx : x < 32) (h : pz_at c i (nI 0) (nI x) y z) : pz_nx c (i, hd, l, sd, sl, t) = (i + 1, upd hd x y, l, sd, sl, t) := by
  simp [pz_nx, mz_di1, h.1, h.2.1, h.2.2.1, nI_clamp, show x < 2147483648 by omega]
theorem pz_n1 {x y : Nat} {z : Int32} (hx : x < 32) (hy : y < 32) (h : pz_at c i (nI 1) (nI x) (nI y) z) : pz_nx c (i, hd, l, sd, sl, t) = (i + 1, upd hd x (hd y), l, sd, sl, t) := by
  simp [pz_nx, mz_di1, h.1, h.2.1, h.2.2.1, nI_clamp, show x < 2147483648 by omega, show y < 2147483648 by omega]
theorem pz_n234 {k x y z : Nat} (hk : k = 2 ∨ k = 3 ∨ k = 4) (hx : x < 32) (hy : y < 32) (hz : z < 32) (h : pz_at c i (nI k) (nI x) (nI y) (nI z)) : pz_nx c (i, hd, l, sd, sl, t) = (i + 1, upd hd x (mz_rk (nI k) (hd y) (hd z)), l, sd, sl, t) := by
  rcases hk with rfl | rfl | rfl <;> simp [pz_nx, mz_di1, h.1, h.2.1, h.2.2.1, h.2.2.2, nI_clamp, show x < 2147483648 by omega, show y < 2147483648 by omega, show z < 2147483648 by omega]
theorem pz_n5 {x y : Nat} {z : Int32} (hx : x < 32) (hy : y < 32) (h : pz_at c i (nI 5) (nI x) (nI y) z) : pz_nx c (i, hd, l, sd, sl, t) = (i + 1, upd hd x (l (mz_cl (hd y + z))), l, sd, sl, t) := by
  simp [pz_nx, mz_di1, h.1, h.2.1, h.2.2.1, h.2.2.2, nI_clamp, show x < 2147483648 by omega, show y < 2147483648 by omega]
theorem pz_n6 {x y : Nat} {z : Int32} (hx : x < 32) (hy : y < 32) (h : pz_at c i (nI 6) (nI x) (nI y) z) : pz_nx c (i, hd, l, sd, sl, t) = (i + 1, hd, upd l (mz_cl (hd y + z)) (hd x), sd, sl, t) := by
  simp [pz_nx, mz_di1, h.1, h.2.1, h.2.2.1, h.2.2.2, nI_clamp, show x < 2147483648 by omega, show y < 2147483648 by omega]
theorem pz_n7 {x y z : Nat} (hx : x < 32) (hy : y < 32) (hz : z < 2 ^ 31) (h : pz_at c i (nI 7) (nI x) (nI y) (nI z)) : pz_nx c (i, hd, l, sd, sl, t) = (if hd y ≤ hd x then i + 1 else z, hd, l, sd, sl, t) := by
  simp [pz_nx, mz_di1, h.1, h.2.1, h.2.2.1, h.2.2.2, nI_clamp, show x < 2147483648 by omega, show y < 2147483648 by omega, show z < 2147483648 by omega]
theorem pz_n8 {x : Nat} {y z : Int32} (hx : x < 2 ^ 31) (h : pz_at c i (nI 8) (nI x) y z) : pz_nx c (i, hd, l, sd, sl, t) = (x, hd, l, sd, sl, t) := by
  simp [pz_nx, mz_di1, h.1, h.2.1, nI_clamp, show x < 2147483648 by omega]
theorem pz_n9 {x : Nat} {y z : Int32} (hx : x < 32) (h : pz_at c i (nI 9) (nI x) y z) : pz_nx c (i, hd, l, sd, sl, t) = (i + 1, hd, l, mz_sy t sd (hd x), sl, t + 1) := by
  simp [pz_nx, mz_di1, h.1, h.2.1, nI_clamp, show x < 2147483648 by omega]
theorem pz_n10 {x y z : Int32} (h : pz_at c i (nI 10) x y z) : pz_nx c (i, hd, l, sd, sl, t) = (400, hd, l, sd, sl, t) := by
  simp [pz_nx, mz_di1, h.1, nI_clamp]
theorem pz_n11 {x y : Nat} {z : Int32} (hx : x < 32) (hy : y < 32) (h : pz_at c i (nI 11) (nI x) (nI y) z) : pz_nx c (i, hd, l, sd, sl, t) = (i + 1, upd hd x (sl (32 * (x / 16) + y)), l, sd, sl, t) := by
  simp [pz_nx, mz_di1, h.1, h.2.1, h.2.2.1, nI_clamp, show x < 2147483648 by omega, show y < 2147483648 by omega]
theorem pz_n12 {x y : Nat} {z : Int32} (hx : x < 32) (hy : y < 32) (h : pz_at c i (nI 12) (nI x) (nI y) z) : pz_nx c (i, hd, l, sd, sl, t) = (i + 1, hd, l, sd, upd sl (32 * (x / 16) + y) (hd x), t) := by
  simp [pz_nx, mz_di1, h.1, h.2.1, h.2.2.1, nI_clamp, show x < 2147483648 by omega, show y < 2147483648 by omega]
end ITEMS
/-- the number that stands in a value's home -/
def pz_hv (cl hm hd sl : Nat → Int32) (v : Nat) : Int32 := if hm v < nI 100 then hd (16 * (cl v).toNatClampNeg + (hm v).toNatClampNeg) else sl (32 * (cl v).toNatClampNeg + ((hm v).toNatClampNeg - 100))
section VALUES
variable {nv : Nat} {cl hm : Nat → Int32}
/-- where a value belongs and its home, as naturals -/
theorem pz_v (h : mz_vok nv cl hm) {v : Nat} (hv : v < nv) : ∃ C H, C < 2 ∧ cl v = nI C ∧ hm v = nI H ∧ ((hm v < nI 100 ∧ H < 8) ∨ (¬ hm v < nI 100 ∧ 100 ≤ H ∧ H ≤ 124)) := by
  obtain ⟨⟨C, h1, h2⟩, H, h3, h4⟩ := h v hv
  refine ⟨C, H, h1, h2, h4, ?_⟩
  rw [h4, nI_ltI (by omega) (by omega)]
  omega
theorem pz_hv_r {v C H : Nat} {hd sl : Nat → Int32} (hC : C < 2) (h1 : cl v = nI C) (h2 : hm v = nI H) (h3 : hm v < nI 100) (h4 : H < 8) : pz_hv cl hm hd sl v = hd (16 * C + H) := by
  unfold pz_hv
  rw [if_pos h3, h1, h2, nI_clamp (by omega), nI_clamp (by omega)]
theorem pz_hv_s {v C H : Nat} {hd sl : Nat → Int32} (hC : C < 2) (h1 : cl v = nI C) (h2 : hm v = nI H) (h3 : ¬ hm v < nI 100) (h4 : H ≤ 124) : pz_hv cl hm hd sl v = sl (32 * C + (H - 100)) := by
  unfold pz_hv
  rw [if_neg h3, h1, h2, nI_clamp (by omega), nI_clamp (by omega)]
theorem pz_rg (C k : Nat) : mz_reg (nI C) (nI k) = nI (16 * C + k) := by
  unfold mz_reg
  rw [pk_mul, nI_add]
theorem pz_to_r {v C H : Nat} (h1 : cl v = nI C) (h2 : hm v = nI H) (h3 : hm v < nI 100) : mz_to cl hm v = nI (16 * C + H) := by
  unfold mz_to
  rw [if_pos h3, h1, h2, pz_rg]
theorem pz_to_s {v C : Nat} (h1 : cl v = nI C) (h3 : ¬ hm v < nI 100) : mz_to cl hm v = nI (16 * C + 8) := by
  unfold mz_to
  rw [if_neg h3, h1, pz_rg]
/-- what is done for the values of T before the item of the step: those that have slots are fetched -/
def pz_fet (nv : Nat) (cl hm c : Nat → Int32) (p q : Nat) (fe it : Nat → Int32) (T : Nat → Prop) : Prop :=
  (q = 0 ∧ ∀ v, T v → hm v < nI 100) ∨
  (q = 1 ∧ ∃ u, u < nv ∧ T u ∧ ¬ hm u < nI 100 ∧ fe 0 = nI u ∧ it 0 = mz_reg (cl u) (nI 8) ∧ pz_at c p (nI 11) (mz_reg (cl u) (nI 8)) (hm u - nI 100) (nI 0) ∧ ∀ v, T v → v = u ∨ hm v < nI 100) ∨
  (q = 2 ∧ ∃ u w r, u < nv ∧ w < nv ∧ T u ∧ T w ∧ ¬ u = w ∧ ¬ hm u < nI 100 ∧ ¬ hm w < nI 100 ∧ ((cl u = cl w ∧ r = 9) ∨ (¬ cl u = cl w ∧ r = 8)) ∧ fe 0 = nI u ∧ it 0 = mz_reg (cl u) (nI 8) ∧ fe 1 = nI w ∧ it 1 = mz_reg (cl w) (nI r) ∧ pz_at c p (nI 11) (mz_reg (cl u) (nI 8)) (hm u - nI 100) (nI 0) ∧ pz_at c (p + 1) (nI 11) (mz_reg (cl w) (nI r)) (hm w - nI 100) (nI 0) ∧ ∀ v, T v → v = u ∨ v = w ∨ hm v < nI 100)
theorem pz_fet_le {c fe it : Nat → Int32} {p q : Nat} {T : Nat → Prop} (h : pz_fet nv cl hm c p q fe it T) : q ≤ 2 := by
  rcases h with h | h | h <;> omega
theorem pz_fet_run (hk : mz_vok nv cl hm) (hnv : nv ≤ 24) {n p q : Nat} {c fe it hd l sd sl nw : Nat → Int32} {t : Nat} {T : Nat → Prop} (hT : ∀ v, T v → v < nv ∧ pz_hv cl hm hd sl v = nw v) (hn : p + q ≤ n) (h : pz_fet nv cl hm c p q fe it T) : ∃ hd', pz_R n c q (p, hd, l, sd, sl, t) (p + q, hd', l, sd, sl, t) ∧ (∀ v, T v → ∃ r, r < 32 ∧ mz_from cl hm fe it q v = nI r ∧ hd' r = nw v) ∧ ∀ r, r % 16 < 8 → hd' r = hd r := by
  rcases h with ⟨rfl, h⟩ | ⟨rfl, u, hu, Tu, su, e1, e2, a1, h⟩ | ⟨rfl, u, w, r, hu, hw, Tu, Tw, hne, su, sw, hr, e1, e2, e3, e4, a1, a2, h⟩
  · refine ⟨hd, rfl, fun v hv => ?_, fun _ _ => rfl⟩
    obtain ⟨h1, h2⟩ := hT v hv
    obtain ⟨C, H, hC, eC, eH, q⟩ := pz_v hk h1
    have hr := h v hv
    have hH : H < 8 := by
      rcases q with q | q
      · exact q.2
      · exact absurd hr q.1
    refine ⟨16 * C + H, by omega, ?_, ?_⟩
    · show mz_reg (cl v) (hm v) = _
      rw [eC, eH, pz_rg]
    · rw [← h2, pz_hv_r hC eC eH hr hH]
  · obtain ⟨C, H, hC, eC, eH, q⟩ := pz_v hk hu
    have hH : 100 ≤ H ∧ H ≤ 124 := by
      rcases q with q | q
      · exact absurd q.1 su
      · exact q.2
    rw [eC, eH, pz_rg, pk_sub hH.1] at a1
    refine ⟨upd hd (16 * C + 8) (sl (32 * ((16 * C + 8) / 16) + (H - 100))), pz_R_1 (by show p < n; omega) (pz_n11 (by omega) (by omega) a1), fun v hv => ?_, fun r hr => by simp only [upd]; rw [if_neg (by omega)]⟩
    obtain ⟨h1, h2⟩ := hT v hv
    by_cases qv : v = u
    · subst qv
      refine ⟨16 * C + 8, by omega, ?_, ?_⟩
      · show (if fe 0 = nI v then it 0 else _) = _
        rw [if_pos e1, e2, eC, pz_rg]
      · rw [← h2, pz_hv_s hC eC eH su hH.2, pk_us]
        congr 1
        omega
    · have hr := (h v hv).resolve_left qv
      obtain ⟨C', H', hC', eC', eH', q'⟩ := pz_v hk h1
      have hH' : H' < 8 := by
        rcases q' with q | q
        · exact q.2
        · exact absurd hr q.1
      refine ⟨16 * C' + H', by omega, ?_, ?_⟩
      · show (if fe 0 = nI v then it 0 else mz_reg (cl v) (hm v)) = _
        rw [if_neg (by rw [e1, nI_eq (by omega) (by omega)]; omega), eC', eH', pz_rg]
      · rw [← h2, pz_hv_r hC' eC' eH' hr hH', pk_un (by omega)]
  · obtain ⟨C, H, hC, eC, eH, q⟩ := pz_v hk hu
    have hH : 100 ≤ H ∧ H ≤ 124 := by
      rcases q with q | q
      · exact absurd q.1 su
      · exact q.2
    obtain ⟨D, K, hD, eD, eK, q⟩ := pz_v hk hw
    have hK : 100 ≤ K ∧ K ≤ 124 := by
      rcases q with q | q
      · exact absurd q.1 sw
      · exact q.2
    rw [eC, eH, pz_rg, pk_sub hH.1] at a1
    rw [eD, eK, pz_rg, pk_sub hK.1] at a2
    have hr2 : (C = D ∧ r = 9) ∨ (¬ C = D ∧ r = 8) := by
      rw [eC, eD, nI_eq (by omega) (by omega)] at hr
      exact hr
    refine ⟨upd (upd hd (16 * C + 8) (sl (32 * ((16 * C + 8) / 16) + (H - 100)))) (16 * D + r) (sl (32 * ((16 * D + r) / 16) + (K - 100))), ⟨by show p < n; omega, ?_⟩, fun v hv => ?_, fun x hx => by simp only [upd]; rw [if_neg (by omega), if_neg (by omega)]⟩
    · rw [pz_n11 (by omega) (by omega) a1]
      exact pz_R_1 (by show p + 1 < n; omega) (pz_n11 (by omega) (by omega) a2)
    · obtain ⟨h1, h2⟩ := hT v hv
      by_cases qw : v = w
      · subst qw
        refine ⟨16 * D + r, by omega, ?_, ?_⟩
        · show (if fe 1 = nI v then it 1 else _) = _
          rw [if_pos e3, e4, eD, pz_rg]
        · rw [← h2, pz_hv_s hD eD eK sw hK.2, pk_us]
          congr 1
          omega
      · by_cases qv : v = u
        · subst qv
          refine ⟨16 * C + 8, by omega, ?_, ?_⟩
          · show (if fe 1 = nI v then it 1 else if fe 0 = nI v then it 0 else _) = _
            rw [if_neg (by rw [e3, nI_eq (by omega) (by omega)]; omega), if_pos e1, e2, eC, pz_rg]
          · rw [← h2, pz_hv_s hC eC eH su hH.2, pk_un (by omega), pk_us]
            congr 1
            omega
        · have hr := ((h v hv).resolve_left qv).resolve_left qw
          obtain ⟨C', H', hC', eC', eH', q'⟩ := pz_v hk h1
          have hH' : H' < 8 := by
            rcases q' with q | q
            · exact q.2
            · exact absurd hr q.1
          refine ⟨16 * C' + H', by omega, ?_, ?_⟩
          · show (if fe 1 = nI v then it 1 else if fe 0 = nI v then it 0 else mz_reg (cl v) (hm v)) = _
            rw [if_neg (by rw [e3, nI_eq (by omega) (by omega)]; omega), if_neg (by rw [e1, nI_eq (by omega) (by omega)]; omega), eC', eH', pz_rg]
          · rw [← h2, pz_hv_r hC' eC' eH' hr hH', pk_un (by omega), pk_un (by omega)]
/-- what stands in homes, where the working registers alone have changed -/
theorem pz_hv_w (hk : mz_vok nv cl hm) {hd hd' sl : Nat → Int32} (h : ∀ r, r % 16 < 8 → hd' r = hd r) {v : Nat} (hv : v < nv) : pz_hv cl hm hd' sl v = pz_hv cl hm hd sl v := by
  obtain ⟨C, H, hC, eC, eH, q⟩ := pz_v hk hv
  rcases q with ⟨q, hH⟩ | ⟨q, hH⟩
  · rw [pz_hv_r hC eC eH q hH, pz_hv_r hC eC eH q hH, h _ (by omega)]
  · rw [pz_hv_s hC eC eH q hH.2, pz_hv_s hC eC eH q hH.2]
/-- the value that became anew gets home, and no other home changes -/
theorem pz_keep (hk : mz_vok nv cl hm) {n i p' a : Nat} {c hd hd' l sd sl : Nat → Int32} {t : Nat} {x : Int32} (ha : a < nv) (hw : ∀ r, r % 16 < 8 → hd' r = hd r) (hc : (¬ hm a < nI 100 ∧ pz_at c i (nI 12) (mz_to cl hm a) (hm a - nI 100) (nI 0) ∧ p' = i + 1) ∨ (hm a < nI 100 ∧ p' = i)) (hn : p' ≤ n) : ∃ r k hd2 sl2, r < 32 ∧ mz_to cl hm a = nI r ∧ pz_R n c k (i, upd hd' r x, l, sd, sl, t) (p', hd2, l, sd, sl2, t) ∧ pz_hv cl hm hd2 sl2 a = x ∧ ∀ v, v < nv → ¬ (cl v = cl a ∧ hm v = hm a) → pz_hv cl hm hd2 sl2 v = pz_hv cl hm hd sl v := by
  obtain ⟨C, H, hC, eC, eH, q⟩ := pz_v hk ha
  rcases hc with ⟨hs, h1, rfl⟩ | ⟨hs, rfl⟩
  · have hH : 100 ≤ H ∧ H ≤ 124 := by
      rcases q with q | q
      · exact absurd q.1 hs
      · exact q.2
    rw [pz_to_s eC hs, eH, pk_sub hH.1] at h1
    refine ⟨16 * C + 8, 1, _, _, by omega, pz_to_s eC hs, pz_R_1 (by show i < n; omega) (pz_n12 (by omega) (by omega) h1), ?_, fun v hv hne => ?_⟩
    · rw [pz_hv_s hC eC eH hs hH.2, pk_us, show 32 * ((16 * C + 8) / 16) + (H - 100) = 32 * C + (H - 100) by omega, pk_us]
    · obtain ⟨C', H', hC', eC', eH', q'⟩ := pz_v hk hv
      rw [eC', eC, eH', eH, nI_eq (by omega) (by omega), nI_eq (by omega) (by omega)] at hne
      rcases q' with ⟨q', hH'⟩ | ⟨q', hH'⟩
      · rw [pz_hv_r hC' eC' eH' q' hH', pz_hv_r hC' eC' eH' q' hH', pk_un (by omega), hw _ (by omega)]
      · rw [pz_hv_s hC' eC' eH' q' hH'.2, pz_hv_s hC' eC' eH' q' hH'.2, pk_un (by omega)]
  · have hH : H < 8 := by
      rcases q with q | q
      · exact q.2
      · exact absurd hs q.1
    refine ⟨16 * C + H, 0, _, _, by omega, pz_to_r eC eH hs, rfl, ?_, fun v hv hne => ?_⟩
    · rw [pz_hv_r hC eC eH hs hH, pk_us]
    · obtain ⟨C', H', hC', eC', eH', q'⟩ := pz_v hk hv
      rw [eC', eC, eH', eH, nI_eq (by omega) (by omega), nI_eq (by omega) (by omega)] at hne
      rcases q' with ⟨q', hH'⟩ | ⟨q', hH'⟩
      · rw [pz_hv_r hC' eC' eH' q' hH', pz_hv_r hC' eC' eH' q' hH', pk_un (by omega), hw _ (by omega)]
      · rw [pz_hv_s hC' eC' eH' q' hH'.2, pz_hv_s hC' eC' eH' q' hH'.2]
end VALUES
