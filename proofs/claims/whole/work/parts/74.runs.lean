/-! runs over rows that are alike come to the same -/
def rz (hd hd' l l' sd sd' sl sl' : Nat → Int32) (t : Nat) : Prop := cz_eq 32 hd hd' ∧ cz_eq 64 l l' ∧ cz_eq (min t 50) sd sd' ∧ ∀ k y, k < 2 → y < 24 → sl (32 * k + y) = sl' (32 * k + y)
theorem rz_upd {hd hd' l l' sd sd' sl sl' : Nat → Int32} {t x : Nat} {v v' : Int32} (h : rz hd hd' l l' sd sd' sl sl' t) (e : v = v') : rz (upd hd x v) (upd hd' x v') l l' sd sd' sl sl' t := ⟨cz_eq_upd h.1 e, h.2⟩
theorem rz_updl {hd hd' l l' sd sd' sl sl' : Nat → Int32} {t x : Nat} {v v' : Int32} (h : rz hd hd' l l' sd sd' sl sl' t) (e : v = v') : rz hd hd' (upd l x v) (upd l' x v') sd sd' sl sl' t := ⟨h.1, cz_eq_upd h.2.1 e, h.2.2⟩
theorem rz_say {hd hd' l l' sd sd' sl sl' : Nat → Int32} {t : Nat} {v v' : Int32} (h : rz hd hd' l l' sd sd' sl sl' t) (e : v = v') : rz hd hd' l l' (mz_sy t sd v) (mz_sy t sd' v') sl sl' (t + 1) := by
  refine ⟨h.1, h.2.1, fun s hs => ?_, h.2.2.2⟩
  unfold mz_sy
  by_cases q : t < 50
  · rw [if_pos q, if_pos q]
    by_cases q2 : s = t
    · subst q2; rw [pk_us, pk_us]; exact e
    · rw [pk_un q2, pk_un q2]; exact h.2.2.1 s (by omega)
  · rw [if_neg q, if_neg q]; exact h.2.2.1 s (by omega)
theorem rz_slot {hd hd' l l' sd sd' sl sl' : Nat → Int32} {t k y : Nat} {v v' : Int32} (h : rz hd hd' l l' sd sd' sl sl' t) (e : v = v') : rz hd hd' l l' sd sd' (upd sl (32 * k + y) v) (upd sl' (32 * k + y) v') t := by
  refine ⟨h.1, h.2.1, h.2.2.1, fun k2 y2 h1 h2 => ?_⟩
  by_cases q : 32 * k2 + y2 = 32 * k + y
  · rw [q, pk_us, pk_us]; exact e
  · rw [pk_un q, pk_un q]; exact h.2.2.2 k2 y2 h1 h2
theorem rz_cell {hd hd' l l' sd sd' sl sl' : Nat → Int32} {t y : Nat} {z : Int32} (h : rz hd hd' l l' sd sd' sl sl' t) (hy : y < 32) : l (mz_cl (hd y + z)) = l' (mz_cl (hd' y + z)) := by
  rw [h.1 y hy]
  exact h.2.1 _ (mz_cl_lt _)
theorem rz_di {c c' hd hd' l l' sd sd' sl sl' : Nat → Int32} {ba ba' i t : Nat} (hi : mz_i2 c ba i) (he : ∀ r, r < 4 → c' (ba' + 4 * i + r) = c (ba + 4 * i + r)) (h : rz hd hd' l l' sd sd' sl sl' t) : (mz_di1 c ba i hd l sd sl t).2.2.2.2.2 = (mz_di1 c' ba' i hd' l' sd' sl' t).2.2.2.2.2 ∧ (mz_di1 c ba i hd l sd sl t).2.2.2.2.1 = (mz_di1 c' ba' i hd' l' sd' sl' t).2.2.2.2.1 ∧ rz (mz_di1 c ba i hd l sd sl t).1 (mz_di1 c' ba' i hd' l' sd' sl' t).1 (mz_di1 c ba i hd l sd sl t).2.1 (mz_di1 c' ba' i hd' l' sd' sl' t).2.1 (mz_di1 c ba i hd l sd sl t).2.2.1 (mz_di1 c' ba' i hd' l' sd' sl' t).2.2.1 (mz_di1 c ba i hd l sd sl t).2.2.2.1 (mz_di1 c' ba' i hd' l' sd' sl' t).2.2.2.1 (mz_di1 c ba i hd l sd sl t).2.2.2.2.1 := by
  obtain ⟨⟨k, h1, ek, h3, h4, h5, h6, h7⟩, hs24⟩ := hi
  have e0 : c' (ba' + 4 * i) = c (ba + 4 * i) := he 0 (by omega)
  have e1 := he 1 (by omega)
  have e2 := he 2 (by omega)
  have e3 := he 3 (by omega)
  unfold mz_i24 at hs24
  unfold mz_di1
  rw [e0, e1, e2, e3, ek, nI_clamp (by omega)]
  rcases (show k = 0 ∨ k = 1 ∨ k = 2 ∨ k = 3 ∨ k = 4 ∨ k = 5 ∨ k = 6 ∨ k = 7 ∨ k = 8 ∨ k = 9 ∨ k = 10 ∨ k = 11 ∨ k = 12 by omega) with rfl | rfl | rfl | rfl | rfl | rfl | rfl | rfl | rfl | rfl | rfl | rfl | rfl
  · obtain ⟨x, hx, ex⟩ := h3 (by omega)
    simp only [ex, nI_clamp (show x < 2 ^ 31 by omega)]
    exact ⟨(by first | trivial | rfl), (by first | trivial | rfl), rz_upd h rfl⟩
  · obtain ⟨x, hx, ex⟩ := h3 (by omega)
    obtain ⟨y, hy, ey⟩ := h4 (by omega)
    simp only [ex, ey, nI_clamp (show x < 2 ^ 31 by omega), nI_clamp (show y < 2 ^ 31 by omega)]
    exact ⟨(by first | trivial | rfl), (by first | trivial | rfl), rz_upd h (h.1 y (by omega))⟩
  · obtain ⟨x, hx, ex⟩ := h3 (by omega)
    obtain ⟨y, hy, ey⟩ := h4 (by omega)
    obtain ⟨z, hz, ez⟩ := h5 (by omega)
    simp only [ex, ey, ez, nI_clamp (show x < 2 ^ 31 by omega), nI_clamp (show y < 2 ^ 31 by omega), nI_clamp (show z < 2 ^ 31 by omega)]
    exact ⟨(by first | trivial | rfl), (by first | trivial | rfl), rz_upd h (by rw [h.1 y (by omega), h.1 z (by omega)])⟩
  · obtain ⟨x, hx, ex⟩ := h3 (by omega)
    obtain ⟨y, hy, ey⟩ := h4 (by omega)
    obtain ⟨z, hz, ez⟩ := h5 (by omega)
    simp only [ex, ey, ez, nI_clamp (show x < 2 ^ 31 by omega), nI_clamp (show y < 2 ^ 31 by omega), nI_clamp (show z < 2 ^ 31 by omega)]
    exact ⟨(by first | trivial | rfl), (by first | trivial | rfl), rz_upd h (by rw [h.1 y (by omega), h.1 z (by omega)])⟩
  · obtain ⟨x, hx, ex⟩ := h3 (by omega)
    obtain ⟨y, hy, ey⟩ := h4 (by omega)
    obtain ⟨z, hz, ez⟩ := h5 (by omega)
    simp only [ex, ey, ez, nI_clamp (show x < 2 ^ 31 by omega), nI_clamp (show y < 2 ^ 31 by omega), nI_clamp (show z < 2 ^ 31 by omega)]
    exact ⟨(by first | trivial | rfl), (by first | trivial | rfl), rz_upd h (by rw [h.1 y (by omega), h.1 z (by omega)])⟩
  · obtain ⟨x, hx, ex⟩ := h3 (by omega)
    obtain ⟨y, hy, ey⟩ := h4 (by omega)
    simp only [ex, ey, nI_clamp (show x < 2 ^ 31 by omega), nI_clamp (show y < 2 ^ 31 by omega)]
    exact ⟨(by first | trivial | rfl), (by first | trivial | rfl), rz_upd h (rz_cell h (by omega))⟩
  · obtain ⟨x, hx, ex⟩ := h3 (by omega)
    obtain ⟨y, hy, ey⟩ := h4 (by omega)
    simp only [ex, ey, nI_clamp (show x < 2 ^ 31 by omega), nI_clamp (show y < 2 ^ 31 by omega)]
    exact ⟨(by first | trivial | rfl), (by first | trivial | rfl), (by rw [h.1 y (by omega)]; exact rz_updl h (h.1 x (by omega)))⟩
  · obtain ⟨x, hx, ex⟩ := h3 (by omega)
    obtain ⟨y, hy, ey⟩ := h4 (by omega)
    obtain ⟨z, hz, ez⟩ := h6 rfl
    simp only [ex, ey, ez, nI_clamp (show x < 2 ^ 31 by omega), nI_clamp (show y < 2 ^ 31 by omega), nI_clamp (show z < 2 ^ 31 by omega)]
    exact ⟨by rw [h.1 y (by omega), h.1 x (by omega)], (by first | trivial | rfl), h⟩
  · obtain ⟨x, hx, ex⟩ := h7 rfl
    simp only [ex, nI_clamp (show x < 2 ^ 31 by omega)]
    exact ⟨(by first | trivial | rfl), (by first | trivial | rfl), h⟩
  · obtain ⟨x, hx, ex⟩ := h3 (by omega)
    simp only [ex, nI_clamp (show x < 2 ^ 31 by omega)]
    exact ⟨(by first | trivial | rfl), (by first | trivial | rfl), rz_say h (h.1 x (by omega))⟩
  · exact ⟨rfl, rfl, h⟩
  · have h24 := hs24 (by rw [ek]; exact Or.inl rfl)
    obtain ⟨x, hx, ex⟩ := h3 (by omega)
    obtain ⟨y, hy, ey⟩ := h24
    simp only [ex, ey, nI_clamp (show x < 2 ^ 31 by omega), nI_clamp (show y < 2 ^ 31 by omega)]
    exact ⟨(by first | trivial | rfl), (by first | trivial | rfl), rz_upd h (h.2.2.2 (x / 16) y (by omega) hy)⟩
  · have h24 := hs24 (by rw [ek]; exact Or.inr rfl)
    obtain ⟨x, hx, ex⟩ := h3 (by omega)
    obtain ⟨y, hy, ey⟩ := h24
    simp only [ex, ey, nI_clamp (show x < 2 ^ 31 by omega), nI_clamp (show y < 2 ^ 31 by omega)]
    exact ⟨(by first | trivial | rfl), (by first | trivial | rfl), rz_slot h (h.1 x (by omega))⟩
/-- two runs over alike codes -/
theorem rz_run {c c' : Nat → Int32} {ba ba' n : Nat} (hi : ∀ i, i < n → mz_i2 c ba i) (he : ∀ i, i < n → ∀ r, r < 4 → c' (ba' + 4 * i + r) = c (ba + 4 * i + r)) : ∀ (m at_ j : Nat) (hd hd' l l' sd sd' sl sl' : Nat → Int32) (t : Nat), rz hd hd' l l' sd sd' sl sl' t → (mz_rnI n c ba m at_ j hd l sd sl t).1 = (mz_rnI n c' ba' m at_ j hd' l' sd' sl' t).1 ∧ (mz_rnI n c ba m at_ j hd l sd sl t).2.1 = (mz_rnI n c' ba' m at_ j hd' l' sd' sl' t).2.1 ∧ (mz_rnI n c ba m at_ j hd l sd sl t).2.2.2.2.2.2 = (mz_rnI n c' ba' m at_ j hd' l' sd' sl' t).2.2.2.2.2.2 ∧ cz_eq 64 (mz_rnI n c ba m at_ j hd l sd sl t).2.2.2.1 (mz_rnI n c' ba' m at_ j hd' l' sd' sl' t).2.2.2.1 ∧ cz_eq (min (mz_rnI n c ba m at_ j hd l sd sl t).2.2.2.2.2.2 50) (mz_rnI n c ba m at_ j hd l sd sl t).2.2.2.2.1 (mz_rnI n c' ba' m at_ j hd' l' sd' sl' t).2.2.2.2.1
  | 0, at_, j, hd, hd', l, l', sd, sd', sl, sl', t, h => ⟨rfl, rfl, rfl, h.2.1, h.2.2.1⟩
  | m + 1, at_, j, hd, hd', l, l', sd, sd', sl, sl', t, h => by
    unfold mz_rnI
    by_cases q : n ≤ at_
    · rw [if_pos q, if_pos q]; exact ⟨rfl, rfl, rfl, h.2.1, h.2.2.1⟩
    · rw [if_neg q, if_neg q]
      obtain ⟨p1, p2, p3⟩ := rz_di (hi at_ (by omega)) (he at_ (by omega)) h
      rw [← p1, ← p2]
      exact rz_run hi he m _ (j + 1) _ _ _ _ _ _ _ _ _ p3
def rs (hd nw l l' sd sd' : Nat → Int32) (t : Nat) : Prop := cz_eq 24 hd nw ∧ cz_eq 64 l l' ∧ cz_eq (min t 50) sd sd'
theorem ru {hd nw l l' sd sd' : Nat → Int32} {t x : Nat} {v v' : Int32} (h : rs hd nw l l' sd sd' t) (e : v = v') : rs (upd hd x v) (upd nw x v') l l' sd sd' t := ⟨cz_eq_upd h.1 e, h.2⟩
/-- a step, as the component's machine does it and as the reference does it -/
theorem rs_di {o x y z hd nw l l' sd sd' sl : Nat → Int32} {nv ns i t : Nat} (hnv : nv ≤ 24) (hns : ns ≤ 60) (hsw : mz_sw nv (o i) (x i) (y i) (z i)) (h : rs hd nw l l' sd sd' t) : ((mz_di1 (cz_c o x y z) 0 i hd l sd sl t).2.2.2.2.2 = (mz_do1 o x y z i nw l' sd' t).2.2.2.2 ∨ (ns ≤ (mz_di1 (cz_c o x y z) 0 i hd l sd sl t).2.2.2.2.2 ∧ ns ≤ (mz_do1 o x y z i nw l' sd' t).2.2.2.2)) ∧ (mz_di1 (cz_c o x y z) 0 i hd l sd sl t).2.2.2.2.1 = (mz_do1 o x y z i nw l' sd' t).2.2.2.1 ∧ rs (mz_di1 (cz_c o x y z) 0 i hd l sd sl t).1 (mz_do1 o x y z i nw l' sd' t).1 (mz_di1 (cz_c o x y z) 0 i hd l sd sl t).2.1 (mz_do1 o x y z i nw l' sd' t).2.1 (mz_di1 (cz_c o x y z) 0 i hd l sd sl t).2.2.1 (mz_do1 o x y z i nw l' sd' t).2.2.1 (mz_di1 (cz_c o x y z) 0 i hd l sd sl t).2.2.2.2.1 := by
  obtain ⟨k, hk, ek, h3, h4, h5, h6, h7, h8⟩ := hsw
  unfold mz_di1 mz_do1
  rw [Nat.zero_add, cz_c_0, cz_c_1, cz_c_2, cz_c_3, ek, nI_clamp (by omega)]
  rcases (show k = 0 ∨ k = 1 ∨ k = 2 ∨ k = 3 ∨ k = 4 ∨ k = 5 ∨ k = 6 ∨ k = 7 ∨ k = 8 ∨ k = 9 ∨ k = 10 by omega) with rfl | rfl | rfl | rfl | rfl | rfl | rfl | rfl | rfl | rfl | rfl
  · obtain ⟨x0, hx, ex⟩ := h3 (by omega)
    simp only [ex, nI_clamp (show x0 < 2 ^ 31 by omega)]
    exact ⟨(by first | trivial | exact Or.inl rfl | exact Or.inl trivial), (by first | trivial | rfl), ru h rfl⟩
  · obtain ⟨x0, hx, ex⟩ := h3 (by omega)
    obtain ⟨y0, hy, ey⟩ := h4 (by omega)
    simp only [ex, ey, nI_clamp (show x0 < 2 ^ 31 by omega), nI_clamp (show y0 < 2 ^ 31 by omega)]
    exact ⟨(by first | trivial | exact Or.inl rfl | exact Or.inl trivial), (by first | trivial | rfl), ru h (h.1 y0 (by omega))⟩
  · obtain ⟨x0, hx, ex⟩ := h3 (by omega)
    obtain ⟨y0, hy, ey⟩ := h4 (by omega)
    obtain ⟨z0, hz, ez⟩ := h5 (by omega)
    simp only [ex, ey, ez, nI_clamp (show x0 < 2 ^ 31 by omega), nI_clamp (show y0 < 2 ^ 31 by omega), nI_clamp (show z0 < 2 ^ 31 by omega)]
    exact ⟨(by first | trivial | exact Or.inl rfl | exact Or.inl trivial), (by first | trivial | rfl), ru h (by rw [h.1 y0 (by omega), h.1 z0 (by omega)])⟩
  · obtain ⟨x0, hx, ex⟩ := h3 (by omega)
    obtain ⟨y0, hy, ey⟩ := h4 (by omega)
    obtain ⟨z0, hz, ez⟩ := h5 (by omega)
    simp only [ex, ey, ez, nI_clamp (show x0 < 2 ^ 31 by omega), nI_clamp (show y0 < 2 ^ 31 by omega), nI_clamp (show z0 < 2 ^ 31 by omega)]
    exact ⟨(by first | trivial | exact Or.inl rfl | exact Or.inl trivial), (by first | trivial | rfl), ru h (by rw [h.1 y0 (by omega), h.1 z0 (by omega)])⟩
  · obtain ⟨x0, hx, ex⟩ := h3 (by omega)
    obtain ⟨y0, hy, ey⟩ := h4 (by omega)
    obtain ⟨z0, hz, ez⟩ := h5 (by omega)
    simp only [ex, ey, ez, nI_clamp (show x0 < 2 ^ 31 by omega), nI_clamp (show y0 < 2 ^ 31 by omega), nI_clamp (show z0 < 2 ^ 31 by omega)]
    exact ⟨(by first | trivial | exact Or.inl rfl | exact Or.inl trivial), (by first | trivial | rfl), ru h (by rw [h.1 y0 (by omega), h.1 z0 (by omega)])⟩
  · obtain ⟨x0, hx, ex⟩ := h3 (by omega)
    obtain ⟨y0, hy, ey⟩ := h4 (by omega)
    simp only [ex, ey, nI_clamp (show x0 < 2 ^ 31 by omega), nI_clamp (show y0 < 2 ^ 31 by omega)]
    exact ⟨(by first | trivial | exact Or.inl rfl | exact Or.inl trivial), (by first | trivial | rfl), ru h (by rw [h.1 y0 (by omega)]; exact h.2.1 _ (mz_cl_lt _))⟩
  · obtain ⟨x0, hx, ex⟩ := h3 (by omega)
    obtain ⟨y0, hy, ey⟩ := h4 (by omega)
    simp only [ex, ey, nI_clamp (show x0 < 2 ^ 31 by omega), nI_clamp (show y0 < 2 ^ 31 by omega)]
    exact ⟨(by first | trivial | exact Or.inl rfl | exact Or.inl trivial), (by first | trivial | rfl), (by rw [h.1 y0 (by omega)]; exact ⟨h.1, cz_eq_upd h.2.1 (h.1 x0 (by omega)), h.2.2⟩)⟩
  · obtain ⟨x0, hx, ex⟩ := h3 (by omega)
    obtain ⟨y0, hy, ey⟩ := h4 (by omega)
    obtain ⟨z0, hz, ez⟩ := h7 rfl
    simp only [ex, ey, ez, nI_clamp (show x0 < 2 ^ 31 by omega), nI_clamp (show y0 < 2 ^ 31 by omega), nI_clamp (show z0 < 2 ^ 31 by omega)]
    exact ⟨Or.inl (by rw [h.1 y0 (by omega), h.1 x0 (by omega)]), (by first | trivial | rfl), h⟩
  · obtain ⟨x0, hx, ex⟩ := h8 rfl
    simp only [ex, nI_clamp (show x0 < 2 ^ 31 by omega)]
    exact ⟨(by first | trivial | exact Or.inl rfl | exact Or.inl trivial), (by first | trivial | rfl), h⟩
  · obtain ⟨x0, hx, ex⟩ := h3 (by omega)
    simp only [ex, nI_clamp (show x0 < 2 ^ 31 by omega)]
    exact ⟨(by first | trivial | exact Or.inl rfl | exact Or.inl trivial), (by first | trivial | rfl), ⟨h.1, h.2.1, (rz_say (hd := hd) (hd' := hd) (sl := sl) (sl' := sl) ⟨fun _ _ => rfl, h.2.1, h.2.2, fun _ _ _ _ => rfl⟩ (h.1 x0 (by omega))).2.2.1⟩⟩
  · exact ⟨Or.inr ⟨by show ns ≤ 400; omega, by show ns ≤ 60; omega⟩, rfl, h⟩
theorem rs_run {o x y z : Nat → Int32} {nv ns : Nat} (hnv : nv ≤ 24) (hns : ns ≤ 60) (hsw : ∀ i, i < ns → mz_sw nv (o i) (x i) (y i) (z i)) : ∀ (m at_ at2 j : Nat) (hd nw l l' sd sd' sl : Nat → Int32) (t : Nat), (at_ = at2 ∨ (ns ≤ at_ ∧ ns ≤ at2)) → rs hd nw l l' sd sd' t → (ns ≤ (mz_rnI ns (cz_c o x y z) 0 m at_ j hd l sd sl t).1 ↔ ns ≤ (mz_rnS ns o x y z m at2 j nw l' sd' t).1) ∧ (mz_rnI ns (cz_c o x y z) 0 m at_ j hd l sd sl t).2.1 = (mz_rnS ns o x y z m at2 j nw l' sd' t).2.1 ∧ (mz_rnI ns (cz_c o x y z) 0 m at_ j hd l sd sl t).2.2.2.2.2.2 = (mz_rnS ns o x y z m at2 j nw l' sd' t).2.2.2.2.2 ∧ cz_eq 64 (mz_rnI ns (cz_c o x y z) 0 m at_ j hd l sd sl t).2.2.2.1 (mz_rnS ns o x y z m at2 j nw l' sd' t).2.2.2.1 ∧ cz_eq (min (mz_rnI ns (cz_c o x y z) 0 m at_ j hd l sd sl t).2.2.2.2.2.2 50) (mz_rnI ns (cz_c o x y z) 0 m at_ j hd l sd sl t).2.2.2.2.1 (mz_rnS ns o x y z m at2 j nw l' sd' t).2.2.2.2.1
  | 0, at_, at2, j, hd, nw, l, l', sd, sd', sl, t, ha, h => ⟨by show ns ≤ at_ ↔ ns ≤ at2; omega, rfl, rfl, h.2.1, h.2.2⟩
  | m + 1, at_, at2, j, hd, nw, l, l', sd, sd', sl, t, ha, h => by
    unfold mz_rnI mz_rnS
    by_cases q : ns ≤ at_
    · rw [if_pos q, if_pos (by omega)]; exact ⟨by show ns ≤ at_ ↔ ns ≤ at2; omega, rfl, rfl, h.2.1, h.2.2⟩
    · obtain rfl : at_ = at2 := by omega
      rw [if_neg q, if_neg q]
      obtain ⟨p1, p2, p3⟩ := rs_di (sl := sl) hnv hns (hsw at_ (by omega)) h
      rw [← p2]
      exact rs_run hnv hns hsw m _ _ (j + 1) _ _ _ _ _ _ _ _ p1 p3
