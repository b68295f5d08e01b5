/-- an item by its four numbers -/
def mz_ik (o x y z : Int32) : Prop := ∃ k, k ≤ 12 ∧ o = nI k ∧ (k ≤ 7 ∨ k = 9 ∨ 11 ≤ k → ∃ q, q < 32 ∧ x = nI q) ∧ ((1 ≤ k ∧ k ≤ 7) ∨ 11 ≤ k → ∃ q, q < 32 ∧ y = nI q) ∧ (2 ≤ k ∧ k ≤ 4 → ∃ q, q < 32 ∧ z = nI q) ∧ (k = 7 → ∃ q, q ≤ 400 ∧ z = nI q) ∧ (k = 8 → ∃ q, q ≤ 400 ∧ x = nI q)
theorem mz_iw_ik {c : Nat → Int32} {ba j : Nat} : mz_iw c ba j ↔ mz_ik (c (ba + 4 * j)) (c (ba + 4 * j + 1)) (c (ba + 4 * j + 2)) (c (ba + 4 * j + 3)) := Iff.rfl
theorem mz_iw0 {c : Nat → Int32} {j : Nat} : mz_iw c 0 j ↔ mz_ik (c (4 * j)) (c (4 * j + 1)) (c (4 * j + 2)) (c (4 * j + 3)) := by
  rw [mz_iw_ik, Nat.zero_add]
theorem mz_iw_c {c c' : Nat → Int32} {ba j : Nat} (h : mz_iw c ba j) (e : ∀ i, ba + 4 * j ≤ i → i < ba + 4 * j + 4 → c' i = c i) : mz_iw c' ba j := by
  rw [mz_iw_ik] at h ⊢
  rw [e _ (by omega) (by omega), e _ (by omega) (by omega), e _ (by omega) (by omega), e _ (by omega) (by omega)]
  exact h
theorem mz_lay_iw {c : Nat → Int32} {n : Nat} {o x y z : Int32} (h : ∀ j, j < n → mz_iw c 0 j) (hk : mz_ik o x y z) : ∀ j, j < n + 1 → mz_iw (mz_lay c n o x y z) 0 j := by
  intro j hj
  by_cases q : j = n
  · subst q
    obtain ⟨a1, a2, a3, a4⟩ := mz_lay_at (c := c) (n := j) (o := o) (x := x) (y := y) (z := z)
    rw [mz_iw0, a1, a2, a3, a4]
    exact hk
  · exact mz_iw_c (h j (by omega)) (fun i h1 h2 => mz_lay_lo (by omega))
def mz_Fiw (F : mz_FS) : Prop := ∀ j, j < F.2.2.2.2 → mz_iw F.2.2.2.1 0 j
theorem mz_ik_11 {x y z : Int32} {k : Nat} (hk : k = 11 ∨ k = 12) (h1 : mz_isR x) (h2 : ∃ q, q < 32 ∧ y = nI q) : mz_ik (nI k) x y z := ⟨k, by omega, rfl, fun _ => h1, fun _ => h2, fun h => by omega, fun h => by omega, fun h => by omega⟩
theorem mz_ft_iw {nv : Nat} {cl hm : Nat → Int32} (h : mz_vok nv cl hm) {F : mz_FS} (hF : mz_Fiw F) {v : Nat} (hv : v < nv) (hs : ¬ hm v < nI 100) : mz_Fiw (mz_ft cl hm v F) := by
  obtain ⟨⟨cc, h1, h2⟩, h3⟩ := h v hv
  unfold mz_ft
  by_cases q : F.1 = 1 ∧ F.2.1 0 = nI v
  · rw [if_pos q]; exact hF
  · rw [if_neg q]
    refine mz_lay_iw hF (mz_ik_11 (Or.inl rfl) ?_ (mz_hg_sl h3 hs))
    by_cases q2 : F.1 = 1 ∧ cl (F.2.1 0).toNatClampNeg = cl v
    · rw [if_pos q2]; exact mz_reg_R h2 h1 (q := 9) rfl (by omega)
    · rw [if_neg q2]; exact mz_reg_R h2 h1 (q := 8) rfl (by omega)
theorem mz_f1_iw {nv : Nat} {cl hm : Nat → Int32} (h : mz_vok nv cl hm) (hnv : nv ≤ 24) {F : mz_FS} (hF : mz_Fiw F) {x : Int32} (hx : x = (-1) ∨ ∃ a, a < nv ∧ x = nI a) : mz_Fiw (mz_f1 cl hm x F) := by
  rcases hx with rfl | ⟨a, ha, rfl⟩
  · rw [mz_f1_m]; exact hF
  · by_cases q : hm a < nI 100
    · rw [mz_f1_r (by omega) q]; exact hF
    · rw [mz_f1_s (by omega) q]; exact mz_ft_iw h hF ha q
theorem mz_kp_iw {nv n : Nat} {cl hm c : Nat → Int32} (h : mz_vok nv cl hm) (hnv : nv ≤ 24) {x : Int32} (hx : x = (-1) ∨ ∃ a, a < nv ∧ x = nI a) (hc : ∀ j, j < n → mz_iw c 0 j) : ∀ j, j < (mz_kp cl hm x c n).2 → mz_iw (mz_kp cl hm x c n).1 0 j := by
  rcases hx with rfl | ⟨a, ha, rfl⟩
  · rw [mz_kp_m]; exact hc
  · by_cases q : hm a < nI 100
    · rw [mz_kp_r (by omega) q]; exact hc
    · rw [mz_kp_s (by omega) q]
      exact mz_lay_iw hc (mz_ik_11 (Or.inr rfl) (mz_to_R h ha) (mz_hg_sl (h a ha).2 q))
theorem mz_mk_iw {nv : Nat} {op fa fb fc cl hm fe it c : Nat → Int32} {s n : Nat} (h : mz_vok nv cl hm) (hnv : nv ≤ 24) (hsw : mz_sw nv (op s) (fa s) (fb s) (fc s)) (hc : ∀ j, j < n → mz_iw c 0 j) : ∀ j, j < (mz_mk op fa fb fc cl hm s fe it c n).2 → mz_iw (mz_mk op fa fb fc cl hm s fe it c n).1 0 j := by
  by_cases hn : mz_ndl op fa fb cl hm s
  · rw [mz_mk_t hn]; exact hc
  · rw [mz_mk_f hn]
    have hF : mz_Fiw (mz_f2 op fa fb fc cl hm s (0, fe, it, c, n)) := mz_f1_iw h hnv (mz_f1_iw h hnv (F := (0, fe, it, c, n)) hc (mz_sw_tak0 hsw)) (mz_sw_tak1 hsw)
    have hFI : mz_FI hm (mz_f2 op fa fb fc cl hm s (0, fe, it, c, n)) (fun u => (False ∨ (u < nv ∧ mz_tak0 op fa fb s = nI u)) ∨ (u < nv ∧ mz_tak1 op fb fc s = nI u)) := mz_f1_FI h hnv (mz_f1_FI h hnv (F := (0, fe, it, c, n)) (P := fun _ => False) ⟨fun i hi => absurd hi (Nat.not_lt_zero _), fun _ z => z.elim⟩ (mz_sw_tak0 hsw)) (mz_sw_tak1 hsw)
    have hle := (mz_f2_le (op := op) (fa := fa) (fb := fb) (fc := fc) (cl := cl) (hm := hm) (s := s) (F := (0, fe, it, c, n))).1
    dsimp only at hle
    obtain ⟨k, h1, ek, h3, h4, h5, h6, h7, h8⟩ := id hsw
    rcases (show k = 0 ∨ k = 1 ∨ k = 2 ∨ k = 3 ∨ k = 4 ∨ k = 5 ∨ k = 6 ∨ k = 7 ∨ k = 8 ∨ k = 9 ∨ k = 10 by omega) with rfl | rfl | rfl | rfl | rfl | rfl | rfl | rfl | rfl | rfl | rfl
    · obtain ⟨a, ha, ea⟩ := h3 (by omega)
      rw [mz_mkN_0 ek (show a < 2 ^ 31 by omega) ea]
      exact mz_kp_iw h hnv (mz_sw_anew (fb := fb) (fc := fc) hsw) (mz_lay_iw hF ⟨0, by omega, rfl, fun _ => mz_to_R h ha, fun z => by omega, fun z => by omega, fun z => by omega, fun z => by omega⟩)
    · obtain ⟨a, ha, ea⟩ := h3 (by omega)
      obtain ⟨b, hb, eb⟩ := h4 (by omega)
      have t0 : mz_tak0 op fa fb s = nI b := by unfold mz_tak0; rw [ek, ← eb]; rfl
      rw [mz_mkN_1 ek (show a < 2 ^ 31 by omega) ea (show b < 2 ^ 31 by omega) eb]
      exact mz_kp_iw h hnv (mz_sw_anew (fb := fb) (fc := fc) hsw) (mz_lay_iw hF ⟨1, by omega, rfl, fun _ => mz_to_R h ha, fun _ => mz_from_R h hFI (by omega) hb (Or.inl (Or.inr ⟨hb, t0⟩)), fun z => by omega, fun z => by omega, fun z => by omega⟩)
    · obtain ⟨a, ha, ea⟩ := h3 (by omega)
      obtain ⟨b, hb, eb⟩ := h4 (by omega)
      obtain ⟨c, hc, ec⟩ := h5 (by omega)
      have t0 : mz_tak0 op fa fb s = nI b := by unfold mz_tak0; rw [ek, ← eb]; rfl
      have t1 : mz_tak1 op fb fc s = nI c := by unfold mz_tak1; rw [ek, ← ec]; rfl
      rw [mz_mkN_2 ek (show a < 2 ^ 31 by omega) ea (show b < 2 ^ 31 by omega) eb (show c < 2 ^ 31 by omega) ec]
      exact mz_kp_iw h hnv (mz_sw_anew (fb := fb) (fc := fc) hsw) (mz_lay_iw hF ⟨2, by omega, rfl, fun _ => mz_to_R h ha, fun _ => mz_from_R h hFI (by omega) hb (Or.inl (Or.inr ⟨hb, t0⟩)), fun _ => mz_from_R h hFI (by omega) hc (Or.inr ⟨hc, t1⟩), fun z => by omega, fun z => by omega⟩)
    · obtain ⟨a, ha, ea⟩ := h3 (by omega)
      obtain ⟨b, hb, eb⟩ := h4 (by omega)
      obtain ⟨c, hc, ec⟩ := h5 (by omega)
      have t0 : mz_tak0 op fa fb s = nI b := by unfold mz_tak0; rw [ek, ← eb]; rfl
      have t1 : mz_tak1 op fb fc s = nI c := by unfold mz_tak1; rw [ek, ← ec]; rfl
      rw [mz_mkN_3 ek (show a < 2 ^ 31 by omega) ea (show b < 2 ^ 31 by omega) eb (show c < 2 ^ 31 by omega) ec]
      exact mz_kp_iw h hnv (mz_sw_anew (fb := fb) (fc := fc) hsw) (mz_lay_iw hF ⟨3, by omega, rfl, fun _ => mz_to_R h ha, fun _ => mz_from_R h hFI (by omega) hb (Or.inl (Or.inr ⟨hb, t0⟩)), fun _ => mz_from_R h hFI (by omega) hc (Or.inr ⟨hc, t1⟩), fun z => by omega, fun z => by omega⟩)
    · obtain ⟨a, ha, ea⟩ := h3 (by omega)
      obtain ⟨b, hb, eb⟩ := h4 (by omega)
      obtain ⟨c, hc, ec⟩ := h5 (by omega)
      have t0 : mz_tak0 op fa fb s = nI b := by unfold mz_tak0; rw [ek, ← eb]; rfl
      have t1 : mz_tak1 op fb fc s = nI c := by unfold mz_tak1; rw [ek, ← ec]; rfl
      rw [mz_mkN_4 ek (show a < 2 ^ 31 by omega) ea (show b < 2 ^ 31 by omega) eb (show c < 2 ^ 31 by omega) ec]
      exact mz_kp_iw h hnv (mz_sw_anew (fb := fb) (fc := fc) hsw) (mz_lay_iw hF ⟨4, by omega, rfl, fun _ => mz_to_R h ha, fun _ => mz_from_R h hFI (by omega) hb (Or.inl (Or.inr ⟨hb, t0⟩)), fun _ => mz_from_R h hFI (by omega) hc (Or.inr ⟨hc, t1⟩), fun z => by omega, fun z => by omega⟩)
    · obtain ⟨a, ha, ea⟩ := h3 (by omega)
      obtain ⟨b, hb, eb⟩ := h4 (by omega)
      have t0 : mz_tak0 op fa fb s = nI b := by unfold mz_tak0; rw [ek, ← eb]; rfl
      rw [mz_mkN_5 ek (show a < 2 ^ 31 by omega) ea (show b < 2 ^ 31 by omega) eb]
      exact mz_kp_iw h hnv (mz_sw_anew (fb := fb) (fc := fc) hsw) (mz_lay_iw hF ⟨5, by omega, rfl, fun _ => mz_to_R h ha, fun _ => mz_from_R h hFI (by omega) hb (Or.inl (Or.inr ⟨hb, t0⟩)), fun z => by omega, fun z => by omega, fun z => by omega⟩)
    · obtain ⟨a, ha, ea⟩ := h3 (by omega)
      obtain ⟨b, hb, eb⟩ := h4 (by omega)
      have t0 : mz_tak0 op fa fb s = nI a := by unfold mz_tak0; rw [ek, ← ea]; rfl
      have t1 : mz_tak1 op fb fc s = nI b := by unfold mz_tak1; rw [ek, ← eb]; rfl
      rw [mz_mkN_6 ek (show a < 2 ^ 31 by omega) ea (show b < 2 ^ 31 by omega) eb]
      exact mz_kp_iw h hnv (mz_sw_anew (fb := fb) (fc := fc) hsw) (mz_lay_iw hF ⟨6, by omega, rfl, fun _ => mz_from_R h hFI (by omega) ha (Or.inl (Or.inr ⟨ha, t0⟩)), fun _ => mz_from_R h hFI (by omega) hb (Or.inr ⟨hb, t1⟩), fun z => by omega, fun z => by omega, fun z => by omega⟩)
    · obtain ⟨a, ha, ea⟩ := h3 (by omega)
      obtain ⟨b, hb, eb⟩ := h4 (by omega)
      have t0 : mz_tak0 op fa fb s = nI a := by unfold mz_tak0; rw [ek, ← ea]; rfl
      have t1 : mz_tak1 op fb fc s = nI b := by unfold mz_tak1; rw [ek, ← eb]; rfl
      rw [mz_mkN_7 ek (show a < 2 ^ 31 by omega) ea (show b < 2 ^ 31 by omega) eb]
      exact mz_kp_iw h hnv (mz_sw_anew (fb := fb) (fc := fc) hsw) (mz_lay_iw hF ⟨7, by omega, rfl, fun _ => mz_from_R h hFI (by omega) ha (Or.inl (Or.inr ⟨ha, t0⟩)), fun _ => mz_from_R h hFI (by omega) hb (Or.inr ⟨hb, t1⟩), fun z => by omega, fun _ => by obtain ⟨x, hx, ex⟩ := h7 rfl; exact ⟨x, by omega, ex⟩, fun z => by omega⟩)
    · rw [mz_mkN_8 ek]
      exact mz_kp_iw h hnv (mz_sw_anew (fb := fb) (fc := fc) hsw) (mz_lay_iw hF ⟨8, by omega, rfl, fun z => by omega, fun z => by omega, fun z => by omega, fun z => by omega, fun _ => by obtain ⟨x, hx, ex⟩ := h8 rfl; exact ⟨x, by omega, ex⟩⟩)
    · obtain ⟨a, ha, ea⟩ := h3 (by omega)
      have t0 : mz_tak0 op fa fb s = nI a := by unfold mz_tak0; rw [ek, ← ea]; rfl
      rw [mz_mkN_9 ek (show a < 2 ^ 31 by omega) ea]
      exact mz_kp_iw h hnv (mz_sw_anew (fb := fb) (fc := fc) hsw) (mz_lay_iw hF ⟨9, by omega, rfl, fun _ => mz_from_R h hFI (by omega) ha (Or.inl (Or.inr ⟨ha, t0⟩)), fun z => by omega, fun z => by omega, fun z => by omega, fun z => by omega⟩)
    · rw [mz_mkN_10 ek]
      exact mz_kp_iw h hnv (mz_sw_anew (fb := fb) (fc := fc) hsw) (mz_lay_iw hF ⟨10, by omega, rfl, fun z => by omega, fun z => by omega, fun z => by omega, fun z => by omega, fun z => by omega⟩)
theorem mz_cds_iw {op fa fb fc cl hm : Nat → Int32} {nv ns : Nat} (h : mz_vok nv cl hm) (hnv : nv ≤ 24) (hsw : ∀ s, s < ns → mz_sw nv (op s) (fa s) (fb s) (fc s)) : ∀ (m s : Nat) (fe it c : Nat → Int32) (n : Nat) (f c' : Nat → Int32) (n' : Nat) (f' : Nat → Int32), s + m = ns → n ≤ 4 * s → (∀ j, j < n → mz_iw c 0 j) → (∀ j, j < s → ∃ x, x ≤ 240 ∧ f j = nI x) → ns ≤ 60 → mz_cds op fa fb fc cl hm m s fe it c n f c' n' f' → (∀ j, j < n' → mz_iw c' 0 j) ∧ ∀ j, j < ns → ∃ x, x ≤ 240 ∧ f' j = nI x
  | 0, s, fe, it, c, n, f, c', n', f', hs, hn, hc, hf, h60, q => by
    obtain ⟨rfl, rfl, rfl⟩ := q
    exact ⟨hc, fun j hj => hf j (by omega)⟩
  | m + 1, s, fe, it, c, n, f, c', n', f', hs, hn, hc, hf, h60, q => by
    obtain ⟨fe', it', q⟩ := q
    have hle := mz_mk_le (op := op) (fa := fa) (fb := fb) (fc := fc) (cl := cl) (hm := hm) (fe := fe) (it := it) (c := c) (s := s) (n := n)
    refine mz_cds_iw h hnv hsw m (s + 1) fe' it' _ _ _ c' n' f' (by omega) (by omega) (mz_mk_iw h hnv (hsw s (by omega)) hc) (fun j hj => ?_) h60 q
    by_cases e : j = s
    · subst e; exact ⟨n, by omega, by simp [upd]⟩
    · simp only [upd, if_neg e]; exact hf j (by omega)
