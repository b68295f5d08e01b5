/-- the values that step s takes -/
def pz_T (op fa fb fc : Nat → Int32) (s v : Nat) : Prop := (mz_tak0 op fa fb s = nI v ∨ mz_tak1 op fb fc s = nI v) ∧ v < 2 ^ 31
/-- the code of step s lies at the items from p on, and ends before p'; tg: where a step to come next is found -/
def pz_code (nv : Nat) (op fa fb fc cl hm : Nat → Int32) (tg : Int32 → Int32) (c : Nat → Int32) (s p p' : Nat) : Prop :=
  (mz_ndl op fa fb cl hm s ∧ p' = p) ∨ (¬ mz_ndl op fa fb cl hm s ∧ ∃ q fe it, pz_fet nv cl hm c p q fe it (pz_T op fa fb fc s) ∧
    pz_at c (p + q) (op s) (if op s = nI 8 then tg (mz_xyz cl hm fe it q (op s).toNatClampNeg (fa s) (fb s) (fc s)).1 else (mz_xyz cl hm fe it q (op s).toNatClampNeg (fa s) (fb s) (fc s)).1) (mz_xyz cl hm fe it q (op s).toNatClampNeg (fa s) (fb s) (fc s)).2.1 (if op s = nI 7 then tg (mz_xyz cl hm fe it q (op s).toNatClampNeg (fa s) (fb s) (fc s)).2.2 else (mz_xyz cl hm fe it q (op s).toNatClampNeg (fa s) (fb s) (fc s)).2.2) ∧
    ((mz_anew op fa s = (-1) ∧ p' = p + q + 1) ∨ ∃ a, a < nv ∧ mz_anew op fa s = nI a ∧ ((¬ hm a < nI 100 ∧ pz_at c (p + q + 1) (nI 12) (mz_to cl hm a) (hm a - nI 100) (nI 0) ∧ p' = p + q + 1 + 1) ∨ (hm a < nI 100 ∧ p' = p + q + 1))))
/-- s' may come behind s -/
def pz_suc (op fa fc : Nat → Int32) (s s' : Nat) : Prop := (¬ op s = nI 8 ∧ ¬ op s = nI 10 ∧ s' = s + 1) ∨ (op s = nI 7 ∧ fc s = nI s') ∨ (op s = nI 8 ∧ fa s = nI s')
/-- what is live, and that homes keep it apart -/
def pz_lv (nv ns : Nat) (op fa fb fc cl hm : Nat → Int32) (Lv : Nat → Nat → Prop) : Prop :=
  (∀ s v, s < ns → pz_T op fa fb fc s v → Lv s v) ∧ (∀ s s' v, s < ns → v < nv → pz_suc op fa fc s s' → Lv s' v → ¬ mz_anew op fa s = nI v → Lv s v) ∧
  (∀ s a v, s < ns → a < nv → v < nv → mz_anew op fa s = nI a → Lv (s + 1) v → ¬ v = a → ¬ (op s = nI 1 ∧ fb s = nI v) → ¬ (cl v = cl a ∧ hm v = hm a)) ∧ ∀ s v, ns ≤ s → ¬ Lv s v
theorem pz_maker {nv n s p q p' a : Nat} {op fa cl hm c hd hd' l sd sl nw : Nat → Int32} {t : Nat} {x : Int32} {Lv : Nat → Nat → Prop} (hk : mz_vok nv cl hm) (ha : a < nv) (han : mz_anew op fa s = nI a) (hw : ∀ r, r % 16 < 8 → hd' r = hd r)
    (hc : (mz_anew op fa s = (-1) ∧ p' = p + q + 1) ∨ ∃ a, a < nv ∧ mz_anew op fa s = nI a ∧ ((¬ hm a < nI 100 ∧ pz_at c (p + q + 1) (nI 12) (mz_to cl hm a) (hm a - nI 100) (nI 0) ∧ p' = p + q + 1 + 1) ∨ (hm a < nI 100 ∧ p' = p + q + 1)))
    (hn : p' ≤ n) (hnv : nv ≤ 24) (hf : pz_R n c q (p, hd, l, sd, sl, t) (p + q, hd', l, sd, sl, t)) (hm1 : ∀ r, r < 32 → mz_to cl hm a = nI r → pz_nx c (p + q, hd', l, sd, sl, t) = (p + q + 1, upd hd' r x, l, sd, sl, t))
    (hd1 : ∀ v, v < nv → Lv (s + 1) v → ¬ v = a → ¬ (cl v = cl a ∧ hm v = hm a) ∧ pz_hv cl hm hd sl v = nw v) : ∃ k hd2 sl2, pz_R n c k (p, hd, l, sd, sl, t) (p', hd2, l, sd, sl2, t) ∧ ∀ v, v < nv → Lv (s + 1) v → pz_hv cl hm hd2 sl2 v = upd nw a x v := by
  rcases hc with ⟨h, -⟩ | ⟨a', ha', h, hc⟩
  · rw [han] at h
    exact absurd h (nI_nm1 (by omega))
  · have e : a = a' := (nI_eq (by omega) (by omega)).mp (han.symm.trans h)
    subst e
    have hlt : p + q < n := by
      rcases hc with ⟨-, -, h⟩ | ⟨-, h⟩ <;> omega
    obtain ⟨r, k, hd2, sl2, hr, er, h1, h2, h3⟩ := pz_keep (n := n) (i := p + q + 1) (p' := p') (a := a) (c := c) (hd := hd) (hd' := hd') (l := l) (sd := sd) (sl := sl) (t := t) (x := x) hk ha hw hc hn
    refine ⟨k + 1 + q, hd2, sl2, pz_R_tr q _ hf ⟨hlt, ?_⟩, fun v hv hl => ?_⟩
    · rw [hm1 r hr er]; exact h1
    · by_cases qv : v = a
      · subst qv; rw [pk_us]; exact h2
      · rw [pk_un qv, h3 v hv (hd1 v hv hl qv).1]; exact (hd1 v hv hl qv).2
set_option maxHeartbeats 1000000 in
theorem pz_step {nv ns n s : Nat} {op fa fb fc cl hm c hd l sd sl nw : Nat → Int32} {t : Nat} {tg : Int32 → Int32} {fN : Nat → Nat} {Lv : Nat → Nat → Prop} (hk : mz_vok nv cl hm) (hnv : nv ≤ 24) (hlv : pz_lv nv ns op fa fb fc cl hm Lv) (hs : s < ns) (hns : ns ≤ 60) (hsw : mz_sw nv (op s) (fa s) (fb s) (fc s)) (htg : ∀ x, x ≤ 60 → tg (nI x) = nI (fN x)) (hfn : ∀ x, fN x ≤ n) (hn : n ≤ 240) (hc : pz_code nv op fa fb fc cl hm tg c s (fN s) (fN (s + 1))) (hrel : ∀ v, v < nv → Lv s v → pz_hv cl hm hd sl v = nw v) :
    ∃ k i hd' sl', pz_R n c k (fN s, hd, l, sd, sl, t) (i, hd', (mz_do1 op fa fb fc s nw l sd t).2.1, (mz_do1 op fa fb fc s nw l sd t).2.2.1, sl', (mz_do1 op fa fb fc s nw l sd t).2.2.2.1) ∧ (i = fN (mz_do1 op fa fb fc s nw l sd t).2.2.2.2 ∨ (n ≤ i ∧ ns ≤ (mz_do1 op fa fb fc s nw l sd t).2.2.2.2)) ∧ ∀ v, v < nv → Lv (mz_do1 op fa fb fc s nw l sd t).2.2.2.2 v → pz_hv cl hm hd' sl' v = (mz_do1 op fa fb fc s nw l sd t).1 v := by
  obtain ⟨hl1, hl2, hl3, hl4⟩ := hlv
  obtain ⟨k, hk10, ek, h3, h4, h5, h6, h7, h8⟩ := id hsw
  have e1 := hfn (s + 1)
  rcases hc with ⟨⟨o1, c1, m1⟩, hp⟩ | ⟨hnd, q, fe, it, hfet, hmain, hkeep⟩
  · -- nothing is done
    obtain ⟨a, ha, ea⟩ := h3 (by have := (nI_eq (by omega) (by omega)).mp (ek.symm.trans o1); omega)
    obtain ⟨b, hb, eb⟩ := h4 (by have := (nI_eq (by omega) (by omega)).mp (ek.symm.trans o1); omega)
    have eD : mz_do1 op fa fb fc s nw l sd t = (upd nw a (nw b), l, sd, t, s + 1) := by
      simp [mz_do1, o1, ea, eb, nI_clamp, show a < 2147483648 by omega, show b < 2147483648 by omega]
    rw [ea, eb, nI_clamp (by omega), nI_clamp (by omega)] at c1 m1
    have han : mz_anew op fa s = nI a := by unfold mz_anew; rw [o1, if_neg (by decide), ea]
    rw [eD]
    refine ⟨0, fN s, hd, sl, rfl, Or.inl hp.symm, fun v hv hl => ?_⟩
    show pz_hv cl hm hd sl v = upd nw a (nw b) v
    by_cases qv : v = a
    · subst qv
      rw [pk_us, ← hrel b hb (hl1 s b hs ⟨Or.inl (by unfold mz_tak0; rw [if_pos (Or.inl o1), eb]), by omega⟩)]
      unfold pz_hv
      rw [c1, m1]
    · rw [pk_un qv]
      exact hrel v hv (hl2 s (s + 1) v hs hv (Or.inl ⟨by rw [o1]; decide, by rw [o1]; decide, rfl⟩) hl (by rw [han, nI_eq (by omega) (by omega)]; omega))
  · have hp2 : fN s + q + 1 ≤ n := by
      rcases hkeep with ⟨-, h⟩ | ⟨a, -, -, ⟨-, -, h⟩ | ⟨-, h⟩⟩ <;> omega
    have hTT : ∀ v, pz_T op fa fb fc s v → v < nv ∧ pz_hv cl hm hd sl v = nw v := by
      intro v ⟨hv, h31⟩
      have hlt : v < nv := by
        rcases hv with h | h
        · rcases mz_sw_tak0 hsw with z | ⟨x, hx, z⟩
          · rw [h] at z; exact absurd z (nI_nm1 h31)
          · rw [h, nI_eq h31 (by omega)] at z; omega
        · rcases mz_sw_tak1 hsw with z | ⟨x, hx, z⟩
          · rw [h] at z; exact absurd z (nI_nm1 h31)
          · rw [h, nI_eq h31 (by omega)] at z; omega
      exact ⟨hlt, hrel v hlt (hl1 s v hs ⟨hv, h31⟩)⟩
    obtain ⟨hd', hR, hfr, hw⟩ := pz_fet_run (n := n) (l := l) (sd := sd) (t := t) (nw := nw) hk hnv hTT (by omega) hfet
    have hlive : ∀ a v, a < nv → v < nv → mz_anew op fa s = nI a → ¬ op s = nI 8 → ¬ op s = nI 10 → fa s = nI a → Lv (s + 1) v → ¬ v = a → ¬ (cl v = cl a ∧ hm v = hm a) ∧ pz_hv cl hm hd sl v = nw v := by
      intro a v ha hv han n8 n10 ea hl hne
      refine ⟨fun z => ?_, hrel v hv (hl2 s (s + 1) v hs hv (Or.inl ⟨n8, n10, rfl⟩) hl (by rw [han, nI_eq (by omega) (by omega)]; omega))⟩
      by_cases qm : op s = nI 1 ∧ fb s = nI v
      · exact hnd ⟨qm.1, by rw [ea, qm.2, nI_clamp (by omega), nI_clamp (by omega)]; exact z.1.symm, by rw [ea, qm.2, nI_clamp (by omega), nI_clamp (by omega)]; exact z.2.symm⟩
      · exact hl3 s a v hs ha hv han hl hne qm z
    rcases (show k = 0 ∨ k = 1 ∨ (k = 2 ∨ k = 3 ∨ k = 4) ∨ k = 5 ∨ k = 6 ∨ k = 7 ∨ k = 8 ∨ k = 9 ∨ k = 10 by omega) with rfl | rfl | hk3 | rfl | rfl | rfl | rfl | rfl | rfl
    · obtain ⟨a, ha, ea⟩ := h3 (by omega)
      have han : mz_anew op fa s = nI a := by unfold mz_anew; rw [ek, if_neg (by decide), ea]
      rw [ek] at hmain
      simp only [nI_clamp (show 0 < 2 ^ 31 by omega), mz_xyz, ea, nI_clamp (show a < 2 ^ 31 by omega), if_neg (show ¬ nI 0 = nI 8 by decide), if_neg (show ¬ nI 0 = nI 7 by decide)] at hmain
      have eD : mz_do1 op fa fb fc s nw l sd t = (upd nw a (fb s), l, sd, t, s + 1) := by
        simp [mz_do1, ek, ea, nI_clamp, show a < 2147483648 by omega]
      rw [eD]
      obtain ⟨k2, hd2, sl2, z1, z2⟩ := pz_maker (x := fb s) (nw := nw) (Lv := Lv) hk ha han hw hkeep e1 hnv hR (fun r hr er => by rw [er] at hmain; exact pz_n0 hr hmain) (fun v hv hl hne => hlive a v ha hv han (by rw [ek]; decide) (by rw [ek]; decide) ea hl hne)
      exact ⟨k2, _, hd2, sl2, z1, Or.inl rfl, z2⟩
    · obtain ⟨a, ha, ea⟩ := h3 (by omega)
      obtain ⟨b, hb, eb⟩ := h4 (by omega)
      have han : mz_anew op fa s = nI a := by unfold mz_anew; rw [ek, if_neg (by decide), ea]
      obtain ⟨rb, hrb, erb, xb⟩ := hfr b ⟨Or.inl (by unfold mz_tak0; rw [ek, ← eb]; rfl), by omega⟩
      rw [ek] at hmain
      simp only [nI_clamp (show 1 < 2 ^ 31 by omega), mz_xyz, ea, eb, nI_clamp (show a < 2 ^ 31 by omega), nI_clamp (show b < 2 ^ 31 by omega), if_neg (show ¬ nI 1 = nI 8 by decide), if_neg (show ¬ nI 1 = nI 7 by decide), erb] at hmain
      have eD : mz_do1 op fa fb fc s nw l sd t = (upd nw a (nw b), l, sd, t, s + 1) := by
        simp [mz_do1, ek, ea, eb, nI_clamp, show a < 2147483648 by omega, show b < 2147483648 by omega]
      rw [eD]
      obtain ⟨k2, hd2, sl2, z1, z2⟩ := pz_maker (x := nw b) (nw := nw) (Lv := Lv) hk ha han hw hkeep e1 hnv hR (fun r hr er => by rw [er] at hmain; rw [pz_n1 hr hrb hmain, xb]) (fun v hv hl hne => hlive a v ha hv han (by rw [ek]; decide) (by rw [ek]; decide) ea hl hne)
      exact ⟨k2, _, hd2, sl2, z1, Or.inl rfl, z2⟩
    · obtain ⟨a, ha, ea⟩ := h3 (by omega)
      obtain ⟨b, hb, eb⟩ := h4 (by omega)
      obtain ⟨d, hdd, ed⟩ := h5 (by omega)
      have k8 : ¬ nI k = nI 8 := by rw [nI_eq (by omega) (by omega)]; omega
      have k10 : ¬ nI k = nI 10 := by rw [nI_eq (by omega) (by omega)]; omega
      have k7 : ¬ nI k = nI 7 := by rw [nI_eq (by omega) (by omega)]; omega
      have han : mz_anew op fa s = nI a := by unfold mz_anew; rw [ek, if_neg (by rw [nI_leI (by omega) (by omega)]; omega), ea]
      have t0 : mz_tak0 op fa fb s = nI b := by rcases hk3 with rfl | rfl | rfl <;> (unfold mz_tak0; rw [ek, ← eb]; rfl)
      have t1 : mz_tak1 op fb fc s = nI d := by rcases hk3 with rfl | rfl | rfl <;> (unfold mz_tak1; rw [ek, ← ed]; rfl)
      obtain ⟨rb, hrb, erb, xb⟩ := hfr b ⟨Or.inl t0, by omega⟩
      obtain ⟨rd, hrd, erd, xd⟩ := hfr d ⟨Or.inr t1, by omega⟩
      have exyz : mz_xyz cl hm fe it q k (nI a) (nI b) (nI d) = (mz_to cl hm a, nI rb, nI rd) := by rcases hk3 with rfl | rfl | rfl <;> simp only [mz_xyz, nI_clamp (show a < 2 ^ 31 by omega), nI_clamp (show b < 2 ^ 31 by omega), nI_clamp (show d < 2 ^ 31 by omega), erb, erd]
      rw [ek, nI_clamp (by omega), ea, eb, ed, exyz, if_neg k8, if_neg k7] at hmain
      have eD : mz_do1 op fa fb fc s nw l sd t = (upd nw a (mz_rk (nI k) (nw b) (nw d)), l, sd, t, s + 1) := by
        rcases hk3 with rfl | rfl | rfl <;> simp [mz_do1, ek, ea, eb, ed, nI_clamp, show a < 2147483648 by omega, show b < 2147483648 by omega, show d < 2147483648 by omega]
      rw [eD]
      obtain ⟨k2, hd2, sl2, z1, z2⟩ := pz_maker (x := mz_rk (nI k) (nw b) (nw d)) (nw := nw) (Lv := Lv) hk ha han hw hkeep e1 hnv hR (fun r hr er => by rw [er] at hmain; rw [pz_n234 hk3 hr hrb hrd hmain, xb, xd]) (fun v hv hl hne => hlive a v ha hv han (by rw [ek]; first | exact k8 | exact k10) (by rw [ek]; first | exact k8 | exact k10) ea hl hne)
      exact ⟨k2, _, hd2, sl2, z1, Or.inl rfl, z2⟩
    · obtain ⟨a, ha, ea⟩ := h3 (by omega)
      obtain ⟨b, hb, eb⟩ := h4 (by omega)
      have han : mz_anew op fa s = nI a := by unfold mz_anew; rw [ek, if_neg (by decide), ea]
      obtain ⟨rb, hrb, erb, xb⟩ := hfr b ⟨Or.inl (by unfold mz_tak0; rw [ek, ← eb]; rfl), by omega⟩
      rw [ek] at hmain
      simp only [nI_clamp (show 5 < 2 ^ 31 by omega), mz_xyz, ea, eb, nI_clamp (show a < 2 ^ 31 by omega), nI_clamp (show b < 2 ^ 31 by omega), if_neg (show ¬ nI 5 = nI 8 by decide), if_neg (show ¬ nI 5 = nI 7 by decide), erb] at hmain
      have eD : mz_do1 op fa fb fc s nw l sd t = (upd nw a (l (mz_cl (nw b + fc s))), l, sd, t, s + 1) := by
        simp [mz_do1, ek, ea, eb, nI_clamp, show a < 2147483648 by omega, show b < 2147483648 by omega]
      rw [eD]
      obtain ⟨k2, hd2, sl2, z1, z2⟩ := pz_maker (x := l (mz_cl (nw b + fc s))) (nw := nw) (Lv := Lv) hk ha han hw hkeep e1 hnv hR (fun r hr er => by rw [er] at hmain; rw [pz_n5 hr hrb hmain, xb]) (fun v hv hl hne => hlive a v ha hv han (by rw [ek]; decide) (by rw [ek]; decide) ea hl hne)
      exact ⟨k2, _, hd2, sl2, z1, Or.inl rfl, z2⟩
    · obtain ⟨a, ha, ea⟩ := h3 (by omega)
      obtain ⟨b, hb, eb⟩ := h4 (by omega)
      have han : mz_anew op fa s = (-1) := by unfold mz_anew; rw [ek, if_pos (by decide)]
      have hp3 : fN (s + 1) = fN s + q + 1 := by
        rcases hkeep with ⟨-, h⟩ | ⟨a, ha, h, -⟩
        · exact h
        · rw [han] at h; exact absurd h.symm (nI_nm1 (by omega))
      obtain ⟨ra, hra, era, xa⟩ := hfr a ⟨Or.inl (by unfold mz_tak0; rw [ek, ← ea]; rfl), by omega⟩
      obtain ⟨rb, hrb, erb, xb⟩ := hfr b ⟨Or.inr (by unfold mz_tak1; rw [ek, ← eb]; rfl), by omega⟩
      rw [ek] at hmain
      simp only [nI_clamp (show 6 < 2 ^ 31 by omega), mz_xyz, ea, eb, nI_clamp (show a < 2 ^ 31 by omega), nI_clamp (show b < 2 ^ 31 by omega), if_neg (show ¬ nI 6 = nI 8 by decide), if_neg (show ¬ nI 6 = nI 7 by decide), era, erb] at hmain
      have eD : mz_do1 op fa fb fc s nw l sd t = (nw, upd l (mz_cl (nw b + fc s)) (nw a), sd, t, s + 1) := by
        simp [mz_do1, ek, ea, eb, nI_clamp, show a < 2147483648 by omega, show b < 2147483648 by omega]
      rw [eD]
      exact ⟨1 + q, _, hd', sl, pz_R_tr q _ hR (pz_R_1 (by show fN s + q < n; omega) (by rw [pz_n6 hra hrb hmain, xa, xb])), Or.inl hp3.symm, fun v hv hl => by rw [pz_hv_w hk hw hv]; exact hrel v hv (hl2 s (s + 1) v hs hv (Or.inl ⟨by rw [ek]; decide, by rw [ek]; decide, rfl⟩) hl (by rw [han]; exact fun z => nI_nm1 (by omega) z.symm))⟩
    · obtain ⟨a, ha, ea⟩ := h3 (by omega)
      obtain ⟨b, hb, eb⟩ := h4 (by omega)
      obtain ⟨d, hdd, ed⟩ := h7 rfl
      have han : mz_anew op fa s = (-1) := by unfold mz_anew; rw [ek, if_pos (by decide)]
      have hp3 : fN (s + 1) = fN s + q + 1 := by
        rcases hkeep with ⟨-, h⟩ | ⟨a, ha, h, -⟩
        · exact h
        · rw [han] at h; exact absurd h.symm (nI_nm1 (by omega))
      obtain ⟨ra, hra, era, xa⟩ := hfr a ⟨Or.inl (by unfold mz_tak0; rw [ek, ← ea]; rfl), by omega⟩
      obtain ⟨rb, hrb, erb, xb⟩ := hfr b ⟨Or.inr (by unfold mz_tak1; rw [ek, ← eb]; rfl), by omega⟩
      rw [ek] at hmain
      have hfd := hfn d
      simp only [nI_clamp (show 7 < 2 ^ 31 by omega), mz_xyz, ea, eb, ed, nI_clamp (show a < 2 ^ 31 by omega), nI_clamp (show b < 2 ^ 31 by omega), if_neg (show ¬ nI 7 = nI 8 by decide), if_true, htg d hdd, era, erb] at hmain
      have eD : mz_do1 op fa fb fc s nw l sd t = (nw, l, sd, t, if nw b ≤ nw a then s + 1 else d) := by
        simp [mz_do1, ek, ea, eb, ed, nI_clamp, show a < 2147483648 by omega, show b < 2147483648 by omega, show d < 2147483648 by omega]
      rw [eD]
      have hnx := pz_n7 (hd := hd') (l := l) (sd := sd) (sl := sl) (t := t) hra hrb (by omega) hmain
      rw [xa, xb] at hnx
      by_cases qq : nw b ≤ nw a
      · rw [if_pos qq] at hnx ⊢
        exact ⟨1 + q, _, hd', sl, pz_R_tr q _ hR (pz_R_1 (by show fN s + q < n; omega) hnx), Or.inl hp3.symm, fun v hv hl => by rw [pz_hv_w hk hw hv]; exact hrel v hv (hl2 s (s + 1) v hs hv (Or.inl ⟨by rw [ek]; decide, by rw [ek]; decide, rfl⟩) hl (by rw [han]; exact fun z => nI_nm1 (by omega) z.symm))⟩
      · rw [if_neg qq] at hnx ⊢
        exact ⟨1 + q, _, hd', sl, pz_R_tr q _ hR (pz_R_1 (by show fN s + q < n; omega) hnx), Or.inl rfl, fun v hv hl => by rw [pz_hv_w hk hw hv]; exact hrel v hv (hl2 s d v hs hv (Or.inr (Or.inl ⟨ek, ed⟩)) hl (by rw [han]; exact fun z => nI_nm1 (by omega) z.symm))⟩
    · obtain ⟨a, ha, ea⟩ := h8 rfl
      have han : mz_anew op fa s = (-1) := by unfold mz_anew; rw [ek, if_pos (by decide)]
      rw [ek] at hmain
      have hfa := hfn a
      simp only [nI_clamp (show 8 < 2 ^ 31 by omega), mz_xyz, ea, if_true, htg a ha, if_neg (show ¬ nI 8 = nI 7 by decide)] at hmain
      have eD : mz_do1 op fa fb fc s nw l sd t = (nw, l, sd, t, a) := by
        simp [mz_do1, ek, ea, nI_clamp, show a < 2147483648 by omega]
      rw [eD]
      exact ⟨1 + q, _, hd', sl, pz_R_tr q _ hR (pz_R_1 (by show fN s + q < n; omega) (pz_n8 (by omega) hmain)), Or.inl rfl, fun v hv hl => by rw [pz_hv_w hk hw hv]; exact hrel v hv (hl2 s a v hs hv (Or.inr (Or.inr ⟨ek, ea⟩)) hl (by rw [han]; exact fun z => nI_nm1 (by omega) z.symm))⟩
    · obtain ⟨a, ha, ea⟩ := h3 (by omega)
      have han : mz_anew op fa s = (-1) := by unfold mz_anew; rw [ek, if_pos (by decide)]
      have hp3 : fN (s + 1) = fN s + q + 1 := by
        rcases hkeep with ⟨-, h⟩ | ⟨a, ha, h, -⟩
        · exact h
        · rw [han] at h; exact absurd h.symm (nI_nm1 (by omega))
      obtain ⟨ra, hra, era, xa⟩ := hfr a ⟨Or.inl (by unfold mz_tak0; rw [ek, ← ea]; rfl), by omega⟩
      rw [ek] at hmain
      simp only [nI_clamp (show 9 < 2 ^ 31 by omega), mz_xyz, ea, nI_clamp (show a < 2 ^ 31 by omega), if_neg (show ¬ nI 9 = nI 8 by decide), if_neg (show ¬ nI 9 = nI 7 by decide), era] at hmain
      have eD : mz_do1 op fa fb fc s nw l sd t = (nw, l, mz_sy t sd (nw a), t + 1, s + 1) := by
        simp [mz_do1, ek, ea, nI_clamp, show a < 2147483648 by omega]
      rw [eD]
      exact ⟨1 + q, _, hd', sl, pz_R_tr q _ hR (pz_R_1 (by show fN s + q < n; omega) (by rw [pz_n9 hra hmain, xa])), Or.inl hp3.symm, fun v hv hl => by rw [pz_hv_w hk hw hv]; exact hrel v hv (hl2 s (s + 1) v hs hv (Or.inl ⟨by rw [ek]; decide, by rw [ek]; decide, rfl⟩) hl (by rw [han]; exact fun z => nI_nm1 (by omega) z.symm))⟩
    · have han : mz_anew op fa s = (-1) := by unfold mz_anew; rw [ek, if_pos (by decide)]
      rw [ek] at hmain
      simp only [nI_clamp (show 10 < 2 ^ 31 by omega), mz_xyz, if_neg (show ¬ nI 10 = nI 8 by decide), if_neg (show ¬ nI 10 = nI 7 by decide)] at hmain
      have eD : mz_do1 op fa fb fc s nw l sd t = (nw, l, sd, t, 60) := by
        simp [mz_do1, ek, nI_clamp]
      rw [eD]
      exact ⟨1 + q, 400, hd', sl, pz_R_tr q _ hR (pz_R_1 (by show fN s + q < n; omega) (pz_n10 hmain)), Or.inr ⟨by omega, hns⟩, fun v hv hl => absurd hl (hl4 60 v hns)⟩
/-- where the run of the steps ends, so does that of the code, and both say and leave the same -/
theorem pz_sim {nv ns n : Nat} {op fa fb fc cl hm c : Nat → Int32} {tg : Int32 → Int32} {fN : Nat → Nat} {Lv : Nat → Nat → Prop} (hk : mz_vok nv cl hm) (hnv : nv ≤ 24) (hlv : pz_lv nv ns op fa fb fc cl hm Lv) (hns : ns ≤ 60) (hsw : ∀ s, s < ns → mz_sw nv (op s) (fa s) (fb s) (fc s)) (htg : ∀ x, x ≤ 60 → tg (nI x) = nI (fN x)) (hfn : ∀ x, fN x ≤ n) (hfe : ∀ x, ns ≤ x → fN x = n) (hn : n ≤ 240) (hc : ∀ s, s < ns → pz_code nv op fa fb fc cl hm tg c s (fN s) (fN (s + 1))) :
    ∀ (m s j : Nat) (nw l sd hd sl : Nat → Int32) (t i : Nat), (i = fN s ∨ (n ≤ i ∧ ns ≤ s)) → (∀ v, v < nv → Lv s v → pz_hv cl hm hd sl v = nw v) → ns ≤ (mz_rnS ns op fa fb fc m s j nw l sd t).1 → ∃ k i' hd' sl', pz_R n c k (i, hd, l, sd, sl, t) (i', hd', (mz_rnS ns op fa fb fc m s j nw l sd t).2.2.2.1, (mz_rnS ns op fa fb fc m s j nw l sd t).2.2.2.2.1, sl', (mz_rnS ns op fa fb fc m s j nw l sd t).2.2.2.2.2) ∧ n ≤ i'
  | 0, s, j, nw, l, sd, hd, sl, t, i, hi, hrel, he => by
    have he : ns ≤ s := he
    have : n ≤ i := by rcases hi with h | h; rw [hfe s he] at h; omega; exact h.1
    exact ⟨0, i, hd, sl, rfl, this⟩
  | m + 1, s, j, nw, l, sd, hd, sl, t, i, hi, hrel, he => by
    by_cases q : ns ≤ s
    · unfold mz_rnS
      rw [if_pos q]
      have : n ≤ i := by rcases hi with h | h; rw [hfe s q] at h; omega; exact h.1
      exact ⟨0, i, hd, sl, rfl, this⟩
    · unfold mz_rnS at he ⊢
      rw [if_neg q] at he ⊢
      have hi2 : i = fN s := hi.resolve_right (fun z => q z.2)
      subst hi2
      obtain ⟨k, i', hd', sl', z1, z2, z3⟩ := pz_step (hd := hd) (l := l) (sd := sd) (sl := sl) (nw := nw) (t := t) hk hnv hlv (by omega) hns (hsw s (by omega)) htg hfn hn (hc s (by omega)) hrel
      obtain ⟨k2, i2, hd2, sl2, y1, y2⟩ := pz_sim hk hnv hlv hns hsw htg hfn hfe hn hc m _ (j + 1) _ _ _ hd' sl' _ i' z2 z3 he
      exact ⟨k2 + k, i2, hd2, sl2, pz_R_tr k _ z1 y1, y2⟩
