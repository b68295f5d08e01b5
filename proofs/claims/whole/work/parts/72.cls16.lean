theorem mz_set_o {nv ns : Nat} {op fa fb cl rg wy od : Nat → Int32} : ∀ (m i : Nat) (hm hm' : Nat → Int32), mz_set nv ns op fa fb cl rg wy od m i hm hm' → ∀ u, nv ≤ u → hm' u = hm u
  | 0, i, hm, hm', h => fun u _ => by rw [show hm' = hm from h]
  | m + 1, i, hm, hm', h => fun u hu => by
    obtain ⟨t, cc, R, x, ht, -, -, -, -, -, -, h⟩ := h
    rw [mz_set_o m (i + 1) _ hm' h u hu, pk_un (by omega)]
theorem mz_stl_o {nv ns : Nat} {A A' : Nat → Nat → Int32} (h : mz_stl nv ns A A') : ∀ u, nv ≤ u → A' m_homes u = A m_homes u := by
  obtain ⟨k, hm, -, h2, rfl⟩ := h
  intro u hu
  show hm u = A m_homes u
  rw [mz_set_o nv 0 _ hm h2 u hu]
  unfold mz_N
  rw [mz_none_at, if_neg (by omega)]
/-- what working out may change -/
def cz_fA (A A' : Nat → Nat → Int32) : Prop := ∀ k, (k < 13 ∨ k = 15 ∨ k = 16 ∨ k = 21 ∨ k = 23 ∨ k = 25 ∨ k = 30 ∨ 35 ≤ k) → A' k = A k
def cz_fI (I I' : Nat → Nat → Int32) : Prop := ∀ a j, ¬ (a = 0 ∧ j = 11) → ¬ (a = 25 ∧ j = 4) → ¬ (a = 30 ∧ j = 4) → I' a j = I a j
theorem cz_fA_t {A B C : Nat → Nat → Int32} (h1 : cz_fA A B) (h2 : cz_fA B C) : cz_fA A C := fun k hk => (h2 k hk).trans (h1 k hk)
theorem cz_fI_t {A B C : Nat → Nat → Int32} (h1 : cz_fI A B) (h2 : cz_fI B C) : cz_fI A C := fun a j x y z => (h2 a j x y z).trans (h1 a j x y z)
theorem cz_fA_r {A : Nat → Nat → Int32} : cz_fA A A := fun _ _ => rfl
theorem cz_fI_r {I : Nat → Nat → Int32} : cz_fI I I := fun _ _ _ _ _ => rfl
theorem cz_fA_u {A A' : Nat → Nat → Int32} {b : Nat} {g : Nat → Int32} (h : cz_fA A A') (hb : ¬ (b < 13 ∨ b = 15 ∨ b = 16 ∨ b = 21 ∨ b = 23 ∨ b = 25 ∨ b = 30 ∨ 35 ≤ b)) : cz_fA A (upA A' b g) := fun k hk => by
  have hne : k ≠ b := fun z => hb (by rw [← z]; exact hk)
  rw [upA_n hne]
  exact h k hk
theorem cz_K_c {nv ns : Nat} {I I' A A' : Nat → Nat → Int32} (hI : cz_fI I I') (hA : cz_fA A A') (h20 : ∀ v, nv ≤ v → A' 20 v = 0) (h : cz_K nv ns I A) : cz_K nv ns I' A' := by
  unfold cz_K at h ⊢
  rw [hI 1 6 (by omega) (by omega) (by omega), hI 4 4 (by omega) (by omega) (by omega), hA 2 (by omega), hA 3 (by omega), hA 5 (by omega), hA 6 (by omega), hA 7 (by omega), hA 8 (by omega), hA 9 (by omega), hA 10 (by omega), hA 11 (by omega), hA 16 (by omega)]
  obtain ⟨a1, a2, a3, a4, a5, a6, a7, a8, a9, a10, a11, -⟩ := h
  exact ⟨a1, a2, a3, a4, a5, a6, a7, a8, a9, a10, a11, h20⟩
theorem cz_sp_c {nv : Nat} {A A' B : Nat → Nat → Int32} (hA : cz_fA A A') : cz_sp nv A' B ↔ cz_sp nv A B := by
  unfold cz_sp
  rw [hA 2 (by omega), hA 5 (by omega), hA 6 (by omega), hA 7 (by omega), hA 8 (by omega), hA 16 (by omega)]
theorem cz_F1_c {nv ns : Nat} {A A' : Nat → Nat → Int32} (hA : cz_fA A A') (e1 : A' 13 = A 13) (e2 : A' 14 = A 14) (h : cz_F1 nv ns A) : cz_F1 nv ns A' := by
  intro B k hB hk
  rw [e1, e2]
  exact h B k ((cz_sp_c hA).mp hB) hk
theorem cz_F2_c {nv ns : Nat} {A A' : Nat → Nat → Int32} (hA : cz_fA A A') (e1 : A' 17 = A 17) (e2 : A' 18 = A 18) (e3 : A' 20 = A 20) (h : cz_F2 nv ns A) : cz_F2 nv ns A' := by
  intro B B1 hB hk
  rw [e1, e2, e3]
  exact h B B1 ((cz_sp_c hA).mp hB) hk
theorem cz_F3_c {nv ns : Nat} {I I' A A' : Nat → Nat → Int32} (hA : cz_fA A A') (eI : I' 25 4 = I 25 4) (e : cz_v A' = cz_v A) (h : cz_F3 nv ns I A) : cz_F3 nv ns I' A' := by
  obtain ⟨n, h1, h2, h3, h4, h5⟩ := h
  refine ⟨n, h1, by rw [eI]; exact h2, by rw [e]; exact h3, by rw [e]; exact h4, fun B B1 fe it c0 f0 c n' f hB hst hc => ?_⟩
  rw [e]
  exact h5 B B1 fe it c0 f0 c n' f ((cz_sp_c hA).mp hB) hst hc
theorem cz_F4_c {nv ns : Nat} {I I' A A' : Nat → Nat → Int32} (hA : cz_fA A A') (eI : I' 30 4 = I 30 4) (e : cz_tv A' = cz_tv A) (h : cz_F4 nv ns I A) : cz_F4 nv ns I' A' := by
  obtain ⟨n, h1, h2, h3, h5⟩ := h
  refine ⟨n, h1, by rw [eI]; exact h2, by rw [e]; exact h3, fun B B1 fe it c0 f0 c n' f cR nR hB hst hc hn ht => ?_⟩
  rw [e]
  exact h5 B B1 fe it c0 f0 c n' f cR nR ((cz_sp_c hA).mp hB) hst hc hn ht
def cz_L (l nv ns : Nat) (I A : Nat → Nat → Int32) : Prop := (1 ≤ l → cz_F1 nv ns A) ∧ (2 ≤ l → cz_F2 nv ns A) ∧ (3 ≤ l → cz_F3 nv ns I A) ∧ (4 ≤ l → cz_F4 nv ns I A)
set_option maxRecDepth 100000 in
set_option maxHeartbeats 4000000 in
theorem cw_1s {G : am_G} {Fn : Array Value → State → List Frame → State → Prop} (I A : Nat → Nat → Int32) (rd w : Nat) (hrd : I 0 11 = nI rd) (hr4 : rd ≤ 4) (hw : w ≤ 4) (h : ¬ (rd < 1 ∧ 1 ≤ w)) (hk : V G MX7_workOut (am_R 5 123 0 0) Fn 0 0 35 [(0, .ref 0), (1, .int (nI w))] [] (hp I A)) : V G MX7_workOut (am_R 5 123 0 0) Fn 0 0 0 [(0, .ref 0), (1, .int (nI w))] [] (hp I A) := by
  refine V.aload_n (j := 0) rfl dX7_workOut_0 ?_
  refine V.geti (v := nI rd) dX7_workOut_1 fX7_73 rfl rfl hrd ?_
  refine V.iconst (v := nI 1) (by decide) dX7_workOut_4 ?_
  refine V.icmp_geN (tgt := 35) dX7_workOut_5 (by decide) (by omega) (by omega) (fun c1 => ?_) (fun c1 => ?_)
  · exact hk
  · refine V.iload_n (j := 1) rfl dX7_workOut_8 ?_
    refine V.iconst (v := nI 1) (by decide) dX7_workOut_9 ?_
    refine V.icmp_ltN (tgt := 35) dX7_workOut_10 (by decide) (by omega) (by omega) (fun c2 => ?_) (fun c2 => ?_)
    · exact hk
    · exact absurd ⟨by omega, by omega⟩ h
set_option maxRecDepth 100000 in
set_option maxHeartbeats 4000000 in
theorem cw_2s {G : am_G} {Fn : Array Value → State → List Frame → State → Prop} (I A : Nat → Nat → Int32) (rd w : Nat) (hrd : I 0 11 = nI rd) (hr4 : rd ≤ 4) (hw : w ≤ 4) (h : ¬ (rd < 2 ∧ 2 ≤ w)) (hk : V G MX7_workOut (am_R 5 123 0 0) Fn 0 0 66 [(0, .ref 0), (1, .int (nI w))] [] (hp I A)) : V G MX7_workOut (am_R 5 123 0 0) Fn 0 0 35 [(0, .ref 0), (1, .int (nI w))] [] (hp I A) := by
  refine V.aload_n (j := 0) rfl dX7_workOut_35 ?_
  refine V.geti (v := nI rd) dX7_workOut_36 fX7_73 rfl rfl hrd ?_
  refine V.iconst (v := nI 2) (by decide) dX7_workOut_39 ?_
  refine V.icmp_geN (tgt := 66) dX7_workOut_40 (by decide) (by omega) (by omega) (fun c1 => ?_) (fun c1 => ?_)
  · exact hk
  · refine V.iload_n (j := 1) rfl dX7_workOut_43 ?_
    refine V.iconst (v := nI 2) (by decide) dX7_workOut_44 ?_
    refine V.icmp_ltN (tgt := 66) dX7_workOut_45 (by decide) (by omega) (by omega) (fun c2 => ?_) (fun c2 => ?_)
    · exact hk
    · exact absurd ⟨by omega, by omega⟩ h
set_option maxRecDepth 100000 in
set_option maxHeartbeats 4000000 in
theorem cw_3s {G : am_G} {Fn : Array Value → State → List Frame → State → Prop} (I A : Nat → Nat → Int32) (rd w : Nat) (hrd : I 0 11 = nI rd) (hr4 : rd ≤ 4) (hw : w ≤ 4) (h : ¬ (rd < 3 ∧ 3 ≤ w)) (hk : V G MX7_workOut (am_R 5 123 0 0) Fn 0 0 98 [(0, .ref 0), (1, .int (nI w))] [] (hp I A)) : V G MX7_workOut (am_R 5 123 0 0) Fn 0 0 66 [(0, .ref 0), (1, .int (nI w))] [] (hp I A) := by
  refine V.aload_n (j := 0) rfl dX7_workOut_66 ?_
  refine V.geti (v := nI rd) dX7_workOut_67 fX7_73 rfl rfl hrd ?_
  refine V.iconst (v := nI 3) (by decide) dX7_workOut_70 ?_
  refine V.icmp_geN (tgt := 98) dX7_workOut_71 (by decide) (by omega) (by omega) (fun c1 => ?_) (fun c1 => ?_)
  · exact hk
  · refine V.iload_n (j := 1) rfl dX7_workOut_74 ?_
    refine V.iconst (v := nI 3) (by decide) dX7_workOut_75 ?_
    refine V.icmp_ltN (tgt := 98) dX7_workOut_76 (by decide) (by omega) (by omega) (fun c2 => ?_) (fun c2 => ?_)
    · exact hk
    · exact absurd ⟨by omega, by omega⟩ h
set_option maxRecDepth 100000 in
set_option maxHeartbeats 4000000 in
theorem cw_4s {G : am_G} {Fn : Array Value → State → List Frame → State → Prop} (I A : Nat → Nat → Int32) (rd w : Nat) (hrd : I 0 11 = nI rd) (hr4 : rd ≤ 4) (hw : w ≤ 4) (h : ¬ (rd < 4 ∧ 4 ≤ w)) (hk : V G MX7_workOut (am_R 5 123 0 0) Fn 0 0 133 [(0, .ref 0), (1, .int (nI w))] [] (hp I A)) : V G MX7_workOut (am_R 5 123 0 0) Fn 0 0 98 [(0, .ref 0), (1, .int (nI w))] [] (hp I A) := by
  refine V.aload_n (j := 0) rfl dX7_workOut_98 ?_
  refine V.geti (v := nI rd) dX7_workOut_99 fX7_73 rfl rfl hrd ?_
  refine V.iconst (v := nI 4) (by decide) dX7_workOut_102 ?_
  refine V.icmp_geN (tgt := 133) dX7_workOut_103 (by decide) (by omega) (by omega) (fun c1 => ?_) (fun c1 => ?_)
  · exact hk
  · refine V.iload_n (j := 1) rfl dX7_workOut_106 ?_
    refine V.iconst (v := nI 4) (by decide) dX7_workOut_107 ?_
    refine V.icmp_ltN (tgt := 133) dX7_workOut_108 (by decide) (by omega) (by omega) (fun c2 => ?_) (fun c2 => ?_)
    · exact hk
    · exact absurd ⟨by omega, by omega⟩ h
set_option maxRecDepth 100000 in
set_option maxHeartbeats 4000000 in
theorem cw_1 {G : am_G} {Fn : Array Value → State → List Frame → State → Prop} (I A : Nat → Nat → Int32) (nv ns : Nat) (hK : cz_K nv ns I A) (rd w : Nat) (hrd : I 0 11 = nI rd) (hr4 : rd ≤ 4) (hw : w ≤ 4) (h : rd < 1 ∧ 1 ≤ w) (hk : ∀ A', cz_fA A A' → cz_K nv ns I A' → cz_F1 nv ns A' → V G MX7_workOut (am_R 5 123 0 0) Fn 0 0 35 [(0, .ref 0), (1, .int (nI w))] [] (hp I A')) : V G MX7_workOut (am_R 5 123 0 0) Fn 0 0 0 [(0, .ref 0), (1, .int (nI w))] [] (hp I A) := by
  obtain ⟨hn, hs, hnv, hns, hsw, hcl, hrg, hmem, h9, h10, h11, h20⟩ := id hK
  have h8 : ∀ s, s < ns → A 5 s = nI 8 → ¬ A 6 s < 0 := fun s hs e => mz_sw_8 (hsw s hs) e
  have h7 : ∀ s, s < ns → A 5 s = nI 7 → ¬ A 8 s < 0 := fun s hs e => mz_sw_7 (hsw s hs) e
  have hA : ∀ s, s < ns → mz_anew (A 5) (A 6) s = (-1) ∨ ∃ a, a < nv ∧ mz_anew (A 5) (A 6) s = nI a := fun s hs => mz_sw_anew (fb := A 7) (fc := A 8) (hsw s hs)
  obtain ⟨kf, hkb, hkf, hmin⟩ := cz_ends hnv hns hsw h8 h7 (f := (mz_fill ns 0 (A 13))) (fun s hs => by rw [mz_fill_at, if_pos (by omega)])
  refine V.aload_n (j := 0) rfl dX7_workOut_0 ?_
  refine V.geti (v := nI rd) dX7_workOut_1 fX7_73 rfl rfl hrd ?_
  refine V.iconst (v := nI 1) (by decide) dX7_workOut_4 ?_
  refine V.icmp_geN (tgt := 35) dX7_workOut_5 (by decide) (by omega) (by omega) (fun c1 => ?_) (fun c1 => ?_)
  · exact absurd c1 (by omega)
  · refine V.iload_n (j := 1) rfl dX7_workOut_8 ?_
    refine V.iconst (v := nI 1) (by decide) dX7_workOut_9 ?_
    refine V.icmp_ltN (tgt := 35) dX7_workOut_10 (by decide) (by omega) (by omega) (fun c2 => ?_) (fun c2 => ?_)
    · exact absurd c2 (by omega)
    · refine V.aload_n (j := 0) rfl dX7_workOut_13 ?_
      refine V.getr (q := 12) dX7_workOut_14 fX7_19 rfl rfl ?_
      refine V.aload_n (j := 0) rfl dX7_workOut_17 ?_
      refine V.getr (q := 1) dX7_workOut_18 fX7_12 rfl rfl ?_
      refine V.cV (As := [.ref 1]) (st := []) dX7_workOut_21 sX7_172 iX1_spread lX1_spread rfl rfl (cd_spread I A ns hs hns h8 h7 h9 h10 h11 kf hkb hkf hmin) ⟨by decide, by decide⟩ (Nat.le_of_ble_eq_true rfl) rfl (fun r I' A' hq => ?_)
      obtain ⟨rfl, rfl, rfl⟩ := hq
      refine V.st (st' := []) rfl ?_
      refine V.aload_n (j := 0) rfl dX7_workOut_24 ?_
      refine V.getr (q := 12) dX7_workOut_25 fX7_19 rfl rfl ?_
      refine V.aload_n (j := 0) rfl dX7_workOut_28 ?_
      refine V.getr (q := 1) dX7_workOut_29 fX7_12 rfl rfl ?_
      refine V.cV (As := [.ref 1]) (st := []) dX7_workOut_32 sX7_176 iX1_collide lX1_collide rfl rfl (cd_collide I (upA A 13 (cz_it ns (A 5) (A 6) (A 7) (A 8) (mz_fill ns 0 (A 13)) (kf + 1))) nv hn hnv ns hs hns h8 h7 hA hcl h9) ⟨by decide, by decide⟩ (Nat.le_of_ble_eq_true rfl) rfl (fun r I' A' hq => ?_)
      obtain ⟨rfl, rfl, rfl⟩ := hq
      refine V.st (st' := []) rfl ?_
      exact hk _ (cz_fA_u (cz_fA_u cz_fA_r (by omega)) (by omega)) (cz_K_c cz_fI_r (cz_fA_u (cz_fA_u cz_fA_r (by omega)) (by omega)) h20 hK) (cz_mkF1 hK (fun s hs => by rw [mz_fill_at, if_pos (by omega)]) hkf)
set_option maxRecDepth 100000 in
set_option maxHeartbeats 4000000 in
theorem cw_2 {G : am_G} {Fn : Array Value → State → List Frame → State → Prop} (I A : Nat → Nat → Int32) (hst : am_sta G) (nv ns : Nat) (hK : cz_K nv ns I A) (hF1 : cz_F1 nv ns A) (rd w : Nat) (hrd : I 0 11 = nI rd) (hr4 : rd ≤ 4) (hw : w ≤ 4) (h : rd < 2 ∧ 2 ≤ w) (hk : ∀ A', cz_fA A A' → cz_K nv ns I A' → cz_F1 nv ns A' → cz_F2 nv ns A' → V G MX7_workOut (am_R 5 123 0 0) Fn 0 0 66 [(0, .ref 0), (1, .int (nI w))] [] (hp I A')) : V G MX7_workOut (am_R 5 123 0 0) Fn 0 0 35 [(0, .ref 0), (1, .int (nI w))] [] (hp I A) := by
  obtain ⟨hn, hs, hnv, hns, hsw, hcl, hrg, hmem, h9, h10, h11, h20⟩ := id hK
  have h8 : ∀ s, s < ns → A 5 s = nI 8 → ¬ A 6 s < 0 := fun s hs e => mz_sw_8 (hsw s hs) e
  have h7 : ∀ s, s < ns → A 5 s = nI 7 → ¬ A 8 s < 0 := fun s hs e => mz_sw_7 (hsw s hs) e
  have hA : ∀ s, s < ns → mz_anew (A 5) (A 6) s = (-1) ∨ ∃ a, a < nv ∧ mz_anew (A 5) (A 6) s = nI a := fun s hs => mz_sw_anew (fb := A 7) (fc := A 8) (hsw s hs)
  refine V.aload_n (j := 0) rfl dX7_workOut_35 ?_
  refine V.geti (v := nI rd) dX7_workOut_36 fX7_73 rfl rfl hrd ?_
  refine V.iconst (v := nI 2) (by decide) dX7_workOut_39 ?_
  refine V.icmp_geN (tgt := 66) dX7_workOut_40 (by decide) (by omega) (by omega) (fun c1 => ?_) (fun c1 => ?_)
  · exact absurd c1 (by omega)
  · refine V.iload_n (j := 1) rfl dX7_workOut_43 ?_
    refine V.iconst (v := nI 2) (by decide) dX7_workOut_44 ?_
    refine V.icmp_ltN (tgt := 66) dX7_workOut_45 (by decide) (by omega) (by omega) (fun c2 => ?_) (fun c2 => ?_)
    · exact absurd c2 (by omega)
    · refine V.aload_n (j := 0) rfl dX7_workOut_48 ?_
      refine V.getr (q := 15) dX7_workOut_49 fX7_26 rfl rfl ?_
      refine V.aload_n (j := 0) rfl dX7_workOut_52 ?_
      refine V.getr (q := 1) dX7_workOut_53 fX7_12 rfl rfl ?_
      refine V.aload_n (j := 0) rfl dX7_workOut_56 ?_
      refine V.getr (q := 12) dX7_workOut_57 fX7_19 rfl rfl ?_
      refine V.getr (q := 14) dX7_workOut_60 fX7_117 rfl rfl ?_
      refine V.cV (As := [.ref 1, .ref 14]) (st := []) dX7_workOut_63 sX7_179 iX2_settle lX2_settle rfl rfl (cd_settle I A hst nv hn hnv ns hs hns hsw hcl) ⟨by decide, by decide⟩ (Nat.le_of_ble_eq_true rfl) rfl (fun r I' A' hq => ?_)
      obtain ⟨rfl, rfl, rfl⟩ := hq
      refine V.st (st' := []) rfl ?_
      have hfr : cz_fA A (upA (upA (upA (upA A 17 (mz_meetG (A 5) (A 6) (A 7) (A 8) ns 0 (mz_fill nv 0 (A 17)))) 19 (cz_jj (A 5) (A 6) (A 7) (A 2) ns 0 (mz_fill nv 0 (A 19)))) 18 (mz_sort (mz_meetG (A 5) (A 6) (A 7) (A 8) ns 0 (mz_fill nv 0 (A 17))) nv 0 (A 18))) 20 (cz_set (A 2) (A 16) (A 14) (cz_jj (A 5) (A 6) (A 7) (A 2) ns 0 (mz_fill nv 0 (A 19))) (mz_sort (mz_meetG (A 5) (A 6) (A 7) (A 8) ns 0 (mz_fill nv 0 (A 17))) nv 0 (A 18)) nv 0 (mz_none nv 0 (A 20)))) := (cz_fA_u (cz_fA_u (cz_fA_u (cz_fA_u cz_fA_r (by omega)) (by omega)) (by omega)) (by omega))
      have hF2 := cz_mkF2 hK hF1
      refine hk _ hfr (cz_K_c cz_fI_r hfr (fun v hv => ?_) hK) (cz_F1_c hfr rfl rfl hF1) hF2
      obtain ⟨B, B1, hB, hstl⟩ := cz_stl_ex hK
      obtain ⟨-, -, e⟩ := hF2 B B1 ((cz_sp_c hfr).mpr hB) hstl
      rw [e, mz_stl_o hstl v hv]
      exact hB.2.2.2.2.2.2 v hv
set_option maxRecDepth 100000 in
set_option maxHeartbeats 4000000 in
theorem cw_3 {G : am_G} {Fn : Array Value → State → List Frame → State → Prop} (I A : Nat → Nat → Int32) (nv ns : Nat) (hK : cz_K nv ns I A) (hF1 : cz_F1 nv ns A) (hF2 : cz_F2 nv ns A) (rd w : Nat) (hrd : I 0 11 = nI rd) (hr4 : rd ≤ 4) (hw : w ≤ 4) (h : rd < 3 ∧ 3 ≤ w) (hk : ∀ I' A', cz_fI I I' → I' 0 11 = nI rd → cz_fA A A' → cz_K nv ns I' A' → cz_F1 nv ns A' → cz_F2 nv ns A' → cz_F3 nv ns I' A' → V G MX7_workOut (am_R 5 123 0 0) Fn 0 0 98 [(0, .ref 0), (1, .int (nI w))] [] (hp I' A')) : V G MX7_workOut (am_R 5 123 0 0) Fn 0 0 66 [(0, .ref 0), (1, .int (nI w))] [] (hp I A) := by
  obtain ⟨hn, hs, hnv, hns, hsw, hcl, hrg, hmem, h9, h10, h11, h20⟩ := id hK
  have h8 : ∀ s, s < ns → A 5 s = nI 8 → ¬ A 6 s < 0 := fun s hs e => mz_sw_8 (hsw s hs) e
  have h7 : ∀ s, s < ns → A 5 s = nI 7 → ¬ A 8 s < 0 := fun s hs e => mz_sw_7 (hsw s hs) e
  have hA : ∀ s, s < ns → mz_anew (A 5) (A 6) s = (-1) ∨ ∃ a, a < nv ∧ mz_anew (A 5) (A 6) s = nI a := fun s hs => mz_sw_anew (fb := A 7) (fc := A 8) (hsw s hs)
  refine V.aload_n (j := 0) rfl dX7_workOut_66 ?_
  refine V.geti (v := nI rd) dX7_workOut_67 fX7_73 rfl rfl hrd ?_
  refine V.iconst (v := nI 3) (by decide) dX7_workOut_70 ?_
  refine V.icmp_geN (tgt := 98) dX7_workOut_71 (by decide) (by omega) (by omega) (fun c1 => ?_) (fun c1 => ?_)
  · exact absurd c1 (by omega)
  · refine V.iload_n (j := 1) rfl dX7_workOut_74 ?_
    refine V.iconst (v := nI 3) (by decide) dX7_workOut_75 ?_
    refine V.icmp_ltN (tgt := 98) dX7_workOut_76 (by decide) (by omega) (by omega) (fun c2 => ?_) (fun c2 => ?_)
    · exact absurd c2 (by omega)
    · refine V.aload_n (j := 0) rfl dX7_workOut_79 ?_
      refine V.getr (q := 21) dX7_workOut_80 fX7_33 rfl rfl ?_
      refine V.aload_n (j := 0) rfl dX7_workOut_83 ?_
      refine V.getr (q := 1) dX7_workOut_84 fX7_12 rfl rfl ?_
      refine V.aload_n (j := 0) rfl dX7_workOut_87 ?_
      refine V.getr (q := 15) dX7_workOut_88 fX7_26 rfl rfl ?_
      refine V.aload_n (j := 0) rfl dX7_workOut_91 ?_
      refine V.getr (q := 25) dX7_workOut_92 fX7_49 rfl rfl ?_
      refine V.cV (As := [.ref 1, .ref 15, .ref 25]) (st := []) dX7_workOut_95 sX7_183 iX0_translate lX0_translate rfl rfl (cd_translate I A nv ns hs hns hnv hsw h9 h10 h11) ⟨by decide, by decide⟩ (Nat.le_of_ble_eq_true rfl) rfl (fun r I' A' hq => ?_)
      obtain ⟨rfl, c, n, f, f2, hcds, hn4, rfl, rfl⟩ := hq
      refine V.st (st' := []) rfl ?_
      have hfr : cz_fA A (upA (cz_CC A (mz_rts ns n f n 0 c)) 22 f2) := by unfold cz_CC; exact (cz_fA_u (cz_fA_u (cz_fA_u (cz_fA_u (cz_fA_u cz_fA_r (by omega)) (by omega)) (by omega)) (by omega)) (by omega))
      have hfi : cz_fI I (upI I 25 4 (nI n)) := fun a j _ z _ => upI_n (by omega)
      exact hk _ _ hfi hrd hfr (cz_K_c hfi hfr h20 hK) (cz_F1_c hfr rfl rfl hF1) (cz_F2_c hfr rfl rfl rfl hF2) (cz_mkF3 hK hF2 hcds hn4)
set_option maxRecDepth 100000 in
set_option maxHeartbeats 4000000 in
theorem cw_4 {G : am_G} {Fn : Array Value → State → List Frame → State → Prop} (I A : Nat → Nat → Int32) (nv ns : Nat) (hK : cz_K nv ns I A) (hF1 : cz_F1 nv ns A) (hF2 : cz_F2 nv ns A) (hF3 : cz_F3 nv ns I A) (rd w : Nat) (hrd : I 0 11 = nI rd) (hr4 : rd ≤ 4) (hw : w ≤ 4) (h : rd < 4 ∧ 4 ≤ w) (hk : ∀ I' A', cz_fI I I' → I' 0 11 = nI rd → cz_fA A A' → cz_K nv ns I' A' → cz_F1 nv ns A' → cz_F2 nv ns A' → cz_F3 nv ns I' A' → cz_F4 nv ns I' A' → V G MX7_workOut (am_R 5 123 0 0) Fn 0 0 133 [(0, .ref 0), (1, .int (nI w))] [] (hp I' A')) : V G MX7_workOut (am_R 5 123 0 0) Fn 0 0 98 [(0, .ref 0), (1, .int (nI w))] [] (hp I A) := by
  obtain ⟨hn, hs, hnv, hns, hsw, hcl, hrg, hmem, h9, h10, h11, h20⟩ := id hK
  have h8 : ∀ s, s < ns → A 5 s = nI 8 → ¬ A 6 s < 0 := fun s hs e => mz_sw_8 (hsw s hs) e
  have h7 : ∀ s, s < ns → A 5 s = nI 7 → ¬ A 8 s < 0 := fun s hs e => mz_sw_7 (hsw s hs) e
  have hA : ∀ s, s < ns → mz_anew (A 5) (A 6) s = (-1) ∨ ∃ a, a < nv ∧ mz_anew (A 5) (A 6) s = nI a := fun s hs => mz_sw_anew (fb := A 7) (fc := A 8) (hsw s hs)
  obtain ⟨n, hn240, en, hi2, htg, -⟩ := id hF3
  refine V.aload_n (j := 0) rfl dX7_workOut_98 ?_
  refine V.geti (v := nI rd) dX7_workOut_99 fX7_73 rfl rfl hrd ?_
  refine V.iconst (v := nI 4) (by decide) dX7_workOut_102 ?_
  refine V.icmp_geN (tgt := 133) dX7_workOut_103 (by decide) (by omega) (by omega) (fun c1 => ?_) (fun c1 => ?_)
  · exact absurd c1 (by omega)
  · refine V.iload_n (j := 1) rfl dX7_workOut_106 ?_
    refine V.iconst (v := nI 4) (by decide) dX7_workOut_107 ?_
    refine V.icmp_ltN (tgt := 133) dX7_workOut_108 (by decide) (by omega) (by omega) (fun c2 => ?_) (fun c2 => ?_)
    · exact absurd c2 (by omega)
    · refine V.aload_n (j := 0) rfl dX7_workOut_111 ?_
      refine V.getr (q := 30) dX7_workOut_112 fX7_53 rfl rfl ?_
      refine V.aload_n (j := 0) rfl dX7_workOut_115 ?_
      refine V.getr (q := 25) dX7_workOut_116 fX7_49 rfl rfl ?_
      refine V.cV (As := [.ref 25]) (st := []) dX7_workOut_119 sX7_187 iX3_copy lX3_copy rfl rfl (cd_copy I A n en hn240) ⟨by decide, by decide⟩ (Nat.le_of_ble_eq_true rfl) rfl (fun r I' A' hq => ?_)
      obtain ⟨rfl, c, hc, rfl, rfl⟩ := hq
      refine V.st (st' := []) rfl ?_
      refine V.aload_n (j := 0) rfl dX7_workOut_122 ?_
      refine V.getr (q := 23) dX7_workOut_123 fX7_40 rfl rfl ?_
      refine V.aload_n (j := 0) rfl dX7_workOut_126 ?_
      refine V.getr (q := 30) dX7_workOut_127 fX7_53 rfl rfl ?_
      refine V.cV (As := [.ref 30]) (st := []) dX7_workOut_130 sX7_191 iX6_tidy lX6_tidy rfl rfl (cd_tidy (upI I 30 4 (nI n)) A c n rfl hn240 (cz_tg_ok hc htg)) ⟨by decide, by decide⟩ (Nat.le_of_ble_eq_true rfl) rfl (fun r I' A' hq => ?_)
      obtain ⟨rfl, c2, n2, g2, htids, htok, rfl, rfl⟩ := hq
      refine V.st (st' := []) rfl ?_
      have hfr : cz_fA A (upA (cz_TT A c2) 24 g2) := by unfold cz_TT; exact (cz_fA_u (cz_fA_u (cz_fA_u (cz_fA_u (cz_fA_u cz_fA_r (by omega)) (by omega)) (by omega)) (by omega)) (by omega))
      have hfi : cz_fI I (upI (upI I 30 4 (nI n)) 30 4 (nI n2)) := fun a j _ _ z => by rw [upI_n (by omega), upI_n (by omega)]
      exact hk _ _ hfi hrd hfr (cz_K_c hfi hfr h20 hK) (cz_F1_c hfr rfl rfl hF1) (cz_F2_c hfr rfl rfl rfl hF2) (cz_F3_c hfr rfl rfl hF3) (cz_mkF4 hF3 en hn240 rfl hc htids)
set_option maxRecDepth 100000 in
set_option maxHeartbeats 4000000 in
theorem cd_work {G : am_G} (I A : Nat → Nat → Int32) (hst : am_sta G) (nv ns : Nat) (hK : cz_K nv ns I A) (rd w : Nat) (hrd : I 0 11 = nI rd) (hr4 : rd ≤ 4) (hw : w ≤ 4) (hL : cz_L rd nv ns I A) : Cm G MX7_workOut 5 123 [.ref 0, .int (nI w)] I A (fun r I' A' => r = none ∧ cz_fI I I' ∧ cz_fA A A' ∧ I' 0 11 = nI (max rd w) ∧ cz_K nv ns I' A' ∧ cz_L (max rd w) nv ns I' A') := by
  refine Cm.of (by decide) (Nat.le_of_ble_eq_true rfl) rfl ?_
  show V G MX7_workOut (am_R 5 123 0 0) _ 0 0 0 [(0, .ref 0), (1, .int (nI w))] [] (hp I A)
  have fin : ∀ I' A', cz_fI I I' → I' 0 11 = nI rd → cz_fA A A' → cz_K nv ns I' A' → cz_L (max rd w) nv ns I' A' → V G MX7_workOut (am_R 5 123 0 0) (am_Fin G 0 0 (Pm (fun r I' A' => r = none ∧ cz_fI I I' ∧ cz_fA A A' ∧ I' 0 11 = nI (max rd w) ∧ cz_K nv ns I' A' ∧ cz_L (max rd w) nv ns I' A'))) 0 0 133 [(0, .ref 0), (1, .int (nI w))] [] (hp I' A') := by
    intro I' A' fI e fA hK' hL'
    refine V.aload_n (j := 0) rfl dX7_workOut_133 ?_
    refine V.aload_n (j := 0) rfl dX7_workOut_134 ?_
    refine V.geti (v := nI rd) dX7_workOut_135 fX7_73 rfl rfl e ?_
    refine V.iload_n (j := 1) rfl dX7_workOut_138 ?_
    refine V.cS (As := [.int (nI rd), .int (nI w)]) (st := [.ref 0]) dX7_workOut_139 sX7_194 zJ9_max_7cf53 (cd_max I' A' (nI rd) (nI w)) ⟨by decide, by decide⟩ (Nat.le_of_ble_eq_true rfl) rfl (fun r I2 A2 hq => ?_)
    obtain ⟨rfl, rfl, rfl⟩ := hq
    have em : (if nI w ≤ nI rd then nI rd else nI w) = nI (max rd w) := by
      by_cases q : w ≤ rd
      · rw [if_pos ((nI_leI (by omega) (by omega)).mpr q), Nat.max_eq_left q]
      · rw [if_neg (fun z => q ((nI_leI (by omega) (by omega)).mp z)), Nat.max_eq_right (by omega)]
    refine V.st (st' := [.int (nI (max rd w)), .ref 0]) (congrArg (fun x => [Value.int x, .ref 0]) em) ?_
    refine V.puti dX7_workOut_142 pX7_73 rfl rfl ?_
    refine V.rv dX7_workOut_145 rfl ?_
    have f2 : cz_fI I' (upI I' 0 11 (nI (max rd w))) := fun a j z _ _ => upI_n (by omega)
    obtain ⟨l1, l2, l3, l4⟩ := hL'
    exact ⟨rfl, cz_fI_t fI f2, fA, rfl, cz_K_c f2 cz_fA_r hK'.2.2.2.2.2.2.2.2.2.2.2 hK', l1, l2, fun z => cz_F3_c cz_fA_r rfl rfl (l3 z), fun z => cz_F4_c cz_fA_r rfl rfl (l4 z)⟩
  have st4 : ∀ I' A', cz_fI I I' → I' 0 11 = nI rd → cz_fA A A' → cz_K nv ns I' A' → cz_L rd nv ns I' A' → (1 ≤ w → cz_F1 nv ns A') → (2 ≤ w → cz_F2 nv ns A') → (3 ≤ w → cz_F3 nv ns I' A') → V G MX7_workOut (am_R 5 123 0 0) (am_Fin G 0 0 (Pm (fun r I' A' => r = none ∧ cz_fI I I' ∧ cz_fA A A' ∧ I' 0 11 = nI (max rd w) ∧ cz_K nv ns I' A' ∧ cz_L (max rd w) nv ns I' A'))) 0 0 98 [(0, .ref 0), (1, .int (nI w))] [] (hp I' A') := by
    intro I' A' fI e fA hK' hL' g1 g2 g3
    have lv : ∀ k (Q : Prop), (k ≤ rd → Q) → (k ≤ w → Q) → k ≤ max rd w → Q := fun k Q x y z => by
      by_cases q : k ≤ rd
      · exact x q
      · exact y (by omega)
    by_cases q : rd < 4 ∧ 4 ≤ w
    · refine cw_4 I' A' nv ns hK' (g1 (by omega)) (g2 (by omega)) (g3 (by omega)) rd w e hr4 hw q (fun I2 A2 a1 a2 a3 a4 a5 a6 a7 a8 => ?_)
      exact fin I2 A2 (cz_fI_t fI a1) a2 (cz_fA_t fA a3) a4 ⟨fun _ => a5, fun _ => a6, fun _ => a7, fun _ => a8⟩
    · refine cw_4s I' A' rd w e hr4 hw q ?_
      exact fin I' A' fI e fA hK' ⟨lv 1 _ hL'.1 g1, lv 2 _ hL'.2.1 g2, lv 3 _ hL'.2.2.1 g3, lv 4 _ hL'.2.2.2 (fun z => hL'.2.2.2 (by omega))⟩
  have st3 : ∀ A', cz_fA A A' → cz_K nv ns I A' → cz_L rd nv ns I A' → (1 ≤ w → cz_F1 nv ns A') → (2 ≤ w → cz_F2 nv ns A') → V G MX7_workOut (am_R 5 123 0 0) (am_Fin G 0 0 (Pm (fun r I' A' => r = none ∧ cz_fI I I' ∧ cz_fA A A' ∧ I' 0 11 = nI (max rd w) ∧ cz_K nv ns I' A' ∧ cz_L (max rd w) nv ns I' A'))) 0 0 66 [(0, .ref 0), (1, .int (nI w))] [] (hp I A') := by
    intro A' fA hK' hL' g1 g2
    by_cases q : rd < 3 ∧ 3 ≤ w
    · refine cw_3 I A' nv ns hK' (g1 (by omega)) (g2 (by omega)) rd w hrd hr4 hw q (fun I2 A2 a1 a2 a3 a4 a5 a6 a7 => ?_)
      exact st4 I2 A2 a1 a2 (cz_fA_t fA a3) a4 ⟨fun _ => a5, fun _ => a6, fun _ => a7, fun z => absurd z (by omega)⟩ (fun _ => a5) (fun _ => a6) (fun _ => a7)
    · refine cw_3s I A' rd w hrd hr4 hw q ?_
      exact st4 I A' cz_fI_r hrd fA hK' hL' g1 g2 (fun z => hL'.2.2.1 (by omega))
  have st2 : ∀ A', cz_fA A A' → cz_K nv ns I A' → cz_L rd nv ns I A' → (1 ≤ w → cz_F1 nv ns A') → V G MX7_workOut (am_R 5 123 0 0) (am_Fin G 0 0 (Pm (fun r I' A' => r = none ∧ cz_fI I I' ∧ cz_fA A A' ∧ I' 0 11 = nI (max rd w) ∧ cz_K nv ns I' A' ∧ cz_L (max rd w) nv ns I' A'))) 0 0 35 [(0, .ref 0), (1, .int (nI w))] [] (hp I A') := by
    intro A' fA hK' hL' g1
    by_cases q : rd < 2 ∧ 2 ≤ w
    · refine cw_2 I A' hst nv ns hK' (g1 (by omega)) rd w hrd hr4 hw q (fun A2 a3 a4 a5 a6 => ?_)
      exact st3 A2 (cz_fA_t fA a3) a4 ⟨fun _ => a5, fun _ => a6, fun z => absurd z (by omega), fun z => absurd z (by omega)⟩ (fun _ => a5) (fun _ => a6)
    · refine cw_2s I A' rd w hrd hr4 hw q ?_
      exact st3 A' fA hK' hL' g1 (fun z => hL'.2.1 (by omega))
  by_cases q : rd < 1 ∧ 1 ≤ w
  · refine cw_1 I A nv ns hK rd w hrd hr4 hw q (fun A2 a3 a4 a5 => ?_)
    exact st2 A2 a3 a4 ⟨fun _ => a5, fun z => absurd z (by omega), fun z => absurd z (by omega), fun z => absurd z (by omega)⟩ (fun _ => a5)
  · refine cw_1s I A rd w hrd hr4 hw q ?_
    exact st2 A cz_fA_r hK hL (fun z => hL.1 (by omega))
